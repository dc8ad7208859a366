section
-- ===== PART A: goes FIRST, ahead of the names: the tables' words, and 'selects' of the private methods out of them =====
/-- a private method of a class that the tables say can be made, by its rows of tables_1 -/
def lw_okq (q : MethodName × Nat) : Prop := (q.1.cls ≠ "java/lang/invoke/MethodHandle" ∧ q.1.cls ≠ "java/lang/invoke/VarHandle") ∧ Cond.instantiable q.1.cls q.2 ∈ tables_1 ∧ Cond.privateMethod q.1 ∈ tables_1 ∧ Cond.instanceMethod q.1 ∈ tables_1
theorem lw_p0 : lw_okq (⟨"TokenRows", "putInt", "(I)V"⟩, 13) := ⟨⟨by decide +kernel, by decide +kernel⟩, List.mem_of_getElem? (i := 9) (by decide +kernel), List.mem_of_getElem? (i := 64) (by decide +kernel), List.mem_of_getElem? (i := 65) (by decide +kernel)⟩
theorem lw_p1 : lw_okq (⟨"TokenRows", "putByte", "(I)V"⟩, 13) := ⟨⟨by decide +kernel, by decide +kernel⟩, List.mem_of_getElem? (i := 9) (by decide +kernel), List.mem_of_getElem? (i := 68) (by decide +kernel), List.mem_of_getElem? (i := 69) (by decide +kernel)⟩
theorem lw_p2 : lw_okq (⟨"TokenRows", "takeTray", "()V"⟩, 13) := ⟨⟨by decide +kernel, by decide +kernel⟩, List.mem_of_getElem? (i := 9) (by decide +kernel), List.mem_of_getElem? (i := 80) (by decide +kernel), List.mem_of_getElem? (i := 81) (by decide +kernel)⟩
theorem lw_p3 : lw_okq (⟨"TokenRows", "pastBlankOrToken", "(I)I"⟩, 13) := ⟨⟨by decide +kernel, by decide +kernel⟩, List.mem_of_getElem? (i := 9) (by decide +kernel), List.mem_of_getElem? (i := 84) (by decide +kernel), List.mem_of_getElem? (i := 85) (by decide +kernel)⟩
theorem lw_p4 : lw_okq (⟨"TokenRows", "byteAt", "(I)I"⟩, 13) := ⟨⟨by decide +kernel, by decide +kernel⟩, List.mem_of_getElem? (i := 9) (by decide +kernel), List.mem_of_getElem? (i := 88) (by decide +kernel), List.mem_of_getElem? (i := 89) (by decide +kernel)⟩
theorem lw_p5 : lw_okq (⟨"TokenRows", "countLine", "(I)V"⟩, 13) := ⟨⟨by decide +kernel, by decide +kernel⟩, List.mem_of_getElem? (i := 9) (by decide +kernel), List.mem_of_getElem? (i := 95) (by decide +kernel), List.mem_of_getElem? (i := 96) (by decide +kernel)⟩
theorem lw_p6 : lw_okq (⟨"TokenRows", "pastLineComment", "(I)I"⟩, 13) := ⟨⟨by decide +kernel, by decide +kernel⟩, List.mem_of_getElem? (i := 9) (by decide +kernel), List.mem_of_getElem? (i := 99) (by decide +kernel), List.mem_of_getElem? (i := 100) (by decide +kernel)⟩
theorem lw_p7 : lw_okq (⟨"TokenRows", "fail", "(I)I"⟩, 13) := ⟨⟨by decide +kernel, by decide +kernel⟩, List.mem_of_getElem? (i := 9) (by decide +kernel), List.mem_of_getElem? (i := 106) (by decide +kernel), List.mem_of_getElem? (i := 107) (by decide +kernel)⟩
theorem lw_p8 : lw_okq (⟨"TokenRows", "pastStarComment", "(I)I"⟩, 13) := ⟨⟨by decide +kernel, by decide +kernel⟩, List.mem_of_getElem? (i := 9) (by decide +kernel), List.mem_of_getElem? (i := 110) (by decide +kernel), List.mem_of_getElem? (i := 111) (by decide +kernel)⟩
theorem lw_p9 : lw_okq (⟨"TokenRows", "pastName", "(I)I"⟩, 13) := ⟨⟨by decide +kernel, by decide +kernel⟩, List.mem_of_getElem? (i := 9) (by decide +kernel), List.mem_of_getElem? (i := 117) (by decide +kernel), List.mem_of_getElem? (i := 118) (by decide +kernel)⟩
theorem lw_p10 : lw_okq (⟨"TokenRows", "wordNumber", "(II)I"⟩, 13) := ⟨⟨by decide +kernel, by decide +kernel⟩, List.mem_of_getElem? (i := 9) (by decide +kernel), List.mem_of_getElem? (i := 127) (by decide +kernel), List.mem_of_getElem? (i := 128) (by decide +kernel)⟩
theorem lw_p11 : lw_okq (⟨"TokenRows", "keep", "(IIII)I"⟩, 13) := ⟨⟨by decide +kernel, by decide +kernel⟩, List.mem_of_getElem? (i := 9) (by decide +kernel), List.mem_of_getElem? (i := 133) (by decide +kernel), List.mem_of_getElem? (i := 134) (by decide +kernel)⟩
theorem lw_p12 : lw_okq (⟨"TokenRows", "isHexNumber", "(I)Z"⟩, 13) := ⟨⟨by decide +kernel, by decide +kernel⟩, List.mem_of_getElem? (i := 9) (by decide +kernel), List.mem_of_getElem? (i := 137) (by decide +kernel), List.mem_of_getElem? (i := 138) (by decide +kernel)⟩
theorem lw_p13 : lw_okq (⟨"TokenRows", "pastHexNumber", "(I)I"⟩, 13) := ⟨⟨by decide +kernel, by decide +kernel⟩, List.mem_of_getElem? (i := 9) (by decide +kernel), List.mem_of_getElem? (i := 144) (by decide +kernel), List.mem_of_getElem? (i := 145) (by decide +kernel)⟩
theorem lw_p14 : lw_okq (⟨"TokenRows", "pastDigits", "(I)I"⟩, 13) := ⟨⟨by decide +kernel, by decide +kernel⟩, List.mem_of_getElem? (i := 9) (by decide +kernel), List.mem_of_getElem? (i := 148) (by decide +kernel), List.mem_of_getElem? (i := 149) (by decide +kernel)⟩
theorem lw_p15 : lw_okq (⟨"TokenRows", "pastQuotedCode", "(I)I"⟩, 13) := ⟨⟨by decide +kernel, by decide +kernel⟩, List.mem_of_getElem? (i := 9) (by decide +kernel), List.mem_of_getElem? (i := 158) (by decide +kernel), List.mem_of_getElem? (i := 159) (by decide +kernel)⟩
def lw_privs_1 : List (MethodName × Nat) := [(⟨"TokenRows", "putInt", "(I)V"⟩, 13), (⟨"TokenRows", "putByte", "(I)V"⟩, 13), (⟨"TokenRows", "takeTray", "()V"⟩, 13), (⟨"TokenRows", "pastBlankOrToken", "(I)I"⟩, 13), (⟨"TokenRows", "byteAt", "(I)I"⟩, 13), (⟨"TokenRows", "countLine", "(I)V"⟩, 13), (⟨"TokenRows", "pastLineComment", "(I)I"⟩, 13), (⟨"TokenRows", "fail", "(I)I"⟩, 13), (⟨"TokenRows", "pastStarComment", "(I)I"⟩, 13), (⟨"TokenRows", "pastName", "(I)I"⟩, 13), (⟨"TokenRows", "wordNumber", "(II)I"⟩, 13), (⟨"TokenRows", "keep", "(IIII)I"⟩, 13), (⟨"TokenRows", "isHexNumber", "(I)Z"⟩, 13), (⟨"TokenRows", "pastHexNumber", "(I)I"⟩, 13), (⟨"TokenRows", "pastDigits", "(I)I"⟩, 13), (⟨"TokenRows", "pastQuotedCode", "(I)I"⟩, 13)]
theorem lw_r1 : ∀ q ∈ lw_privs_1, lw_okq q := List.forall_mem_cons.mpr ⟨lw_p0, List.forall_mem_cons.mpr ⟨lw_p1, List.forall_mem_cons.mpr ⟨lw_p2, List.forall_mem_cons.mpr ⟨lw_p3, List.forall_mem_cons.mpr ⟨lw_p4, List.forall_mem_cons.mpr ⟨lw_p5, List.forall_mem_cons.mpr ⟨lw_p6, List.forall_mem_cons.mpr ⟨lw_p7, List.forall_mem_cons.mpr ⟨lw_p8, List.forall_mem_cons.mpr ⟨lw_p9, List.forall_mem_cons.mpr ⟨lw_p10, List.forall_mem_cons.mpr ⟨lw_p11, List.forall_mem_cons.mpr ⟨lw_p12, List.forall_mem_cons.mpr ⟨lw_p13, List.forall_mem_cons.mpr ⟨lw_p14, List.forall_mem_cons.mpr ⟨lw_p15, fun _ h => absurd h List.not_mem_nil⟩⟩⟩⟩⟩⟩⟩⟩⟩⟩⟩⟩⟩⟩⟩⟩
theorem lw_p16 : lw_okq (⟨"TokenRows", "codeWidth", "(II)I"⟩, 13) := ⟨⟨by decide +kernel, by decide +kernel⟩, List.mem_of_getElem? (i := 9) (by decide +kernel), List.mem_of_getElem? (i := 162) (by decide +kernel), List.mem_of_getElem? (i := 163) (by decide +kernel)⟩
theorem lw_p17 : lw_okq (⟨"TokenRows", "codeAt", "(I)I"⟩, 13) := ⟨⟨by decide +kernel, by decide +kernel⟩, List.mem_of_getElem? (i := 9) (by decide +kernel), List.mem_of_getElem? (i := 169) (by decide +kernel), List.mem_of_getElem? (i := 170) (by decide +kernel)⟩
theorem lw_p18 : lw_okq (⟨"TokenRows", "pastString", "(I)I"⟩, 13) := ⟨⟨by decide +kernel, by decide +kernel⟩, List.mem_of_getElem? (i := 9) (by decide +kernel), List.mem_of_getElem? (i := 173) (by decide +kernel), List.mem_of_getElem? (i := 174) (by decide +kernel)⟩
theorem lw_p19 : lw_okq (⟨"TokenRows", "pastSign", "(I)I"⟩, 13) := ⟨⟨by decide +kernel, by decide +kernel⟩, List.mem_of_getElem? (i := 9) (by decide +kernel), List.mem_of_getElem? (i := 177) (by decide +kernel), List.mem_of_getElem? (i := 178) (by decide +kernel)⟩
theorem lw_p20 : lw_okq (⟨"TokenRows", "isToken", "(I)Z"⟩, 13) := ⟨⟨by decide +kernel, by decide +kernel⟩, List.mem_of_getElem? (i := 9) (by decide +kernel), List.mem_of_getElem? (i := 208) (by decide +kernel), List.mem_of_getElem? (i := 209) (by decide +kernel)⟩
theorem lw_p21 : lw_okq (⟨"TokenRows", "isOfKind", "(II)Z"⟩, 13) := ⟨⟨by decide +kernel, by decide +kernel⟩, List.mem_of_getElem? (i := 9) (by decide +kernel), List.mem_of_getElem? (i := 216) (by decide +kernel), List.mem_of_getElem? (i := 217) (by decide +kernel)⟩
theorem lw_p22 : lw_okq (⟨"TokenRowsModel", "four", "(I)V"⟩, 10) := ⟨⟨by decide +kernel, by decide +kernel⟩, List.mem_of_getElem? (i := 248) (by decide +kernel), List.mem_of_getElem? (i := 290) (by decide +kernel), List.mem_of_getElem? (i := 291) (by decide +kernel)⟩
theorem lw_p23 : lw_okq (⟨"TokenRowsModel", "blanks", "(I)I"⟩, 10) := ⟨⟨by decide +kernel, by decide +kernel⟩, List.mem_of_getElem? (i := 248) (by decide +kernel), List.mem_of_getElem? (i := 302) (by decide +kernel), List.mem_of_getElem? (i := 303) (by decide +kernel)⟩
theorem lw_p24 : lw_okq (⟨"TokenRowsModel", "look", "(I)I"⟩, 10) := ⟨⟨by decide +kernel, by decide +kernel⟩, List.mem_of_getElem? (i := 248) (by decide +kernel), List.mem_of_getElem? (i := 306) (by decide +kernel), List.mem_of_getElem? (i := 307) (by decide +kernel)⟩
theorem lw_p25 : lw_okq (⟨"TokenRowsModel", "kindAt", "(I)I"⟩, 10) := ⟨⟨by decide +kernel, by decide +kernel⟩, List.mem_of_getElem? (i := 248) (by decide +kernel), List.mem_of_getElem? (i := 316) (by decide +kernel), List.mem_of_getElem? (i := 317) (by decide +kernel)⟩
theorem lw_p26 : lw_okq (⟨"TokenRowsModel", "signEnd", "(I)I"⟩, 10) := ⟨⟨by decide +kernel, by decide +kernel⟩, List.mem_of_getElem? (i := 248) (by decide +kernel), List.mem_of_getElem? (i := 326) (by decide +kernel), List.mem_of_getElem? (i := 327) (by decide +kernel)⟩
theorem lw_p27 : lw_okq (⟨"TokenRowsModel", "isAt", "(ILjava/lang/String;II)Z"⟩, 10) := ⟨⟨by decide +kernel, by decide +kernel⟩, List.mem_of_getElem? (i := 248) (by decide +kernel), List.mem_of_getElem? (i := 379) (by decide +kernel), List.mem_of_getElem? (i := 380) (by decide +kernel)⟩
theorem lw_p28 : lw_okq (⟨"TokenRowsModel", "endOf", "(II)I"⟩, 10) := ⟨⟨by decide +kernel, by decide +kernel⟩, List.mem_of_getElem? (i := 248) (by decide +kernel), List.mem_of_getElem? (i := 383) (by decide +kernel), List.mem_of_getElem? (i := 384) (by decide +kernel)⟩
theorem lw_p29 : lw_okq (⟨"TokenRowsModel", "stringEnd", "(I)I"⟩, 10) := ⟨⟨by decide +kernel, by decide +kernel⟩, List.mem_of_getElem? (i := 248) (by decide +kernel), List.mem_of_getElem? (i := 387) (by decide +kernel), List.mem_of_getElem? (i := 388) (by decide +kernel)⟩
theorem lw_p30 : lw_okq (⟨"TokenRowsModel", "behind", "(II)I"⟩, 10) := ⟨⟨by decide +kernel, by decide +kernel⟩, List.mem_of_getElem? (i := 248) (by decide +kernel), List.mem_of_getElem? (i := 391) (by decide +kernel), List.mem_of_getElem? (i := 392) (by decide +kernel)⟩
theorem lw_p31 : lw_okq (⟨"TokenRowsModel", "isInt", "(II)Z"⟩, 10) := ⟨⟨by decide +kernel, by decide +kernel⟩, List.mem_of_getElem? (i := 248) (by decide +kernel), List.mem_of_getElem? (i := 398) (by decide +kernel), List.mem_of_getElem? (i := 399) (by decide +kernel)⟩
def lw_privs_2 : List (MethodName × Nat) := [(⟨"TokenRows", "codeWidth", "(II)I"⟩, 13), (⟨"TokenRows", "codeAt", "(I)I"⟩, 13), (⟨"TokenRows", "pastString", "(I)I"⟩, 13), (⟨"TokenRows", "pastSign", "(I)I"⟩, 13), (⟨"TokenRows", "isToken", "(I)Z"⟩, 13), (⟨"TokenRows", "isOfKind", "(II)Z"⟩, 13), (⟨"TokenRowsModel", "four", "(I)V"⟩, 10), (⟨"TokenRowsModel", "blanks", "(I)I"⟩, 10), (⟨"TokenRowsModel", "look", "(I)I"⟩, 10), (⟨"TokenRowsModel", "kindAt", "(I)I"⟩, 10), (⟨"TokenRowsModel", "signEnd", "(I)I"⟩, 10), (⟨"TokenRowsModel", "isAt", "(ILjava/lang/String;II)Z"⟩, 10), (⟨"TokenRowsModel", "endOf", "(II)I"⟩, 10), (⟨"TokenRowsModel", "stringEnd", "(I)I"⟩, 10), (⟨"TokenRowsModel", "behind", "(II)I"⟩, 10), (⟨"TokenRowsModel", "isInt", "(II)Z"⟩, 10)]
theorem lw_r2 : ∀ q ∈ lw_privs_2, lw_okq q := List.forall_mem_cons.mpr ⟨lw_p16, List.forall_mem_cons.mpr ⟨lw_p17, List.forall_mem_cons.mpr ⟨lw_p18, List.forall_mem_cons.mpr ⟨lw_p19, List.forall_mem_cons.mpr ⟨lw_p20, List.forall_mem_cons.mpr ⟨lw_p21, List.forall_mem_cons.mpr ⟨lw_p22, List.forall_mem_cons.mpr ⟨lw_p23, List.forall_mem_cons.mpr ⟨lw_p24, List.forall_mem_cons.mpr ⟨lw_p25, List.forall_mem_cons.mpr ⟨lw_p26, List.forall_mem_cons.mpr ⟨lw_p27, List.forall_mem_cons.mpr ⟨lw_p28, List.forall_mem_cons.mpr ⟨lw_p29, List.forall_mem_cons.mpr ⟨lw_p30, List.forall_mem_cons.mpr ⟨lw_p31, fun _ h => absurd h List.not_mem_nil⟩⟩⟩⟩⟩⟩⟩⟩⟩⟩⟩⟩⟩⟩⟩⟩
theorem lw_p32 : lw_okq (⟨"TokenRowsModel", "isToken", "(I)Z"⟩, 10) := ⟨⟨by decide +kernel, by decide +kernel⟩, List.mem_of_getElem? (i := 248) (by decide +kernel), List.mem_of_getElem? (i := 417) (by decide +kernel), List.mem_of_getElem? (i := 418) (by decide +kernel)⟩
theorem lw_p33 : lw_okq (⟨"TokenRowsModel", "among", "(ILjava/lang/String;)I"⟩, 10) := ⟨⟨by decide +kernel, by decide +kernel⟩, List.mem_of_getElem? (i := 248) (by decide +kernel), List.mem_of_getElem? (i := 422) (by decide +kernel), List.mem_of_getElem? (i := 423) (by decide +kernel)⟩
theorem lw_p34 : lw_okq (⟨"TokenRowsModel", "codeAt", "(I)I"⟩, 10) := ⟨⟨by decide +kernel, by decide +kernel⟩, List.mem_of_getElem? (i := 248) (by decide +kernel), List.mem_of_getElem? (i := 447) (by decide +kernel), List.mem_of_getElem? (i := 448) (by decide +kernel)⟩
def lw_privs_3 : List (MethodName × Nat) := [(⟨"TokenRowsModel", "isToken", "(I)Z"⟩, 10), (⟨"TokenRowsModel", "among", "(ILjava/lang/String;)I"⟩, 10), (⟨"TokenRowsModel", "codeAt", "(I)I"⟩, 10)]
theorem lw_r3 : ∀ q ∈ lw_privs_3, lw_okq q := List.forall_mem_cons.mpr ⟨lw_p32, List.forall_mem_cons.mpr ⟨lw_p33, List.forall_mem_cons.mpr ⟨lw_p34, fun _ h => absurd h List.not_mem_nil⟩⟩⟩
def lw_privs : List (MethodName × Nat) := lw_privs_1 ++ (lw_privs_2 ++ (lw_privs_3))
def lw_tbl : List Cond := k2_sels lw_privs ++ tables_1
theorem lw_privs_ok : ∀ q ∈ lw_privs, lw_okq q := by
  show ∀ q ∈ lw_privs_1 ++ (lw_privs_2 ++ (lw_privs_3)), lw_okq q
  exact List.forall_mem_append.mpr ⟨lw_r1, List.forall_mem_append.mpr ⟨lw_r2, lw_r3⟩⟩
end
section
/-! ===== BEGIN words of one list among another's, by their places ===== -/
theorem goodIn_r {big : List Cond} (ws : List Cond) (ps : List Nat) (hp : ws = ps.filterMap (fun i => big[i]?)) (h : ws.all goodWord = true) : GoodIn big ws := by
  intro w hw
  have h1 := List.all_eq_true.mp h w hw
  rw [hp] at hw
  obtain ⟨i, -, hi⟩ := List.mem_filterMap.mp hw
  have hm : w ∈ big := by first | exact List.mem_of_getElem? hi | exact List.getElem?_mem hi
  exact ⟨hm, good_of_word h1⟩
theorem goodIn_app {big a b : List Cond} (ha : GoodIn big a) (hb : GoodIn big b) : GoodIn big (a ++ b) := fun w h => (List.mem_append.mp h).elim (ha w) (hb w)
theorem goodIn_ca {big a b : List Cond} {c : Cond} (ha : GoodIn big (c :: a)) (hb : GoodIn big b) : GoodIn big (c :: (a ++ b)) := fun w h => (List.mem_cons.mp h).elim (fun e => ha w (List.mem_cons.mpr (Or.inl e))) (fun h => (List.mem_append.mp h).elim (fun h => ha w (List.mem_cons.mpr (Or.inr h))) (hb w))
theorem goodIn_sub {big ws : List Cond} (hm : ∀ w ∈ ws, w ∈ big) (h : ws.all goodWord = true) : GoodIn big ws := fun w hw => ⟨hm w hw, good_of_word (List.all_eq_true.mp h w hw)⟩
/-! ===== END ===== -/

/-! ===== BEGIN printed: names, fields, word lists, decode rows ===== -/
def RX0 : String := "TokenRows"
def TX0 : u_T := fun k => match k with
  | 0 => ("TokenRows", "tray", "[B", false)
  | 1 => ("TokenRows", "traySize", "I", false)
  | 2 => ("TokenRows", "fedInAll", "I", false)
  | 3 => ("TokenRows", "text", "[B", false)
  | 4 => ("TokenRows", "textSize", "I", false)
  | 5 => ("TokenRows", "lineNow", "I", false)
  | 6 => ("TokenRows", "fault", "I", false)
  | 7 => ("TokenRows", "kinds", "[I", true)
  | 8 => ("TokenRows", "starts", "[I", true)
  | 9 => ("TokenRows", "sizes", "[I", true)
  | 10 => ("TokenRows", "lines", "[I", true)
  | 11 => ("TokenRows", "tells", "[I", true)
  | _ => ("TokenRows", "count", "I", false)
def tyX0 : Nat → FieldType := fun k => match k with
  | 0 => .array .byte
  | 1 => .int
  | 2 => .int
  | 3 => .array .byte
  | 4 => .int
  | 5 => .int
  | 6 => .int
  | 7 => .array .int
  | 8 => .array .int
  | 9 => .array .int
  | 10 => .array .int
  | 11 => .array .int
  | _ => .int
abbrev wsX00 : List Cond := u_ws RX0 TX0 13
theorem nmX0 : ∀ a, a < 13 → ∀ b, b < 13 → a ≠ b → (TX0 a).2.1 ≠ (TX0 b).2.1 := by decide +kernel
theorem tyX0_ok : ∀ k, k < 13 → parseFieldDescriptor (TX0 k).2.2.1 = some (tyX0 k) := by decide +kernel
abbrev cX0_init : ByteArray := prog_1_method_1_code
def yX0_init : MethodName := ⟨RX0, "<init>", "()V"⟩
abbrev cX0_feed : ByteArray := prog_1_method_2_code
def yX0_feed : MethodName := ⟨RX0, "feed", "(IIIII)I"⟩
abbrev cX0_end : ByteArray := prog_1_method_3_code
def yX0_end : MethodName := ⟨RX0, "end", "(I)I"⟩
abbrev cX0_cut : ByteArray := prog_1_method_4_code
def yX0_cut : MethodName := ⟨RX0, "cut", "()I"⟩
abbrev cX0_place : ByteArray := prog_1_method_5_code
def yX0_place : MethodName := ⟨RX0, "place", "()I"⟩
abbrev cX0_tokens : ByteArray := prog_1_method_6_code
def yX0_tokens : MethodName := ⟨RX0, "tokens", "()I"⟩
abbrev cX0_kind : ByteArray := prog_1_method_7_code
def yX0_kind : MethodName := ⟨RX0, "kind", "(I)I"⟩
abbrev cX0_which : ByteArray := prog_1_method_8_code
def yX0_which : MethodName := ⟨RX0, "which", "(I)I"⟩
abbrev cX0_from : ByteArray := prog_1_method_9_code
def yX0_from : MethodName := ⟨RX0, "from", "(I)I"⟩
abbrev cX0_length : ByteArray := prog_1_method_10_code
def yX0_length : MethodName := ⟨RX0, "length", "(I)I"⟩
abbrev cX0_line : ByteArray := prog_1_method_11_code
def yX0_line : MethodName := ⟨RX0, "line", "(I)I"⟩
abbrev cX0_worth : ByteArray := prog_1_method_12_code
def yX0_worth : MethodName := ⟨RX0, "worth", "(I)I"⟩
abbrev cX0_codes : ByteArray := prog_1_method_13_code
def yX0_codes : MethodName := ⟨RX0, "codes", "(I)I"⟩
abbrev cX0_code : ByteArray := prog_1_method_14_code
def yX0_code : MethodName := ⟨RX0, "code", "(II)I"⟩
abbrev cX0_same : ByteArray := prog_1_method_15_code
def yX0_same : MethodName := ⟨RX0, "same", "(II)Z"⟩
abbrev cX0_putInt : ByteArray := prog_1_method_16_code
def yX0_putInt : MethodName := ⟨RX0, "putInt", "(I)V"⟩
abbrev cX0_putByte : ByteArray := prog_1_method_17_code
def yX0_putByte : MethodName := ⟨RX0, "putByte", "(I)V"⟩
abbrev cX0_takeTray : ByteArray := prog_1_method_18_code
def yX0_takeTray : MethodName := ⟨RX0, "takeTray", "()V"⟩
abbrev cX0_pastBlankOrToken : ByteArray := prog_1_method_19_code
def yX0_pastBlankOrToken : MethodName := ⟨RX0, "pastBlankOrToken", "(I)I"⟩
abbrev cX0_pastLineComment : ByteArray := prog_1_method_20_code
def yX0_pastLineComment : MethodName := ⟨RX0, "pastLineComment", "(I)I"⟩
abbrev cX0_pastStarComment : ByteArray := prog_1_method_21_code
def yX0_pastStarComment : MethodName := ⟨RX0, "pastStarComment", "(I)I"⟩
abbrev cX0_pastName : ByteArray := prog_1_method_22_code
def yX0_pastName : MethodName := ⟨RX0, "pastName", "(I)I"⟩
abbrev cX0_pastDigits : ByteArray := prog_1_method_23_code
def yX0_pastDigits : MethodName := ⟨RX0, "pastDigits", "(I)I"⟩
abbrev cX0_isHexNumber : ByteArray := prog_1_method_24_code
def yX0_isHexNumber : MethodName := ⟨RX0, "isHexNumber", "(I)Z"⟩
abbrev cX0_pastHexNumber : ByteArray := prog_1_method_25_code
def yX0_pastHexNumber : MethodName := ⟨RX0, "pastHexNumber", "(I)I"⟩
abbrev cX0_pastQuotedCode : ByteArray := prog_1_method_26_code
def yX0_pastQuotedCode : MethodName := ⟨RX0, "pastQuotedCode", "(I)I"⟩
abbrev cX0_pastString : ByteArray := prog_1_method_27_code
def yX0_pastString : MethodName := ⟨RX0, "pastString", "(I)I"⟩
abbrev cX0_pastSign : ByteArray := prog_1_method_28_code
def yX0_pastSign : MethodName := ⟨RX0, "pastSign", "(I)I"⟩
abbrev cX0_keep : ByteArray := prog_1_method_29_code
def yX0_keep : MethodName := ⟨RX0, "keep", "(IIII)I"⟩
abbrev cX0_fail : ByteArray := prog_1_method_30_code
def yX0_fail : MethodName := ⟨RX0, "fail", "(I)I"⟩
abbrev cX0_countLine : ByteArray := prog_1_method_31_code
def yX0_countLine : MethodName := ⟨RX0, "countLine", "(I)V"⟩
abbrev cX0_isToken : ByteArray := prog_1_method_32_code
def yX0_isToken : MethodName := ⟨RX0, "isToken", "(I)Z"⟩
abbrev cX0_isOfKind : ByteArray := prog_1_method_33_code
def yX0_isOfKind : MethodName := ⟨RX0, "isOfKind", "(II)Z"⟩
abbrev cX0_byteAt : ByteArray := prog_1_method_34_code
def yX0_byteAt : MethodName := ⟨RX0, "byteAt", "(I)I"⟩
abbrev cX0_codeWidth : ByteArray := prog_1_method_35_code
def yX0_codeWidth : MethodName := ⟨RX0, "codeWidth", "(II)I"⟩
abbrev cX0_codeAt : ByteArray := prog_1_method_36_code
def yX0_codeAt : MethodName := ⟨RX0, "codeAt", "(I)I"⟩
abbrev cX0_wordNumber : ByteArray := prog_1_method_37_code
def yX0_wordNumber : MethodName := ⟨RX0, "wordNumber", "(II)I"⟩
abbrev cX0_mayOccur : ByteArray := prog_1_method_38_code
def yX0_mayOccur : MethodName := ⟨RX0, "mayOccur", "(I)Z"⟩
abbrev cX0_isBlankByte : ByteArray := prog_1_method_39_code
def yX0_isBlankByte : MethodName := ⟨RX0, "isBlankByte", "(I)Z"⟩
abbrev cX0_isLetter : ByteArray := prog_1_method_40_code
def yX0_isLetter : MethodName := ⟨RX0, "isLetter", "(I)Z"⟩
abbrev cX0_isDigit : ByteArray := prog_1_method_41_code
def yX0_isDigit : MethodName := ⟨RX0, "isDigit", "(I)Z"⟩
abbrev cX0_isNamePart : ByteArray := prog_1_method_42_code
def yX0_isNamePart : MethodName := ⟨RX0, "isNamePart", "(I)Z"⟩
abbrev cX0_hexDigit : ByteArray := prog_1_method_43_code
def yX0_hexDigit : MethodName := ⟨RX0, "hexDigit", "(I)I"⟩
abbrev cX0_escapedCode : ByteArray := prog_1_method_44_code
def yX0_escapedCode : MethodName := ⟨RX0, "escapedCode", "(I)I"⟩
abbrev cX0_signOfThree : ByteArray := prog_1_method_45_code
def yX0_signOfThree : MethodName := ⟨RX0, "signOfThree", "(III)I"⟩
abbrev cX0_signOfTwo : ByteArray := prog_1_method_46_code
def yX0_signOfTwo : MethodName := ⟨RX0, "signOfTwo", "(II)I"⟩
abbrev cX0_signWithEqual : ByteArray := prog_1_method_47_code
def yX0_signWithEqual : MethodName := ⟨RX0, "signWithEqual", "(I)I"⟩
abbrev cX0_signOfTwins : ByteArray := prog_1_method_48_code
def yX0_signOfTwins : MethodName := ⟨RX0, "signOfTwins", "(I)I"⟩
abbrev cX0_signOfOne : ByteArray := prog_1_method_49_code
def yX0_signOfOne : MethodName := ⟨RX0, "signOfOne", "(I)I"⟩
def RX1 : String := "TokenRowsModel"
def TX1 : u_T := fun k => match k with
  | 0 => ("TokenRowsModel", "tray", "[B", true)
  | 1 => ("TokenRowsModel", "trayed", "I", false)
  | 2 => ("TokenRowsModel", "fed", "I", false)
  | 3 => ("TokenRowsModel", "text", "[B", true)
  | 4 => ("TokenRowsModel", "size", "I", false)
  | 5 => ("TokenRowsModel", "kinds", "[I", true)
  | 6 => ("TokenRowsModel", "froms", "[I", true)
  | 7 => ("TokenRowsModel", "tos", "[I", true)
  | 8 => ("TokenRowsModel", "tokens", "I", false)
  | _ => ("TokenRowsModel", "place", "I", false)
def tyX1 : Nat → FieldType := fun k => match k with
  | 0 => .array .byte
  | 1 => .int
  | 2 => .int
  | 3 => .array .byte
  | 4 => .int
  | 5 => .array .int
  | 6 => .array .int
  | 7 => .array .int
  | 8 => .int
  | _ => .int
abbrev wsX10 : List Cond := u_ws RX1 TX1 10
theorem nmX1 : ∀ a, a < 10 → ∀ b, b < 10 → a ≠ b → (TX1 a).2.1 ≠ (TX1 b).2.1 := by decide +kernel
theorem tyX1_ok : ∀ k, k < 10 → parseFieldDescriptor (TX1 k).2.2.1 = some (tyX1 k) := by decide +kernel
abbrev cX1_init : ByteArray := prog_3_method_1_code
def yX1_init : MethodName := ⟨RX1, "<init>", "()V"⟩
abbrev cX1_four : ByteArray := prog_3_method_3_code
def yX1_four : MethodName := ⟨RX1, "four", "(I)V"⟩
abbrev cX1_feed : ByteArray := prog_3_method_4_code
def yX1_feed : MethodName := ⟨RX1, "feed", "(IIIII)I"⟩
abbrev cX1_end : ByteArray := prog_3_method_5_code
def yX1_end : MethodName := ⟨RX1, "end", "(I)I"⟩
abbrev cX1_look : ByteArray := prog_3_method_6_code
def yX1_look : MethodName := ⟨RX1, "look", "(I)I"⟩
abbrev cX1_isDigit : ByteArray := prog_3_method_7_code
def yX1_isDigit : MethodName := ⟨RX1, "isDigit", "(I)Z"⟩
abbrev cX1_isInName : ByteArray := prog_3_method_8_code
def yX1_isInName : MethodName := ⟨RX1, "isInName", "(I)Z"⟩
abbrev cX1_sixteen : ByteArray := prog_3_method_9_code
def yX1_sixteen : MethodName := ⟨RX1, "sixteen", "(I)I"⟩
abbrev cX1_isBlank : ByteArray := prog_3_method_10_code
def yX1_isBlank : MethodName := ⟨RX1, "isBlank", "(I)Z"⟩
abbrev cX1_isAllowed : ByteArray := prog_3_method_11_code
def yX1_isAllowed : MethodName := ⟨RX1, "isAllowed", "(I)Z"⟩
abbrev cX1_blanks : ByteArray := prog_3_method_12_code
def yX1_blanks : MethodName := ⟨RX1, "blanks", "(I)I"⟩
abbrev cX1_cut : ByteArray := prog_3_method_13_code
def yX1_cut : MethodName := ⟨RX1, "cut", "()I"⟩
abbrev cX1_kindAt : ByteArray := prog_3_method_14_code
def yX1_kindAt : MethodName := ⟨RX1, "kindAt", "(I)I"⟩
abbrev cX1_endOf : ByteArray := prog_3_method_15_code
def yX1_endOf : MethodName := ⟨RX1, "endOf", "(II)I"⟩
abbrev cX1_isInt : ByteArray := prog_3_method_16_code
def yX1_isInt : MethodName := ⟨RX1, "isInt", "(II)Z"⟩
abbrev cX1_behind : ByteArray := prog_3_method_17_code
def yX1_behind : MethodName := ⟨RX1, "behind", "(II)I"⟩
abbrev cX1_stringEnd : ByteArray := prog_3_method_18_code
def yX1_stringEnd : MethodName := ⟨RX1, "stringEnd", "(I)I"⟩
abbrev cX1_isAt : ByteArray := prog_3_method_19_code
def yX1_isAt : MethodName := ⟨RX1, "isAt", "(ILjava/lang/String;II)Z"⟩
abbrev cX1_signEnd : ByteArray := prog_3_method_20_code
def yX1_signEnd : MethodName := ⟨RX1, "signEnd", "(I)I"⟩
abbrev cX1_isToken : ByteArray := prog_3_method_21_code
def yX1_isToken : MethodName := ⟨RX1, "isToken", "(I)Z"⟩
abbrev cX1_among : ByteArray := prog_3_method_22_code
def yX1_among : MethodName := ⟨RX1, "among", "(ILjava/lang/String;)I"⟩
abbrev cX1_place : ByteArray := prog_3_method_23_code
def yX1_place : MethodName := ⟨RX1, "place", "()I"⟩
abbrev cX1_tokens : ByteArray := prog_3_method_24_code
def yX1_tokens : MethodName := ⟨RX1, "tokens", "()I"⟩
abbrev cX1_kind : ByteArray := prog_3_method_25_code
def yX1_kind : MethodName := ⟨RX1, "kind", "(I)I"⟩
abbrev cX1_which : ByteArray := prog_3_method_26_code
def yX1_which : MethodName := ⟨RX1, "which", "(I)I"⟩
abbrev cX1_from : ByteArray := prog_3_method_27_code
def yX1_from : MethodName := ⟨RX1, "from", "(I)I"⟩
abbrev cX1_length : ByteArray := prog_3_method_28_code
def yX1_length : MethodName := ⟨RX1, "length", "(I)I"⟩
abbrev cX1_line : ByteArray := prog_3_method_29_code
def yX1_line : MethodName := ⟨RX1, "line", "(I)I"⟩
abbrev cX1_codeAt : ByteArray := prog_3_method_30_code
def yX1_codeAt : MethodName := ⟨RX1, "codeAt", "(I)I"⟩
abbrev cX1_worth : ByteArray := prog_3_method_31_code
def yX1_worth : MethodName := ⟨RX1, "worth", "(I)I"⟩
abbrev cX1_codes : ByteArray := prog_3_method_32_code
def yX1_codes : MethodName := ⟨RX1, "codes", "(I)I"⟩
abbrev cX1_code : ByteArray := prog_3_method_33_code
def yX1_code : MethodName := ⟨RX1, "code", "(II)I"⟩
abbrev cX1_same : ByteArray := prog_3_method_34_code
def yX1_same : MethodName := ⟨RX1, "same", "(II)Z"⟩
def RJ9 : String := "java/lang/Math"
def TJ9 : u_T := fun k => match k with
  | _ => ("", "", "", false)
def tyJ9 : Nat → FieldType := fun k => match k with
  | _ => .int
abbrev wsJ90 : List Cond := u_ws RJ9 TJ9 0
theorem nmJ9 : ∀ a, a < 0 → ∀ b, b < 0 → a ≠ b → (TJ9 a).2.1 ≠ (TJ9 b).2.1 := by decide +kernel
theorem tyJ9_ok : ∀ k, k < 0 → parseFieldDescriptor (TJ9 k).2.2.1 = some (tyJ9 k) := by decide +kernel
abbrev cJ9_min_f86c9 : ByteArray := prog_4_method_70_code
def yJ9_min_f86c9 : MethodName := ⟨RJ9, "min", "(JJ)J"⟩
def RJ0 : String := "java/lang/String"
def TJ0 : u_T := fun k => match k with
  | _ => ("", "", "", false)
def tyJ0 : Nat → FieldType := fun k => match k with
  | _ => .int
abbrev wsJ00 : List Cond := u_ws RJ0 TJ0 0
theorem nmJ0 : ∀ a, a < 0 → ∀ b, b < 0 → a ≠ b → (TJ0 a).2.1 ≠ (TJ0 b).2.1 := by decide +kernel
theorem tyJ0_ok : ∀ k, k < 0 → parseFieldDescriptor (TJ0 k).2.2.1 = some (tyJ0 k) := by decide +kernel
abbrev cJ0_length_8abf5 : ByteArray := prog_5_method_54_code
def yJ0_length_8abf5 : MethodName := ⟨RJ0, "length", "()I"⟩
abbrev cJ0_charAt_5068e : ByteArray := prog_5_method_56_code
def yJ0_charAt_5068e : MethodName := ⟨RJ0, "charAt", "(I)C"⟩
abbrev cJ0_coder_7d493 : ByteArray := prog_5_method_152_code
def yJ0_coder_7d493 : MethodName := ⟨RJ0, "coder", "()B"⟩
abbrev cJ0_isLatin1_aae02 : ByteArray := prog_5_method_154_code
def yJ0_isLatin1_aae02 : MethodName := ⟨RJ0, "isLatin1", "()Z"⟩
abbrev cJ0_checkIndex_df160 : ByteArray := prog_5_method_155_code
def yJ0_checkIndex_df160 : MethodName := ⟨RJ0, "checkIndex", "(II)V"⟩
def RJ1 : String := "java/lang/StringLatin1"
def TJ1 : u_T := fun k => match k with
  | _ => ("", "", "", false)
def tyJ1 : Nat → FieldType := fun k => match k with
  | _ => .int
abbrev wsJ10 : List Cond := u_ws RJ1 TJ1 0
theorem nmJ1 : ∀ a, a < 0 → ∀ b, b < 0 → a ≠ b → (TJ1 a).2.1 ≠ (TJ1 b).2.1 := by decide +kernel
theorem tyJ1_ok : ∀ k, k < 0 → parseFieldDescriptor (TJ1 k).2.2.1 = some (tyJ1 k) := by decide +kernel
abbrev cJ1_charAt_3b067 : ByteArray := prog_6_method_2_code
def yJ1_charAt_3b067 : MethodName := ⟨RJ1, "charAt", "([BI)C"⟩
def RJ2 : String := "java/lang/StringUTF16"
def TJ2 : u_T := fun k => match k with
  | _ => ("", "", "", false)
def tyJ2 : Nat → FieldType := fun k => match k with
  | _ => .int
abbrev wsJ20 : List Cond := u_ws RJ2 TJ2 0
theorem nmJ2 : ∀ a, a < 0 → ∀ b, b < 0 → a ≠ b → (TJ2 a).2.1 ≠ (TJ2 b).2.1 := by decide +kernel
theorem tyJ2_ok : ∀ k, k < 0 → parseFieldDescriptor (TJ2 k).2.2.1 = some (tyJ2 k) := by decide +kernel
abbrev cJ2_getChar_3b067 : ByteArray := prog_7_method_5_code
def yJ2_getChar_3b067 : MethodName := ⟨RJ2, "getChar", "([BI)C"⟩
abbrev cJ2_length_9d52b : ByteArray := prog_7_method_6_code
def yJ2_length_9d52b : MethodName := ⟨RJ2, "length", "([B)I"⟩
abbrev cJ2_charAt_3b067 : ByteArray := prog_7_method_83_code
def yJ2_charAt_3b067 : MethodName := ⟨RJ2, "charAt", "([BI)C"⟩
abbrev cJ2_checkIndex_2214a : ByteArray := prog_7_method_91_code
def yJ2_checkIndex_2214a : MethodName := ⟨RJ2, "checkIndex", "(I[B)V"⟩
def RJ3 : String := "jdk/internal/util/Preconditions"
def TJ3 : u_T := fun k => match k with
  | _ => ("", "", "", false)
def tyJ3 : Nat → FieldType := fun k => match k with
  | _ => .int
abbrev wsJ30 : List Cond := u_ws RJ3 TJ3 0
theorem nmJ3 : ∀ a, a < 0 → ∀ b, b < 0 → a ≠ b → (TJ3 a).2.1 ≠ (TJ3 b).2.1 := by decide +kernel
theorem tyJ3_ok : ∀ k, k < 0 → parseFieldDescriptor (TJ3 k).2.2.1 = some (tyJ3 k) := by decide +kernel
abbrev cJ3_checkIndex_8e157 : ByteArray := prog_8_method_11_code
def yJ3_checkIndex_8e157 : MethodName := ⟨RJ3, "checkIndex", "(IILjava/util/function/BiFunction;)I"⟩
def RL : String := "TokenRowsLaw"
abbrev cL_law : ByteArray := code
def yL_law : MethodName := ⟨RL, "law", "([I)Z"⟩
def wsX0_init : List Cond := .code yX0_init cX0_init 1 none :: ([.methodLink RX0 1 objectInit, .instanceMethod objectInit, .code objectInit ⟨#[0xb1]⟩ 1 none, .arrayClass .byte, .fieldLink RX0 9 "TokenRows" "tray" "[B", .fieldLink RX0 13 "TokenRows" "text" "[B", .arrayClass .int, .fieldLink RX0 16 "TokenRows" "kinds" "[I", .fieldLink RX0 20 "TokenRows" "starts" "[I", .fieldLink RX0 23 "TokenRows" "sizes" "[I", .fieldLink RX0 26 "TokenRows" "lines" "[I", .fieldLink RX0 29 "TokenRows" "tells" "[I", .fieldLink RX0 32 "TokenRows" "traySize" "I", .fieldLink RX0 36 "TokenRows" "fedInAll" "I", .fieldLink RX0 39 "TokenRows" "textSize" "I", .fieldLink RX0 42 "TokenRows" "lineNow" "I", .fieldLink RX0 45 "TokenRows" "fault" "I", .fieldLink RX0 48 "TokenRows" "count" "I"] ++ wsX00)
def wsX0_putByte : List Cond := .code yX0_putByte cX0_putByte 2 none :: ([.fieldLink RX0 32 "TokenRows" "traySize" "I", .fieldLink RX0 9 "TokenRows" "tray" "[B"] ++ wsX00)
def wsX0_putInt : List Cond := .code yX0_putInt cX0_putInt 2 none :: ([.methodLink RX0 81 yX0_putByte, .instanceMethod yX0_putByte, .selects RX0 yX0_putByte yX0_putByte, .initialized RX0, .code yX0_putByte cX0_putByte 2 none, .fieldLink RX0 32 "TokenRows" "traySize" "I", .fieldLink RX0 9 "TokenRows" "tray" "[B"] ++ wsX00)
def wsX0_feed : List Cond := .code yX0_feed cX0_feed 6 (some .int) :: ([.fieldLink RX0 32 "TokenRows" "traySize" "I", .fieldLink RX0 36 "TokenRows" "fedInAll" "I", .constant RX0 51 (65536), .methodLink RX0 52 yX0_putInt, .instanceMethod yX0_putInt, .selects RX0 yX0_putInt yX0_putInt, .initialized RX0, .code yX0_putInt cX0_putInt 2 none, .methodLink RX0 81 yX0_putByte, .instanceMethod yX0_putByte, .selects RX0 yX0_putByte yX0_putByte, .code yX0_putByte cX0_putByte 2 none, .fieldLink RX0 9 "TokenRows" "tray" "[B"] ++ wsX00)
def wsX0_end : List Cond := .code yX0_end cX0_end 2 (some .int) :: ([.fieldLink RX0 32 "TokenRows" "traySize" "I"] ++ wsX00)
def wsX0_takeTray : List Cond := .code yX0_takeTray cX0_takeTray 2 none :: ([.fieldLink RX0 13 "TokenRows" "text" "[B", .fieldLink RX0 9 "TokenRows" "tray" "[B", .fieldLink RX0 32 "TokenRows" "traySize" "I", .fieldLink RX0 39 "TokenRows" "textSize" "I", .fieldLink RX0 42 "TokenRows" "lineNow" "I", .fieldLink RX0 45 "TokenRows" "fault" "I", .fieldLink RX0 48 "TokenRows" "count" "I"] ++ wsX00)
def wsX0_byteAt : List Cond := .code yX0_byteAt cX0_byteAt 2 (some .int) :: ([.fieldLink RX0 39 "TokenRows" "textSize" "I", .fieldLink RX0 13 "TokenRows" "text" "[B"] ++ wsX00)
def wsX0_isBlankByte : List Cond := .code yX0_isBlankByte cX0_isBlankByte 1 (some .boolean) :: ([])
def wsX0_countLine : List Cond := .code yX0_countLine cX0_countLine 2 none :: ([.fieldLink RX0 42 "TokenRows" "lineNow" "I"] ++ wsX00)
def wsX0_mayOccur : List Cond := .code yX0_mayOccur cX0_mayOccur 1 (some .boolean) :: ([.methodLink RX0 84 yX0_isBlankByte, .static yX0_isBlankByte, .initialized RX0, .code yX0_isBlankByte cX0_isBlankByte 1 (some .boolean)])
def wsX0_fail : List Cond := .code yX0_fail cX0_fail 2 (some .int) :: ([.fieldLink RX0 45 "TokenRows" "fault" "I"] ++ wsX00)
def wsX0_pastLineComment : List Cond := .code yX0_pastLineComment cX0_pastLineComment 4 (some .int) :: ([.fieldLink RX0 39 "TokenRows" "textSize" "I", .methodLink RX0 78 yX0_byteAt, .instanceMethod yX0_byteAt, .selects RX0 yX0_byteAt yX0_byteAt, .initialized RX0, .code yX0_byteAt cX0_byteAt 2 (some .int), .fieldLink RX0 13 "TokenRows" "text" "[B", .methodLink RX0 123 yX0_mayOccur, .static yX0_mayOccur, .code yX0_mayOccur cX0_mayOccur 1 (some .boolean), .methodLink RX0 84 yX0_isBlankByte, .static yX0_isBlankByte, .code yX0_isBlankByte cX0_isBlankByte 1 (some .boolean), .methodLink RX0 126 yX0_fail, .instanceMethod yX0_fail, .selects RX0 yX0_fail yX0_fail, .code yX0_fail cX0_fail 2 (some .int), .fieldLink RX0 45 "TokenRows" "fault" "I"] ++ wsX00)
def wsX0_pastStarComment : List Cond := .code yX0_pastStarComment cX0_pastStarComment 4 (some .int) :: ([.fieldLink RX0 39 "TokenRows" "textSize" "I", .methodLink RX0 78 yX0_byteAt, .instanceMethod yX0_byteAt, .selects RX0 yX0_byteAt yX0_byteAt, .initialized RX0, .code yX0_byteAt cX0_byteAt 2 (some .int), .fieldLink RX0 13 "TokenRows" "text" "[B", .methodLink RX0 123 yX0_mayOccur, .static yX0_mayOccur, .code yX0_mayOccur cX0_mayOccur 1 (some .boolean), .methodLink RX0 84 yX0_isBlankByte, .static yX0_isBlankByte, .code yX0_isBlankByte cX0_isBlankByte 1 (some .boolean), .methodLink RX0 126 yX0_fail, .instanceMethod yX0_fail, .selects RX0 yX0_fail yX0_fail, .code yX0_fail cX0_fail 2 (some .int), .fieldLink RX0 45 "TokenRows" "fault" "I", .methodLink RX0 87 yX0_countLine, .instanceMethod yX0_countLine, .selects RX0 yX0_countLine yX0_countLine, .code yX0_countLine cX0_countLine 2 none, .fieldLink RX0 42 "TokenRows" "lineNow" "I"] ++ wsX00)
def wsX0_isLetter : List Cond := .code yX0_isLetter cX0_isLetter 1 (some .boolean) :: ([])
def wsX0_isDigit : List Cond := .code yX0_isDigit cX0_isDigit 1 (some .boolean) :: ([])
def wsX0_isNamePart : List Cond := .code yX0_isNamePart cX0_isNamePart 1 (some .boolean) :: ([.methodLink RX0 96 yX0_isLetter, .static yX0_isLetter, .initialized RX0, .code yX0_isLetter cX0_isLetter 1 (some .boolean), .methodLink RX0 102 yX0_isDigit, .static yX0_isDigit, .code yX0_isDigit cX0_isDigit 1 (some .boolean)])
def wsX0_wordNumber : List Cond := .code yX0_wordNumber cX0_wordNumber 6 (some .int) :: ([.fieldLink RX0 167 "TokenRows" "WORDS" "[C", .methodLink RX0 78 yX0_byteAt, .instanceMethod yX0_byteAt, .selects RX0 yX0_byteAt yX0_byteAt, .initialized RX0, .code yX0_byteAt cX0_byteAt 2 (some .int), .fieldLink RX0 39 "TokenRows" "textSize" "I", .fieldLink RX0 13 "TokenRows" "text" "[B"] ++ wsX00)
def wsX0_keep : List Cond := .code yX0_keep cX0_keep 5 (some .int) :: ([.fieldLink RX0 48 "TokenRows" "count" "I", .fieldLink RX0 16 "TokenRows" "kinds" "[I", .fieldLink RX0 29 "TokenRows" "tells" "[I", .fieldLink RX0 20 "TokenRows" "starts" "[I", .fieldLink RX0 23 "TokenRows" "sizes" "[I", .fieldLink RX0 26 "TokenRows" "lines" "[I", .fieldLink RX0 42 "TokenRows" "lineNow" "I"] ++ wsX00)
def wsX0_pastName_r1 : List Cond := [Cond.fieldLink RX0 39 "TokenRows" "textSize" "I", Cond.methodLink RX0 78 yX0_byteAt, Cond.instanceMethod yX0_byteAt, Cond.selects RX0 yX0_byteAt yX0_byteAt, Cond.initialized RX0, Cond.code yX0_byteAt cX0_byteAt 2 (some .int), Cond.fieldLink RX0 13 "TokenRows" "text" "[B", Cond.methodLink RX0 129 yX0_isNamePart, Cond.static yX0_isNamePart, Cond.code yX0_isNamePart cX0_isNamePart 1 (some .boolean), Cond.methodLink RX0 96 yX0_isLetter, Cond.static yX0_isLetter, Cond.code yX0_isLetter cX0_isLetter 1 (some .boolean), Cond.methodLink RX0 102 yX0_isDigit, Cond.static yX0_isDigit, Cond.code yX0_isDigit cX0_isDigit 1 (some .boolean), Cond.methodLink RX0 126 yX0_fail, Cond.instanceMethod yX0_fail, Cond.selects RX0 yX0_fail yX0_fail, Cond.code yX0_fail cX0_fail 2 (some .int), Cond.fieldLink RX0 45 "TokenRows" "fault" "I", Cond.methodLink RX0 132 yX0_wordNumber, Cond.instanceMethod yX0_wordNumber, Cond.selects RX0 yX0_wordNumber yX0_wordNumber]
def wsX0_pastName_r2 : List Cond := [Cond.code yX0_wordNumber cX0_wordNumber 6 (some .int), Cond.fieldLink RX0 167 "TokenRows" "WORDS" "[C", Cond.methodLink RX0 135 yX0_keep, Cond.instanceMethod yX0_keep, Cond.selects RX0 yX0_keep yX0_keep, Cond.code yX0_keep cX0_keep 5 (some .int), Cond.fieldLink RX0 48 "TokenRows" "count" "I", Cond.fieldLink RX0 16 "TokenRows" "kinds" "[I", Cond.fieldLink RX0 29 "TokenRows" "tells" "[I", Cond.fieldLink RX0 20 "TokenRows" "starts" "[I", Cond.fieldLink RX0 23 "TokenRows" "sizes" "[I", Cond.fieldLink RX0 26 "TokenRows" "lines" "[I", Cond.fieldLink RX0 42 "TokenRows" "lineNow" "I"]
def wsX0_pastName : List Cond := .code yX0_pastName cX0_pastName 4 (some .int) :: ((wsX0_pastName_r1 ++ wsX0_pastName_r2) ++ wsX00)
def wsX0_hexDigit : List Cond := .code yX0_hexDigit cX0_hexDigit 1 (some .int) :: ([.methodLink RX0 102 yX0_isDigit, .static yX0_isDigit, .initialized RX0, .code yX0_isDigit cX0_isDigit 1 (some .boolean)])
def wsX0_isHexNumber : List Cond := .code yX0_isHexNumber cX0_isHexNumber 2 (some .boolean) :: ([.methodLink RX0 78 yX0_byteAt, .instanceMethod yX0_byteAt, .selects RX0 yX0_byteAt yX0_byteAt, .initialized RX0, .code yX0_byteAt cX0_byteAt 2 (some .int), .fieldLink RX0 39 "TokenRows" "textSize" "I", .fieldLink RX0 13 "TokenRows" "text" "[B", .methodLink RX0 151 yX0_hexDigit, .static yX0_hexDigit, .code yX0_hexDigit cX0_hexDigit 1 (some .int), .methodLink RX0 102 yX0_isDigit, .static yX0_isDigit, .code yX0_isDigit cX0_isDigit 1 (some .boolean)] ++ wsX00)
def wsX0_pastHexNumber_r1 : List Cond := [Cond.fieldLink RX0 39 "TokenRows" "textSize" "I", Cond.methodLink RX0 78 yX0_byteAt, Cond.instanceMethod yX0_byteAt, Cond.selects RX0 yX0_byteAt yX0_byteAt, Cond.initialized RX0, Cond.code yX0_byteAt cX0_byteAt 2 (some .int), Cond.fieldLink RX0 13 "TokenRows" "text" "[B", Cond.methodLink RX0 151 yX0_hexDigit, Cond.static yX0_hexDigit, Cond.code yX0_hexDigit cX0_hexDigit 1 (some .int), Cond.methodLink RX0 102 yX0_isDigit, Cond.static yX0_isDigit, Cond.code yX0_isDigit cX0_isDigit 1 (some .boolean), Cond.methodLink RX0 126 yX0_fail, Cond.instanceMethod yX0_fail, Cond.selects RX0 yX0_fail yX0_fail, Cond.code yX0_fail cX0_fail 2 (some .int), Cond.fieldLink RX0 45 "TokenRows" "fault" "I", Cond.methodLink RX0 135 yX0_keep, Cond.instanceMethod yX0_keep, Cond.selects RX0 yX0_keep yX0_keep, Cond.code yX0_keep cX0_keep 5 (some .int), Cond.fieldLink RX0 48 "TokenRows" "count" "I", Cond.fieldLink RX0 16 "TokenRows" "kinds" "[I"]
def wsX0_pastHexNumber_r2 : List Cond := [Cond.fieldLink RX0 29 "TokenRows" "tells" "[I", Cond.fieldLink RX0 20 "TokenRows" "starts" "[I", Cond.fieldLink RX0 23 "TokenRows" "sizes" "[I", Cond.fieldLink RX0 26 "TokenRows" "lines" "[I", Cond.fieldLink RX0 42 "TokenRows" "lineNow" "I"]
def wsX0_pastHexNumber : List Cond := .code yX0_pastHexNumber cX0_pastHexNumber 4 (some .int) :: ((wsX0_pastHexNumber_r1 ++ wsX0_pastHexNumber_r2) ++ wsX00)
def wsX0_pastDigits_r1 : List Cond := [Cond.fieldLink RX0 39 "TokenRows" "textSize" "I", Cond.constantLong RX0 139 (10), Cond.constantLong RX0 141 (2147483648), Cond.methodLink RX0 143 Lib.MathLoose.min_long.x, Cond.static Lib.MathLoose.min_long.x, Cond.initialized "java/lang/Math", Cond.code Lib.MathLoose.min_long.x Lib.MathLoose.min_long.code 4 (some .long), Cond.constantLong RX0 149 (2147483647), Cond.methodLink RX0 78 yX0_byteAt, Cond.instanceMethod yX0_byteAt, Cond.selects RX0 yX0_byteAt yX0_byteAt, Cond.initialized RX0, Cond.code yX0_byteAt cX0_byteAt 2 (some .int), Cond.fieldLink RX0 13 "TokenRows" "text" "[B", Cond.methodLink RX0 102 yX0_isDigit, Cond.static yX0_isDigit, Cond.code yX0_isDigit cX0_isDigit 1 (some .boolean), Cond.methodLink RX0 126 yX0_fail, Cond.instanceMethod yX0_fail, Cond.selects RX0 yX0_fail yX0_fail, Cond.code yX0_fail cX0_fail 2 (some .int), Cond.fieldLink RX0 45 "TokenRows" "fault" "I", Cond.methodLink RX0 135 yX0_keep, Cond.instanceMethod yX0_keep]
def wsX0_pastDigits_r2 : List Cond := [Cond.selects RX0 yX0_keep yX0_keep, Cond.code yX0_keep cX0_keep 5 (some .int), Cond.fieldLink RX0 48 "TokenRows" "count" "I", Cond.fieldLink RX0 16 "TokenRows" "kinds" "[I", Cond.fieldLink RX0 29 "TokenRows" "tells" "[I", Cond.fieldLink RX0 20 "TokenRows" "starts" "[I", Cond.fieldLink RX0 23 "TokenRows" "sizes" "[I", Cond.fieldLink RX0 26 "TokenRows" "lines" "[I", Cond.fieldLink RX0 42 "TokenRows" "lineNow" "I"]
def wsX0_pastDigits : List Cond := .code yX0_pastDigits cX0_pastDigits 5 (some .int) :: ((wsX0_pastDigits_r1 ++ wsX0_pastDigits_r2) ++ wsX00)
def wsX0_escapedCode : List Cond := .code yX0_escapedCode cX0_escapedCode 1 (some .int) :: ([])
def wsX0_codeWidth : List Cond := .code yX0_codeWidth cX0_codeWidth 4 (some .int) :: ([.methodLink RX0 78 yX0_byteAt, .instanceMethod yX0_byteAt, .selects RX0 yX0_byteAt yX0_byteAt, .initialized RX0, .code yX0_byteAt cX0_byteAt 2 (some .int), .fieldLink RX0 39 "TokenRows" "textSize" "I", .fieldLink RX0 13 "TokenRows" "text" "[B", .methodLink RX0 164 yX0_escapedCode, .static yX0_escapedCode, .code yX0_escapedCode cX0_escapedCode 1 (some .int)] ++ wsX00)
def wsX0_codeAt : List Cond := .code yX0_codeAt cX0_codeAt 3 (some .int) :: ([.methodLink RX0 78 yX0_byteAt, .instanceMethod yX0_byteAt, .selects RX0 yX0_byteAt yX0_byteAt, .initialized RX0, .code yX0_byteAt cX0_byteAt 2 (some .int), .fieldLink RX0 39 "TokenRows" "textSize" "I", .fieldLink RX0 13 "TokenRows" "text" "[B", .methodLink RX0 164 yX0_escapedCode, .static yX0_escapedCode, .code yX0_escapedCode cX0_escapedCode 1 (some .int)] ++ wsX00)
def wsX0_pastQuotedCode_r1 : List Cond := [Cond.methodLink RX0 71 yX0_codeWidth, Cond.instanceMethod yX0_codeWidth, Cond.selects RX0 yX0_codeWidth yX0_codeWidth, Cond.initialized RX0, Cond.code yX0_codeWidth cX0_codeWidth 4 (some .int), Cond.methodLink RX0 78 yX0_byteAt, Cond.instanceMethod yX0_byteAt, Cond.selects RX0 yX0_byteAt yX0_byteAt, Cond.code yX0_byteAt cX0_byteAt 2 (some .int), Cond.fieldLink RX0 39 "TokenRows" "textSize" "I", Cond.fieldLink RX0 13 "TokenRows" "text" "[B", Cond.methodLink RX0 164 yX0_escapedCode, Cond.static yX0_escapedCode, Cond.code yX0_escapedCode cX0_escapedCode 1 (some .int), Cond.methodLink RX0 126 yX0_fail, Cond.instanceMethod yX0_fail, Cond.selects RX0 yX0_fail yX0_fail, Cond.code yX0_fail cX0_fail 2 (some .int), Cond.fieldLink RX0 45 "TokenRows" "fault" "I", Cond.methodLink RX0 75 yX0_codeAt, Cond.instanceMethod yX0_codeAt, Cond.selects RX0 yX0_codeAt yX0_codeAt, Cond.code yX0_codeAt cX0_codeAt 3 (some .int), Cond.methodLink RX0 135 yX0_keep]
def wsX0_pastQuotedCode_r2 : List Cond := [Cond.instanceMethod yX0_keep, Cond.selects RX0 yX0_keep yX0_keep, Cond.code yX0_keep cX0_keep 5 (some .int), Cond.fieldLink RX0 48 "TokenRows" "count" "I", Cond.fieldLink RX0 16 "TokenRows" "kinds" "[I", Cond.fieldLink RX0 29 "TokenRows" "tells" "[I", Cond.fieldLink RX0 20 "TokenRows" "starts" "[I", Cond.fieldLink RX0 23 "TokenRows" "sizes" "[I", Cond.fieldLink RX0 26 "TokenRows" "lines" "[I", Cond.fieldLink RX0 42 "TokenRows" "lineNow" "I"]
def wsX0_pastQuotedCode : List Cond := .code yX0_pastQuotedCode cX0_pastQuotedCode 4 (some .int) :: ((wsX0_pastQuotedCode_r1 ++ wsX0_pastQuotedCode_r2) ++ wsX00)
def wsX0_pastString_r1 : List Cond := [Cond.methodLink RX0 78 yX0_byteAt, Cond.instanceMethod yX0_byteAt, Cond.selects RX0 yX0_byteAt yX0_byteAt, Cond.initialized RX0, Cond.code yX0_byteAt cX0_byteAt 2 (some .int), Cond.fieldLink RX0 39 "TokenRows" "textSize" "I", Cond.fieldLink RX0 13 "TokenRows" "text" "[B", Cond.methodLink RX0 135 yX0_keep, Cond.instanceMethod yX0_keep, Cond.selects RX0 yX0_keep yX0_keep, Cond.code yX0_keep cX0_keep 5 (some .int), Cond.fieldLink RX0 48 "TokenRows" "count" "I", Cond.fieldLink RX0 16 "TokenRows" "kinds" "[I", Cond.fieldLink RX0 29 "TokenRows" "tells" "[I", Cond.fieldLink RX0 20 "TokenRows" "starts" "[I", Cond.fieldLink RX0 23 "TokenRows" "sizes" "[I", Cond.fieldLink RX0 26 "TokenRows" "lines" "[I", Cond.fieldLink RX0 42 "TokenRows" "lineNow" "I", Cond.methodLink RX0 71 yX0_codeWidth, Cond.instanceMethod yX0_codeWidth, Cond.selects RX0 yX0_codeWidth yX0_codeWidth, Cond.code yX0_codeWidth cX0_codeWidth 4 (some .int), Cond.methodLink RX0 164 yX0_escapedCode, Cond.static yX0_escapedCode]
def wsX0_pastString_r2 : List Cond := [Cond.code yX0_escapedCode cX0_escapedCode 1 (some .int), Cond.methodLink RX0 126 yX0_fail, Cond.instanceMethod yX0_fail, Cond.selects RX0 yX0_fail yX0_fail, Cond.code yX0_fail cX0_fail 2 (some .int), Cond.fieldLink RX0 45 "TokenRows" "fault" "I"]
def wsX0_pastString : List Cond := .code yX0_pastString cX0_pastString 5 (some .int) :: ((wsX0_pastString_r1 ++ wsX0_pastString_r2) ++ wsX00)
def wsX0_signOfThree : List Cond := .code yX0_signOfThree cX0_signOfThree 3 (some .int) :: ([])
def wsX0_signWithEqual : List Cond := .code yX0_signWithEqual cX0_signWithEqual 1 (some .int) :: ([])
def wsX0_signOfTwins : List Cond := .code yX0_signOfTwins cX0_signOfTwins 1 (some .int) :: ([])
def wsX0_signOfTwo : List Cond := .code yX0_signOfTwo cX0_signOfTwo 2 (some .int) :: ([.methodLink RX0 171 yX0_signWithEqual, .static yX0_signWithEqual, .initialized RX0, .code yX0_signWithEqual cX0_signWithEqual 1 (some .int), .methodLink RX0 174 yX0_signOfTwins, .static yX0_signOfTwins, .code yX0_signOfTwins cX0_signOfTwins 1 (some .int)])
def wsX0_signOfOne : List Cond := .code yX0_signOfOne cX0_signOfOne 1 (some .int) :: ([])
def wsX0_pastSign_r1 : List Cond := [Cond.methodLink RX0 78 yX0_byteAt, Cond.instanceMethod yX0_byteAt, Cond.selects RX0 yX0_byteAt yX0_byteAt, Cond.initialized RX0, Cond.code yX0_byteAt cX0_byteAt 2 (some .int), Cond.fieldLink RX0 39 "TokenRows" "textSize" "I", Cond.fieldLink RX0 13 "TokenRows" "text" "[B", Cond.methodLink RX0 154 yX0_signOfThree, Cond.static yX0_signOfThree, Cond.code yX0_signOfThree cX0_signOfThree 3 (some .int), Cond.methodLink RX0 135 yX0_keep, Cond.instanceMethod yX0_keep, Cond.selects RX0 yX0_keep yX0_keep, Cond.code yX0_keep cX0_keep 5 (some .int), Cond.fieldLink RX0 48 "TokenRows" "count" "I", Cond.fieldLink RX0 16 "TokenRows" "kinds" "[I", Cond.fieldLink RX0 29 "TokenRows" "tells" "[I", Cond.fieldLink RX0 20 "TokenRows" "starts" "[I", Cond.fieldLink RX0 23 "TokenRows" "sizes" "[I", Cond.fieldLink RX0 26 "TokenRows" "lines" "[I", Cond.fieldLink RX0 42 "TokenRows" "lineNow" "I", Cond.methodLink RX0 158 yX0_signOfTwo, Cond.static yX0_signOfTwo, Cond.code yX0_signOfTwo cX0_signOfTwo 2 (some .int)]
def wsX0_pastSign_r2 : List Cond := [Cond.methodLink RX0 171 yX0_signWithEqual, Cond.static yX0_signWithEqual, Cond.code yX0_signWithEqual cX0_signWithEqual 1 (some .int), Cond.methodLink RX0 174 yX0_signOfTwins, Cond.static yX0_signOfTwins, Cond.code yX0_signOfTwins cX0_signOfTwins 1 (some .int), Cond.methodLink RX0 161 yX0_signOfOne, Cond.static yX0_signOfOne, Cond.code yX0_signOfOne cX0_signOfOne 1 (some .int), Cond.methodLink RX0 126 yX0_fail, Cond.instanceMethod yX0_fail, Cond.selects RX0 yX0_fail yX0_fail, Cond.code yX0_fail cX0_fail 2 (some .int), Cond.fieldLink RX0 45 "TokenRows" "fault" "I"]
def wsX0_pastSign : List Cond := .code yX0_pastSign cX0_pastSign 7 (some .int) :: ((wsX0_pastSign_r1 ++ wsX0_pastSign_r2) ++ wsX00)
def wsX0_pastBlankOrToken_r1 : List Cond := [Cond.methodLink RX0 78 yX0_byteAt, Cond.instanceMethod yX0_byteAt, Cond.selects RX0 yX0_byteAt yX0_byteAt, Cond.initialized RX0, Cond.code yX0_byteAt cX0_byteAt 2 (some .int), Cond.fieldLink RX0 39 "TokenRows" "textSize" "I", Cond.fieldLink RX0 13 "TokenRows" "text" "[B", Cond.methodLink RX0 84 yX0_isBlankByte, Cond.static yX0_isBlankByte, Cond.code yX0_isBlankByte cX0_isBlankByte 1 (some .boolean), Cond.methodLink RX0 87 yX0_countLine, Cond.instanceMethod yX0_countLine, Cond.selects RX0 yX0_countLine yX0_countLine, Cond.code yX0_countLine cX0_countLine 2 none, Cond.fieldLink RX0 42 "TokenRows" "lineNow" "I", Cond.methodLink RX0 90 yX0_pastLineComment, Cond.instanceMethod yX0_pastLineComment, Cond.selects RX0 yX0_pastLineComment yX0_pastLineComment, Cond.code yX0_pastLineComment cX0_pastLineComment 4 (some .int), Cond.methodLink RX0 123 yX0_mayOccur, Cond.static yX0_mayOccur, Cond.code yX0_mayOccur cX0_mayOccur 1 (some .boolean), Cond.methodLink RX0 126 yX0_fail, Cond.instanceMethod yX0_fail]
def wsX0_pastBlankOrToken_r2 : List Cond := [Cond.selects RX0 yX0_fail yX0_fail, Cond.code yX0_fail cX0_fail 2 (some .int), Cond.fieldLink RX0 45 "TokenRows" "fault" "I", Cond.methodLink RX0 93 yX0_pastStarComment, Cond.instanceMethod yX0_pastStarComment, Cond.selects RX0 yX0_pastStarComment yX0_pastStarComment, Cond.code yX0_pastStarComment cX0_pastStarComment 4 (some .int), Cond.methodLink RX0 96 yX0_isLetter, Cond.static yX0_isLetter, Cond.code yX0_isLetter cX0_isLetter 1 (some .boolean), Cond.methodLink RX0 99 yX0_pastName, Cond.instanceMethod yX0_pastName, Cond.selects RX0 yX0_pastName yX0_pastName, Cond.code yX0_pastName cX0_pastName 4 (some .int), Cond.methodLink RX0 129 yX0_isNamePart, Cond.static yX0_isNamePart, Cond.code yX0_isNamePart cX0_isNamePart 1 (some .boolean), Cond.methodLink RX0 102 yX0_isDigit, Cond.static yX0_isDigit, Cond.code yX0_isDigit cX0_isDigit 1 (some .boolean), Cond.methodLink RX0 132 yX0_wordNumber, Cond.instanceMethod yX0_wordNumber, Cond.selects RX0 yX0_wordNumber yX0_wordNumber, Cond.code yX0_wordNumber cX0_wordNumber 6 (some .int)]
def wsX0_pastBlankOrToken_r3 : List Cond := [Cond.fieldLink RX0 167 "TokenRows" "WORDS" "[C", Cond.methodLink RX0 135 yX0_keep, Cond.instanceMethod yX0_keep, Cond.selects RX0 yX0_keep yX0_keep, Cond.code yX0_keep cX0_keep 5 (some .int), Cond.fieldLink RX0 48 "TokenRows" "count" "I", Cond.fieldLink RX0 16 "TokenRows" "kinds" "[I", Cond.fieldLink RX0 29 "TokenRows" "tells" "[I", Cond.fieldLink RX0 20 "TokenRows" "starts" "[I", Cond.fieldLink RX0 23 "TokenRows" "sizes" "[I", Cond.fieldLink RX0 26 "TokenRows" "lines" "[I", Cond.methodLink RX0 105 yX0_isHexNumber, Cond.instanceMethod yX0_isHexNumber, Cond.selects RX0 yX0_isHexNumber yX0_isHexNumber, Cond.code yX0_isHexNumber cX0_isHexNumber 2 (some .boolean), Cond.methodLink RX0 151 yX0_hexDigit, Cond.static yX0_hexDigit, Cond.code yX0_hexDigit cX0_hexDigit 1 (some .int), Cond.methodLink RX0 108 yX0_pastHexNumber, Cond.instanceMethod yX0_pastHexNumber, Cond.selects RX0 yX0_pastHexNumber yX0_pastHexNumber, Cond.code yX0_pastHexNumber cX0_pastHexNumber 4 (some .int), Cond.methodLink RX0 111 yX0_pastDigits, Cond.instanceMethod yX0_pastDigits]
def wsX0_pastBlankOrToken_r4 : List Cond := [Cond.selects RX0 yX0_pastDigits yX0_pastDigits, Cond.code yX0_pastDigits cX0_pastDigits 5 (some .int), Cond.constantLong RX0 139 (10), Cond.constantLong RX0 141 (2147483648), Cond.methodLink RX0 143 Lib.MathLoose.min_long.x, Cond.static Lib.MathLoose.min_long.x, Cond.initialized "java/lang/Math", Cond.code Lib.MathLoose.min_long.x Lib.MathLoose.min_long.code 4 (some .long), Cond.constantLong RX0 149 (2147483647), Cond.methodLink RX0 114 yX0_pastQuotedCode, Cond.instanceMethod yX0_pastQuotedCode, Cond.selects RX0 yX0_pastQuotedCode yX0_pastQuotedCode, Cond.code yX0_pastQuotedCode cX0_pastQuotedCode 4 (some .int), Cond.methodLink RX0 71 yX0_codeWidth, Cond.instanceMethod yX0_codeWidth, Cond.selects RX0 yX0_codeWidth yX0_codeWidth, Cond.code yX0_codeWidth cX0_codeWidth 4 (some .int), Cond.methodLink RX0 164 yX0_escapedCode, Cond.static yX0_escapedCode, Cond.code yX0_escapedCode cX0_escapedCode 1 (some .int), Cond.methodLink RX0 75 yX0_codeAt, Cond.instanceMethod yX0_codeAt, Cond.selects RX0 yX0_codeAt yX0_codeAt, Cond.code yX0_codeAt cX0_codeAt 3 (some .int)]
def wsX0_pastBlankOrToken_r5 : List Cond := [Cond.methodLink RX0 117 yX0_pastString, Cond.instanceMethod yX0_pastString, Cond.selects RX0 yX0_pastString yX0_pastString, Cond.code yX0_pastString cX0_pastString 5 (some .int), Cond.methodLink RX0 120 yX0_pastSign, Cond.instanceMethod yX0_pastSign, Cond.selects RX0 yX0_pastSign yX0_pastSign, Cond.code yX0_pastSign cX0_pastSign 7 (some .int), Cond.methodLink RX0 154 yX0_signOfThree, Cond.static yX0_signOfThree, Cond.code yX0_signOfThree cX0_signOfThree 3 (some .int), Cond.methodLink RX0 158 yX0_signOfTwo, Cond.static yX0_signOfTwo, Cond.code yX0_signOfTwo cX0_signOfTwo 2 (some .int), Cond.methodLink RX0 171 yX0_signWithEqual, Cond.static yX0_signWithEqual, Cond.code yX0_signWithEqual cX0_signWithEqual 1 (some .int), Cond.methodLink RX0 174 yX0_signOfTwins, Cond.static yX0_signOfTwins, Cond.code yX0_signOfTwins cX0_signOfTwins 1 (some .int), Cond.methodLink RX0 161 yX0_signOfOne, Cond.static yX0_signOfOne, Cond.code yX0_signOfOne cX0_signOfOne 1 (some .int)]
def wsX0_pastBlankOrToken : List Cond := .code yX0_pastBlankOrToken cX0_pastBlankOrToken 3 (some .int) :: ((wsX0_pastBlankOrToken_r1 ++ (wsX0_pastBlankOrToken_r2 ++ (wsX0_pastBlankOrToken_r3 ++ (wsX0_pastBlankOrToken_r4 ++ wsX0_pastBlankOrToken_r5)))) ++ wsX00)
def wsX0_cut_r1 : List Cond := [Cond.fieldLink RX0 39 "TokenRows" "textSize" "I", Cond.fieldLink RX0 45 "TokenRows" "fault" "I", Cond.fieldLink RX0 48 "TokenRows" "count" "I", Cond.methodLink RX0 56 yX0_takeTray, Cond.instanceMethod yX0_takeTray, Cond.selects RX0 yX0_takeTray yX0_takeTray, Cond.initialized RX0, Cond.code yX0_takeTray cX0_takeTray 2 none, Cond.fieldLink RX0 13 "TokenRows" "text" "[B", Cond.fieldLink RX0 9 "TokenRows" "tray" "[B", Cond.fieldLink RX0 32 "TokenRows" "traySize" "I", Cond.fieldLink RX0 42 "TokenRows" "lineNow" "I", Cond.methodLink RX0 59 yX0_pastBlankOrToken, Cond.instanceMethod yX0_pastBlankOrToken, Cond.selects RX0 yX0_pastBlankOrToken yX0_pastBlankOrToken, Cond.code yX0_pastBlankOrToken cX0_pastBlankOrToken 3 (some .int), Cond.methodLink RX0 78 yX0_byteAt, Cond.instanceMethod yX0_byteAt, Cond.selects RX0 yX0_byteAt yX0_byteAt, Cond.code yX0_byteAt cX0_byteAt 2 (some .int), Cond.methodLink RX0 84 yX0_isBlankByte, Cond.static yX0_isBlankByte, Cond.code yX0_isBlankByte cX0_isBlankByte 1 (some .boolean), Cond.methodLink RX0 87 yX0_countLine]
def wsX0_cut_r2 : List Cond := [Cond.instanceMethod yX0_countLine, Cond.selects RX0 yX0_countLine yX0_countLine, Cond.code yX0_countLine cX0_countLine 2 none, Cond.methodLink RX0 90 yX0_pastLineComment, Cond.instanceMethod yX0_pastLineComment, Cond.selects RX0 yX0_pastLineComment yX0_pastLineComment, Cond.code yX0_pastLineComment cX0_pastLineComment 4 (some .int), Cond.methodLink RX0 123 yX0_mayOccur, Cond.static yX0_mayOccur, Cond.code yX0_mayOccur cX0_mayOccur 1 (some .boolean), Cond.methodLink RX0 126 yX0_fail, Cond.instanceMethod yX0_fail, Cond.selects RX0 yX0_fail yX0_fail, Cond.code yX0_fail cX0_fail 2 (some .int), Cond.methodLink RX0 93 yX0_pastStarComment, Cond.instanceMethod yX0_pastStarComment, Cond.selects RX0 yX0_pastStarComment yX0_pastStarComment, Cond.code yX0_pastStarComment cX0_pastStarComment 4 (some .int), Cond.methodLink RX0 96 yX0_isLetter, Cond.static yX0_isLetter, Cond.code yX0_isLetter cX0_isLetter 1 (some .boolean), Cond.methodLink RX0 99 yX0_pastName, Cond.instanceMethod yX0_pastName, Cond.selects RX0 yX0_pastName yX0_pastName]
def wsX0_cut_r3 : List Cond := [Cond.code yX0_pastName cX0_pastName 4 (some .int), Cond.methodLink RX0 129 yX0_isNamePart, Cond.static yX0_isNamePart, Cond.code yX0_isNamePart cX0_isNamePart 1 (some .boolean), Cond.methodLink RX0 102 yX0_isDigit, Cond.static yX0_isDigit, Cond.code yX0_isDigit cX0_isDigit 1 (some .boolean), Cond.methodLink RX0 132 yX0_wordNumber, Cond.instanceMethod yX0_wordNumber, Cond.selects RX0 yX0_wordNumber yX0_wordNumber, Cond.code yX0_wordNumber cX0_wordNumber 6 (some .int), Cond.fieldLink RX0 167 "TokenRows" "WORDS" "[C", Cond.methodLink RX0 135 yX0_keep, Cond.instanceMethod yX0_keep, Cond.selects RX0 yX0_keep yX0_keep, Cond.code yX0_keep cX0_keep 5 (some .int), Cond.fieldLink RX0 16 "TokenRows" "kinds" "[I", Cond.fieldLink RX0 29 "TokenRows" "tells" "[I", Cond.fieldLink RX0 20 "TokenRows" "starts" "[I", Cond.fieldLink RX0 23 "TokenRows" "sizes" "[I", Cond.fieldLink RX0 26 "TokenRows" "lines" "[I", Cond.methodLink RX0 105 yX0_isHexNumber, Cond.instanceMethod yX0_isHexNumber, Cond.selects RX0 yX0_isHexNumber yX0_isHexNumber]
def wsX0_cut_r4 : List Cond := [Cond.code yX0_isHexNumber cX0_isHexNumber 2 (some .boolean), Cond.methodLink RX0 151 yX0_hexDigit, Cond.static yX0_hexDigit, Cond.code yX0_hexDigit cX0_hexDigit 1 (some .int), Cond.methodLink RX0 108 yX0_pastHexNumber, Cond.instanceMethod yX0_pastHexNumber, Cond.selects RX0 yX0_pastHexNumber yX0_pastHexNumber, Cond.code yX0_pastHexNumber cX0_pastHexNumber 4 (some .int), Cond.methodLink RX0 111 yX0_pastDigits, Cond.instanceMethod yX0_pastDigits, Cond.selects RX0 yX0_pastDigits yX0_pastDigits, Cond.code yX0_pastDigits cX0_pastDigits 5 (some .int), Cond.constantLong RX0 139 (10), Cond.constantLong RX0 141 (2147483648), Cond.methodLink RX0 143 Lib.MathLoose.min_long.x, Cond.static Lib.MathLoose.min_long.x, Cond.initialized "java/lang/Math", Cond.code Lib.MathLoose.min_long.x Lib.MathLoose.min_long.code 4 (some .long), Cond.constantLong RX0 149 (2147483647), Cond.methodLink RX0 114 yX0_pastQuotedCode, Cond.instanceMethod yX0_pastQuotedCode, Cond.selects RX0 yX0_pastQuotedCode yX0_pastQuotedCode, Cond.code yX0_pastQuotedCode cX0_pastQuotedCode 4 (some .int), Cond.methodLink RX0 71 yX0_codeWidth]
def wsX0_cut_r5 : List Cond := [Cond.instanceMethod yX0_codeWidth, Cond.selects RX0 yX0_codeWidth yX0_codeWidth, Cond.code yX0_codeWidth cX0_codeWidth 4 (some .int), Cond.methodLink RX0 164 yX0_escapedCode, Cond.static yX0_escapedCode, Cond.code yX0_escapedCode cX0_escapedCode 1 (some .int), Cond.methodLink RX0 75 yX0_codeAt, Cond.instanceMethod yX0_codeAt, Cond.selects RX0 yX0_codeAt yX0_codeAt, Cond.code yX0_codeAt cX0_codeAt 3 (some .int), Cond.methodLink RX0 117 yX0_pastString, Cond.instanceMethod yX0_pastString, Cond.selects RX0 yX0_pastString yX0_pastString, Cond.code yX0_pastString cX0_pastString 5 (some .int), Cond.methodLink RX0 120 yX0_pastSign, Cond.instanceMethod yX0_pastSign, Cond.selects RX0 yX0_pastSign yX0_pastSign, Cond.code yX0_pastSign cX0_pastSign 7 (some .int), Cond.methodLink RX0 154 yX0_signOfThree, Cond.static yX0_signOfThree, Cond.code yX0_signOfThree cX0_signOfThree 3 (some .int), Cond.methodLink RX0 158 yX0_signOfTwo, Cond.static yX0_signOfTwo, Cond.code yX0_signOfTwo cX0_signOfTwo 2 (some .int)]
def wsX0_cut_r6 : List Cond := [Cond.methodLink RX0 171 yX0_signWithEqual, Cond.static yX0_signWithEqual, Cond.code yX0_signWithEqual cX0_signWithEqual 1 (some .int), Cond.methodLink RX0 174 yX0_signOfTwins, Cond.static yX0_signOfTwins, Cond.code yX0_signOfTwins cX0_signOfTwins 1 (some .int), Cond.methodLink RX0 161 yX0_signOfOne, Cond.static yX0_signOfOne, Cond.code yX0_signOfOne cX0_signOfOne 1 (some .int)]
def wsX0_cut : List Cond := .code yX0_cut cX0_cut 3 (some .int) :: ((wsX0_cut_r1 ++ (wsX0_cut_r2 ++ (wsX0_cut_r3 ++ (wsX0_cut_r4 ++ (wsX0_cut_r5 ++ wsX0_cut_r6))))) ++ wsX00)
def wsX0_place : List Cond := .code yX0_place cX0_place 1 (some .int) :: ([.fieldLink RX0 45 "TokenRows" "fault" "I"] ++ wsX00)
def wsX0_tokens : List Cond := .code yX0_tokens cX0_tokens 1 (some .int) :: ([.fieldLink RX0 48 "TokenRows" "count" "I"] ++ wsX00)
def wsX0_isToken : List Cond := .code yX0_isToken cX0_isToken 2 (some .boolean) :: ([.fieldLink RX0 48 "TokenRows" "count" "I", .fieldLink RX0 16 "TokenRows" "kinds" "[I"] ++ wsX00)
def wsX0_kind : List Cond := .code yX0_kind cX0_kind 2 (some .int) :: ([.fieldLink RX0 16 "TokenRows" "kinds" "[I", .methodLink RX0 63 yX0_isToken, .instanceMethod yX0_isToken, .selects RX0 yX0_isToken yX0_isToken, .initialized RX0, .code yX0_isToken cX0_isToken 2 (some .boolean), .fieldLink RX0 48 "TokenRows" "count" "I"] ++ wsX00)
def wsX0_isOfKind : List Cond := .code yX0_isOfKind cX0_isOfKind 3 (some .boolean) :: ([.fieldLink RX0 16 "TokenRows" "kinds" "[I", .methodLink RX0 63 yX0_isToken, .instanceMethod yX0_isToken, .selects RX0 yX0_isToken yX0_isToken, .initialized RX0, .code yX0_isToken cX0_isToken 2 (some .boolean), .fieldLink RX0 48 "TokenRows" "count" "I"] ++ wsX00)
def wsX0_which : List Cond := .code yX0_which cX0_which 2 (some .int) :: ([.fieldLink RX0 29 "TokenRows" "tells" "[I", .methodLink RX0 67 yX0_isOfKind, .instanceMethod yX0_isOfKind, .selects RX0 yX0_isOfKind yX0_isOfKind, .initialized RX0, .code yX0_isOfKind cX0_isOfKind 3 (some .boolean), .fieldLink RX0 16 "TokenRows" "kinds" "[I", .methodLink RX0 63 yX0_isToken, .instanceMethod yX0_isToken, .selects RX0 yX0_isToken yX0_isToken, .code yX0_isToken cX0_isToken 2 (some .boolean), .fieldLink RX0 48 "TokenRows" "count" "I"] ++ wsX00)
def wsX0_from : List Cond := .code yX0_from cX0_from 2 (some .int) :: ([.fieldLink RX0 20 "TokenRows" "starts" "[I", .methodLink RX0 63 yX0_isToken, .instanceMethod yX0_isToken, .selects RX0 yX0_isToken yX0_isToken, .initialized RX0, .code yX0_isToken cX0_isToken 2 (some .boolean), .fieldLink RX0 48 "TokenRows" "count" "I", .fieldLink RX0 16 "TokenRows" "kinds" "[I"] ++ wsX00)
def wsX0_length : List Cond := .code yX0_length cX0_length 2 (some .int) :: ([.fieldLink RX0 23 "TokenRows" "sizes" "[I", .methodLink RX0 63 yX0_isToken, .instanceMethod yX0_isToken, .selects RX0 yX0_isToken yX0_isToken, .initialized RX0, .code yX0_isToken cX0_isToken 2 (some .boolean), .fieldLink RX0 48 "TokenRows" "count" "I", .fieldLink RX0 16 "TokenRows" "kinds" "[I"] ++ wsX00)
def wsX0_line : List Cond := .code yX0_line cX0_line 2 (some .int) :: ([.fieldLink RX0 26 "TokenRows" "lines" "[I", .methodLink RX0 63 yX0_isToken, .instanceMethod yX0_isToken, .selects RX0 yX0_isToken yX0_isToken, .initialized RX0, .code yX0_isToken cX0_isToken 2 (some .boolean), .fieldLink RX0 48 "TokenRows" "count" "I", .fieldLink RX0 16 "TokenRows" "kinds" "[I"] ++ wsX00)
def wsX0_worth : List Cond := .code yX0_worth cX0_worth 2 (some .int) :: ([.fieldLink RX0 29 "TokenRows" "tells" "[I", .methodLink RX0 67 yX0_isOfKind, .instanceMethod yX0_isOfKind, .selects RX0 yX0_isOfKind yX0_isOfKind, .initialized RX0, .code yX0_isOfKind cX0_isOfKind 3 (some .boolean), .fieldLink RX0 16 "TokenRows" "kinds" "[I", .methodLink RX0 63 yX0_isToken, .instanceMethod yX0_isToken, .selects RX0 yX0_isToken yX0_isToken, .code yX0_isToken cX0_isToken 2 (some .boolean), .fieldLink RX0 48 "TokenRows" "count" "I"] ++ wsX00)
def wsX0_codes : List Cond := .code yX0_codes cX0_codes 2 (some .int) :: ([.fieldLink RX0 29 "TokenRows" "tells" "[I", .methodLink RX0 67 yX0_isOfKind, .instanceMethod yX0_isOfKind, .selects RX0 yX0_isOfKind yX0_isOfKind, .initialized RX0, .code yX0_isOfKind cX0_isOfKind 3 (some .boolean), .fieldLink RX0 16 "TokenRows" "kinds" "[I", .methodLink RX0 63 yX0_isToken, .instanceMethod yX0_isToken, .selects RX0 yX0_isToken yX0_isToken, .code yX0_isToken cX0_isToken 2 (some .boolean), .fieldLink RX0 48 "TokenRows" "count" "I"] ++ wsX00)
def wsX0_code_r1 : List Cond := [Cond.fieldLink RX0 29 "TokenRows" "tells" "[I", Cond.fieldLink RX0 20 "TokenRows" "starts" "[I", Cond.methodLink RX0 67 yX0_isOfKind, Cond.instanceMethod yX0_isOfKind, Cond.selects RX0 yX0_isOfKind yX0_isOfKind, Cond.initialized RX0, Cond.code yX0_isOfKind cX0_isOfKind 3 (some .boolean), Cond.fieldLink RX0 16 "TokenRows" "kinds" "[I", Cond.methodLink RX0 63 yX0_isToken, Cond.instanceMethod yX0_isToken, Cond.selects RX0 yX0_isToken yX0_isToken, Cond.code yX0_isToken cX0_isToken 2 (some .boolean), Cond.fieldLink RX0 48 "TokenRows" "count" "I", Cond.methodLink RX0 71 yX0_codeWidth, Cond.instanceMethod yX0_codeWidth, Cond.selects RX0 yX0_codeWidth yX0_codeWidth, Cond.code yX0_codeWidth cX0_codeWidth 4 (some .int), Cond.methodLink RX0 78 yX0_byteAt, Cond.instanceMethod yX0_byteAt, Cond.selects RX0 yX0_byteAt yX0_byteAt, Cond.code yX0_byteAt cX0_byteAt 2 (some .int), Cond.fieldLink RX0 39 "TokenRows" "textSize" "I", Cond.fieldLink RX0 13 "TokenRows" "text" "[B", Cond.methodLink RX0 164 yX0_escapedCode]
def wsX0_code_r2 : List Cond := [Cond.static yX0_escapedCode, Cond.code yX0_escapedCode cX0_escapedCode 1 (some .int), Cond.methodLink RX0 75 yX0_codeAt, Cond.instanceMethod yX0_codeAt, Cond.selects RX0 yX0_codeAt yX0_codeAt, Cond.code yX0_codeAt cX0_codeAt 3 (some .int)]
def wsX0_code : List Cond := .code yX0_code cX0_code 5 (some .int) :: ((wsX0_code_r1 ++ wsX0_code_r2) ++ wsX00)
def wsX0_same : List Cond := .code yX0_same cX0_same 4 (some .boolean) :: ([.fieldLink RX0 23 "TokenRows" "sizes" "[I", .fieldLink RX0 20 "TokenRows" "starts" "[I", .methodLink RX0 63 yX0_isToken, .instanceMethod yX0_isToken, .selects RX0 yX0_isToken yX0_isToken, .initialized RX0, .code yX0_isToken cX0_isToken 2 (some .boolean), .fieldLink RX0 48 "TokenRows" "count" "I", .fieldLink RX0 16 "TokenRows" "kinds" "[I", .methodLink RX0 78 yX0_byteAt, .instanceMethod yX0_byteAt, .selects RX0 yX0_byteAt yX0_byteAt, .code yX0_byteAt cX0_byteAt 2 (some .int), .fieldLink RX0 39 "TokenRows" "textSize" "I", .fieldLink RX0 13 "TokenRows" "text" "[B"] ++ wsX00)
def wsX1_init : List Cond := .code yX1_init cX1_init 1 none :: ([.methodLink RX1 1 objectInit, .instanceMethod objectInit, .code objectInit ⟨#[0xb1]⟩ 1 none, .arrayClass .byte, .fieldLink RX1 9 "TokenRowsModel" "tray" "[B", .fieldLink RX1 13 "TokenRowsModel" "text" "[B", .arrayClass .int, .fieldLink RX1 16 "TokenRowsModel" "kinds" "[I", .fieldLink RX1 20 "TokenRowsModel" "froms" "[I", .fieldLink RX1 23 "TokenRowsModel" "tos" "[I", .fieldLink RX1 26 "TokenRowsModel" "place" "I"] ++ wsX10)
def wsX1_four : List Cond := .code yX1_four cX1_four 3 none :: ([.fieldLink RX1 9 "TokenRowsModel" "tray" "[B", .fieldLink RX1 30 "TokenRowsModel" "trayed" "I"] ++ wsX10)
def wsX1_feed : List Cond := .code yX1_feed cX1_feed 6 (some .int) :: ([.fieldLink RX1 30 "TokenRowsModel" "trayed" "I", .fieldLink RX1 33 "TokenRowsModel" "fed" "I", .constant RX1 36 (65536), .methodLink RX1 37 yX1_four, .instanceMethod yX1_four, .selects RX1 yX1_four yX1_four, .initialized RX1, .code yX1_four cX1_four 3 none, .fieldLink RX1 9 "TokenRowsModel" "tray" "[B"] ++ wsX10)
def wsX1_end : List Cond := .code yX1_end cX1_end 2 (some .int) :: ([.fieldLink RX1 30 "TokenRowsModel" "trayed" "I"] ++ wsX10)
def wsX1_look : List Cond := .code yX1_look cX1_look 2 (some .int) :: ([.fieldLink RX1 41 "TokenRowsModel" "size" "I", .fieldLink RX1 13 "TokenRowsModel" "text" "[B"] ++ wsX10)
def wsX1_isDigit : List Cond := .code yX1_isDigit cX1_isDigit 1 (some .boolean) :: ([])
def wsX1_isInName : List Cond := .code yX1_isInName cX1_isInName 1 (some .boolean) :: ([.methodLink RX1 44 yX1_isDigit, .static yX1_isDigit, .initialized RX1, .code yX1_isDigit cX1_isDigit 1 (some .boolean)])
def wsX1_sixteen : List Cond := .code yX1_sixteen cX1_sixteen 1 (some .int) :: ([.methodLink RX1 44 yX1_isDigit, .static yX1_isDigit, .initialized RX1, .code yX1_isDigit cX1_isDigit 1 (some .boolean)])
def wsX1_isBlank : List Cond := .code yX1_isBlank cX1_isBlank 1 (some .boolean) :: ([])
def wsX1_isAllowed : List Cond := .code yX1_isAllowed cX1_isAllowed 1 (some .boolean) :: ([.methodLink RX1 48 yX1_isBlank, .static yX1_isBlank, .initialized RX1, .code yX1_isBlank cX1_isBlank 1 (some .boolean)])
def wsX1_blanks : List Cond := .code yX1_blanks cX1_blanks 7 (some .int) :: ([.fieldLink RX1 26 "TokenRowsModel" "place" "I", .methodLink RX1 51 yX1_look, .instanceMethod yX1_look, .selects RX1 yX1_look yX1_look, .initialized RX1, .code yX1_look cX1_look 2 (some .int), .fieldLink RX1 41 "TokenRowsModel" "size" "I", .fieldLink RX1 13 "TokenRowsModel" "text" "[B", .methodLink RX1 48 yX1_isBlank, .static yX1_isBlank, .code yX1_isBlank cX1_isBlank 1 (some .boolean), .methodLink RX1 55 yX1_isAllowed, .static yX1_isAllowed, .code yX1_isAllowed cX1_isAllowed 1 (some .boolean)] ++ wsX10)
def wsJ0_coder_7d493 : List Cond := .code yJ0_coder_7d493 cJ0_coder_7d493 1 (some .byte) :: ([.fieldLink RJ0 38 "java/lang/String" "COMPACT_STRINGS" "Z", .fieldLink RJ0 15 "java/lang/String" "coder" "B"])
def wsJ0_length_8abf5 : List Cond := .code yJ0_length_8abf5 cJ0_length_8abf5 1 (some .int) :: ([.fieldLink RJ0 9 "java/lang/String" "value" "[B", .methodLink RJ0 335 yJ0_coder_7d493, .instanceMethod yJ0_coder_7d493, .selects RJ0 yJ0_coder_7d493 yJ0_coder_7d493, .initialized RJ0, .code yJ0_coder_7d493 cJ0_coder_7d493 1 (some .byte), .fieldLink RJ0 38 "java/lang/String" "COMPACT_STRINGS" "Z", .fieldLink RJ0 15 "java/lang/String" "coder" "B"])
def wsJ0_isLatin1_aae02 : List Cond := .code yJ0_isLatin1_aae02 cJ0_isLatin1_aae02 1 (some .boolean) :: ([.fieldLink RJ0 38 "java/lang/String" "COMPACT_STRINGS" "Z", .fieldLink RJ0 15 "java/lang/String" "coder" "B"])
def wsJ3_checkIndex_8e157 : List Cond := .code yJ3_checkIndex_8e157 cJ3_checkIndex_8e157 3 (some .int) :: ([])
def wsJ0_checkIndex_df160 : List Cond := .code yJ0_checkIndex_df160 cJ0_checkIndex_df160 2 none :: ([.fieldLink RJ0 1053 "jdk/internal/util/Preconditions" "SIOOBE_FORMATTER" "Ljava/util/function/BiFunction;", .methodLink RJ0 1059 yJ3_checkIndex_8e157, .static yJ3_checkIndex_8e157, .initialized RJ3, .code yJ3_checkIndex_8e157 cJ3_checkIndex_8e157 3 (some .int)])
def wsJ1_charAt_3b067 : List Cond := .code yJ1_charAt_3b067 cJ1_charAt_3b067 2 (some .char) :: ([.methodLink RJ1 9 yJ0_checkIndex_df160, .static yJ0_checkIndex_df160, .initialized RJ0, .code yJ0_checkIndex_df160 cJ0_checkIndex_df160 2 none, .fieldLink RJ0 1053 "jdk/internal/util/Preconditions" "SIOOBE_FORMATTER" "Ljava/util/function/BiFunction;", .methodLink RJ0 1059 yJ3_checkIndex_8e157, .static yJ3_checkIndex_8e157, .initialized RJ3, .code yJ3_checkIndex_8e157 cJ3_checkIndex_8e157 3 (some .int)])
def wsJ2_length_9d52b : List Cond := .code yJ2_length_9d52b cJ2_length_9d52b 1 (some .int) :: ([])
def wsJ2_checkIndex_2214a : List Cond := .code yJ2_checkIndex_2214a cJ2_checkIndex_2214a 2 none :: ([.methodLink RJ2 48 yJ2_length_9d52b, .static yJ2_length_9d52b, .initialized RJ2, .code yJ2_length_9d52b cJ2_length_9d52b 1 (some .int), .methodLink RJ2 414 yJ0_checkIndex_df160, .static yJ0_checkIndex_df160, .initialized RJ0, .code yJ0_checkIndex_df160 cJ0_checkIndex_df160 2 none, .fieldLink RJ0 1053 "jdk/internal/util/Preconditions" "SIOOBE_FORMATTER" "Ljava/util/function/BiFunction;", .methodLink RJ0 1059 yJ3_checkIndex_8e157, .static yJ3_checkIndex_8e157, .initialized RJ3, .code yJ3_checkIndex_8e157 cJ3_checkIndex_8e157 3 (some .int)])
def wsJ2_getChar_3b067 : List Cond := .code yJ2_getChar_3b067 cJ2_getChar_3b067 2 (some .char) :: ([.fieldLink RJ2 44 "java/lang/StringUTF16" "$assertionsDisabled" "Z", .fieldLink RJ2 59 "java/lang/StringUTF16" "HI_BYTE_SHIFT" "I", .fieldLink RJ2 63 "java/lang/StringUTF16" "LO_BYTE_SHIFT" "I", .methodLink RJ2 48 yJ2_length_9d52b, .static yJ2_length_9d52b, .initialized RJ2, .code yJ2_length_9d52b cJ2_length_9d52b 1 (some .int)])
def wsJ2_charAt_3b067 : List Cond := .code yJ2_charAt_3b067 cJ2_charAt_3b067 2 (some .char) :: ([.methodLink RJ2 67 yJ2_checkIndex_2214a, .static yJ2_checkIndex_2214a, .initialized RJ2, .code yJ2_checkIndex_2214a cJ2_checkIndex_2214a 2 none, .methodLink RJ2 48 yJ2_length_9d52b, .static yJ2_length_9d52b, .code yJ2_length_9d52b cJ2_length_9d52b 1 (some .int), .methodLink RJ2 414 yJ0_checkIndex_df160, .static yJ0_checkIndex_df160, .initialized RJ0, .code yJ0_checkIndex_df160 cJ0_checkIndex_df160 2 none, .fieldLink RJ0 1053 "jdk/internal/util/Preconditions" "SIOOBE_FORMATTER" "Ljava/util/function/BiFunction;", .methodLink RJ0 1059 yJ3_checkIndex_8e157, .static yJ3_checkIndex_8e157, .initialized RJ3, .code yJ3_checkIndex_8e157 cJ3_checkIndex_8e157 3 (some .int), .methodLink RJ2 71 yJ2_getChar_3b067, .static yJ2_getChar_3b067, .code yJ2_getChar_3b067 cJ2_getChar_3b067 2 (some .char), .fieldLink RJ2 44 "java/lang/StringUTF16" "$assertionsDisabled" "Z", .fieldLink RJ2 59 "java/lang/StringUTF16" "HI_BYTE_SHIFT" "I", .fieldLink RJ2 63 "java/lang/StringUTF16" "LO_BYTE_SHIFT" "I"])
def wsJ0_charAt_5068e_r1 : List Cond := [Cond.fieldLink RJ0 9 "java/lang/String" "value" "[B", Cond.methodLink RJ0 492 yJ0_isLatin1_aae02, Cond.instanceMethod yJ0_isLatin1_aae02, Cond.selects RJ0 yJ0_isLatin1_aae02 yJ0_isLatin1_aae02, Cond.initialized RJ0, Cond.code yJ0_isLatin1_aae02 cJ0_isLatin1_aae02 1 (some .boolean), Cond.fieldLink RJ0 38 "java/lang/String" "COMPACT_STRINGS" "Z", Cond.fieldLink RJ0 15 "java/lang/String" "coder" "B", Cond.methodLink RJ0 495 yJ1_charAt_3b067, Cond.static yJ1_charAt_3b067, Cond.initialized RJ1, Cond.code yJ1_charAt_3b067 cJ1_charAt_3b067 2 (some .char), Cond.methodLink RJ1 9 yJ0_checkIndex_df160, Cond.static yJ0_checkIndex_df160, Cond.code yJ0_checkIndex_df160 cJ0_checkIndex_df160 2 none, Cond.fieldLink RJ0 1053 "jdk/internal/util/Preconditions" "SIOOBE_FORMATTER" "Ljava/util/function/BiFunction;", Cond.methodLink RJ0 1059 yJ3_checkIndex_8e157, Cond.static yJ3_checkIndex_8e157, Cond.initialized RJ3, Cond.code yJ3_checkIndex_8e157 cJ3_checkIndex_8e157 3 (some .int), Cond.methodLink RJ0 498 yJ2_charAt_3b067, Cond.static yJ2_charAt_3b067, Cond.initialized RJ2, Cond.code yJ2_charAt_3b067 cJ2_charAt_3b067 2 (some .char)]
def wsJ0_charAt_5068e_r2 : List Cond := [Cond.methodLink RJ2 67 yJ2_checkIndex_2214a, Cond.static yJ2_checkIndex_2214a, Cond.code yJ2_checkIndex_2214a cJ2_checkIndex_2214a 2 none, Cond.methodLink RJ2 48 yJ2_length_9d52b, Cond.static yJ2_length_9d52b, Cond.code yJ2_length_9d52b cJ2_length_9d52b 1 (some .int), Cond.methodLink RJ2 414 yJ0_checkIndex_df160, Cond.methodLink RJ2 71 yJ2_getChar_3b067, Cond.static yJ2_getChar_3b067, Cond.code yJ2_getChar_3b067 cJ2_getChar_3b067 2 (some .char), Cond.fieldLink RJ2 44 "java/lang/StringUTF16" "$assertionsDisabled" "Z", Cond.fieldLink RJ2 59 "java/lang/StringUTF16" "HI_BYTE_SHIFT" "I", Cond.fieldLink RJ2 63 "java/lang/StringUTF16" "LO_BYTE_SHIFT" "I"]
def wsJ0_charAt_5068e : List Cond := .code yJ0_charAt_5068e cJ0_charAt_5068e 2 (some .char) :: ((wsJ0_charAt_5068e_r1 ++ wsJ0_charAt_5068e_r2))
def wsX1_isAt_r1 : List Cond := [Cond.methodLink RX1 51 yX1_look, Cond.instanceMethod yX1_look, Cond.selects RX1 yX1_look yX1_look, Cond.initialized RX1, Cond.code yX1_look cX1_look 2 (some .int), Cond.fieldLink RX1 41 "TokenRowsModel" "size" "I", Cond.fieldLink RX1 13 "TokenRowsModel" "text" "[B", Cond.methodLink RX1 96 yJ0_charAt_5068e, Cond.instanceMethod yJ0_charAt_5068e, Cond.selects RJ0 yJ0_charAt_5068e yJ0_charAt_5068e, Cond.initialized RJ0, Cond.code yJ0_charAt_5068e cJ0_charAt_5068e 2 (some .char), Cond.fieldLink RJ0 9 "java/lang/String" "value" "[B", Cond.methodLink RJ0 492 yJ0_isLatin1_aae02, Cond.instanceMethod yJ0_isLatin1_aae02, Cond.selects RJ0 yJ0_isLatin1_aae02 yJ0_isLatin1_aae02, Cond.code yJ0_isLatin1_aae02 cJ0_isLatin1_aae02 1 (some .boolean), Cond.fieldLink RJ0 38 "java/lang/String" "COMPACT_STRINGS" "Z", Cond.fieldLink RJ0 15 "java/lang/String" "coder" "B", Cond.methodLink RJ0 495 yJ1_charAt_3b067, Cond.static yJ1_charAt_3b067, Cond.initialized RJ1, Cond.code yJ1_charAt_3b067 cJ1_charAt_3b067 2 (some .char), Cond.methodLink RJ1 9 yJ0_checkIndex_df160]
def wsX1_isAt_r2 : List Cond := [Cond.static yJ0_checkIndex_df160, Cond.code yJ0_checkIndex_df160 cJ0_checkIndex_df160 2 none, Cond.fieldLink RJ0 1053 "jdk/internal/util/Preconditions" "SIOOBE_FORMATTER" "Ljava/util/function/BiFunction;", Cond.methodLink RJ0 1059 yJ3_checkIndex_8e157, Cond.static yJ3_checkIndex_8e157, Cond.initialized RJ3, Cond.code yJ3_checkIndex_8e157 cJ3_checkIndex_8e157 3 (some .int), Cond.methodLink RJ0 498 yJ2_charAt_3b067, Cond.static yJ2_charAt_3b067, Cond.initialized RJ2, Cond.code yJ2_charAt_3b067 cJ2_charAt_3b067 2 (some .char), Cond.methodLink RJ2 67 yJ2_checkIndex_2214a, Cond.static yJ2_checkIndex_2214a, Cond.code yJ2_checkIndex_2214a cJ2_checkIndex_2214a 2 none, Cond.methodLink RJ2 48 yJ2_length_9d52b, Cond.static yJ2_length_9d52b, Cond.code yJ2_length_9d52b cJ2_length_9d52b 1 (some .int), Cond.methodLink RJ2 414 yJ0_checkIndex_df160, Cond.methodLink RJ2 71 yJ2_getChar_3b067, Cond.static yJ2_getChar_3b067, Cond.code yJ2_getChar_3b067 cJ2_getChar_3b067 2 (some .char), Cond.fieldLink RJ2 44 "java/lang/StringUTF16" "$assertionsDisabled" "Z", Cond.fieldLink RJ2 59 "java/lang/StringUTF16" "HI_BYTE_SHIFT" "I", Cond.fieldLink RJ2 63 "java/lang/StringUTF16" "LO_BYTE_SHIFT" "I"]
def wsX1_isAt : List Cond := .code yX1_isAt cX1_isAt 6 (some .boolean) :: ((wsX1_isAt_r1 ++ wsX1_isAt_r2) ++ wsX10)
def wsX1_signEnd_r1 : List Cond := [Cond.methodLink RX1 104 yJ0_length_8abf5, Cond.instanceMethod yJ0_length_8abf5, Cond.selects RJ0 yJ0_length_8abf5 yJ0_length_8abf5, Cond.initialized RJ0, Cond.code yJ0_length_8abf5 cJ0_length_8abf5 1 (some .int), Cond.fieldLink RJ0 9 "java/lang/String" "value" "[B", Cond.methodLink RJ0 335 yJ0_coder_7d493, Cond.instanceMethod yJ0_coder_7d493, Cond.selects RJ0 yJ0_coder_7d493 yJ0_coder_7d493, Cond.code yJ0_coder_7d493 cJ0_coder_7d493 1 (some .byte), Cond.fieldLink RJ0 38 "java/lang/String" "COMPACT_STRINGS" "Z", Cond.fieldLink RJ0 15 "java/lang/String" "coder" "B", Cond.methodLink RX1 96 yJ0_charAt_5068e, Cond.instanceMethod yJ0_charAt_5068e, Cond.selects RJ0 yJ0_charAt_5068e yJ0_charAt_5068e, Cond.code yJ0_charAt_5068e cJ0_charAt_5068e 2 (some .char), Cond.methodLink RJ0 492 yJ0_isLatin1_aae02, Cond.instanceMethod yJ0_isLatin1_aae02, Cond.selects RJ0 yJ0_isLatin1_aae02 yJ0_isLatin1_aae02, Cond.code yJ0_isLatin1_aae02 cJ0_isLatin1_aae02 1 (some .boolean), Cond.methodLink RJ0 495 yJ1_charAt_3b067, Cond.static yJ1_charAt_3b067, Cond.initialized RJ1, Cond.code yJ1_charAt_3b067 cJ1_charAt_3b067 2 (some .char)]
def wsX1_signEnd_r2 : List Cond := [Cond.methodLink RJ1 9 yJ0_checkIndex_df160, Cond.static yJ0_checkIndex_df160, Cond.code yJ0_checkIndex_df160 cJ0_checkIndex_df160 2 none, Cond.fieldLink RJ0 1053 "jdk/internal/util/Preconditions" "SIOOBE_FORMATTER" "Ljava/util/function/BiFunction;", Cond.methodLink RJ0 1059 yJ3_checkIndex_8e157, Cond.static yJ3_checkIndex_8e157, Cond.initialized RJ3, Cond.code yJ3_checkIndex_8e157 cJ3_checkIndex_8e157 3 (some .int), Cond.methodLink RJ0 498 yJ2_charAt_3b067, Cond.static yJ2_charAt_3b067, Cond.initialized RJ2, Cond.code yJ2_charAt_3b067 cJ2_charAt_3b067 2 (some .char), Cond.methodLink RJ2 67 yJ2_checkIndex_2214a, Cond.static yJ2_checkIndex_2214a, Cond.code yJ2_checkIndex_2214a cJ2_checkIndex_2214a 2 none, Cond.methodLink RJ2 48 yJ2_length_9d52b, Cond.static yJ2_length_9d52b, Cond.code yJ2_length_9d52b cJ2_length_9d52b 1 (some .int), Cond.methodLink RJ2 414 yJ0_checkIndex_df160, Cond.methodLink RJ2 71 yJ2_getChar_3b067, Cond.static yJ2_getChar_3b067, Cond.code yJ2_getChar_3b067 cJ2_getChar_3b067 2 (some .char), Cond.fieldLink RJ2 44 "java/lang/StringUTF16" "$assertionsDisabled" "Z", Cond.fieldLink RJ2 59 "java/lang/StringUTF16" "HI_BYTE_SHIFT" "I"]
def wsX1_signEnd_r3 : List Cond := [Cond.fieldLink RJ2 63 "java/lang/StringUTF16" "LO_BYTE_SHIFT" "I", Cond.methodLink RX1 108 yX1_isAt, Cond.instanceMethod yX1_isAt, Cond.selects RX1 yX1_isAt yX1_isAt, Cond.initialized RX1, Cond.code yX1_isAt cX1_isAt 6 (some .boolean), Cond.methodLink RX1 51 yX1_look, Cond.instanceMethod yX1_look, Cond.selects RX1 yX1_look yX1_look, Cond.code yX1_look cX1_look 2 (some .int), Cond.fieldLink RX1 41 "TokenRowsModel" "size" "I", Cond.fieldLink RX1 13 "TokenRowsModel" "text" "[B"]
def wsX1_signEnd : List Cond := .code yX1_signEnd cX1_signEnd 5 (some .int) :: ((wsX1_signEnd_r1 ++ (wsX1_signEnd_r2 ++ wsX1_signEnd_r3)) ++ wsX10)
def wsX1_kindAt_r1 : List Cond := [Cond.methodLink RX1 51 yX1_look, Cond.instanceMethod yX1_look, Cond.selects RX1 yX1_look yX1_look, Cond.initialized RX1, Cond.code yX1_look cX1_look 2 (some .int), Cond.fieldLink RX1 41 "TokenRowsModel" "size" "I", Cond.fieldLink RX1 13 "TokenRowsModel" "text" "[B", Cond.methodLink RX1 44 yX1_isDigit, Cond.static yX1_isDigit, Cond.code yX1_isDigit cX1_isDigit 1 (some .boolean), Cond.methodLink RX1 71 yX1_isInName, Cond.static yX1_isInName, Cond.code yX1_isInName cX1_isInName 1 (some .boolean), Cond.methodLink RX1 74 yX1_signEnd, Cond.instanceMethod yX1_signEnd, Cond.selects RX1 yX1_signEnd yX1_signEnd, Cond.code yX1_signEnd cX1_signEnd 5 (some .int), Cond.methodLink RX1 104 yJ0_length_8abf5, Cond.instanceMethod yJ0_length_8abf5, Cond.selects RJ0 yJ0_length_8abf5 yJ0_length_8abf5, Cond.initialized RJ0, Cond.code yJ0_length_8abf5 cJ0_length_8abf5 1 (some .int), Cond.fieldLink RJ0 9 "java/lang/String" "value" "[B", Cond.methodLink RJ0 335 yJ0_coder_7d493]
def wsX1_kindAt_r2 : List Cond := [Cond.instanceMethod yJ0_coder_7d493, Cond.selects RJ0 yJ0_coder_7d493 yJ0_coder_7d493, Cond.code yJ0_coder_7d493 cJ0_coder_7d493 1 (some .byte), Cond.fieldLink RJ0 38 "java/lang/String" "COMPACT_STRINGS" "Z", Cond.fieldLink RJ0 15 "java/lang/String" "coder" "B", Cond.methodLink RX1 96 yJ0_charAt_5068e, Cond.instanceMethod yJ0_charAt_5068e, Cond.selects RJ0 yJ0_charAt_5068e yJ0_charAt_5068e, Cond.code yJ0_charAt_5068e cJ0_charAt_5068e 2 (some .char), Cond.methodLink RJ0 492 yJ0_isLatin1_aae02, Cond.instanceMethod yJ0_isLatin1_aae02, Cond.selects RJ0 yJ0_isLatin1_aae02 yJ0_isLatin1_aae02, Cond.code yJ0_isLatin1_aae02 cJ0_isLatin1_aae02 1 (some .boolean), Cond.methodLink RJ0 495 yJ1_charAt_3b067, Cond.static yJ1_charAt_3b067, Cond.initialized RJ1, Cond.code yJ1_charAt_3b067 cJ1_charAt_3b067 2 (some .char), Cond.methodLink RJ1 9 yJ0_checkIndex_df160, Cond.static yJ0_checkIndex_df160, Cond.code yJ0_checkIndex_df160 cJ0_checkIndex_df160 2 none, Cond.fieldLink RJ0 1053 "jdk/internal/util/Preconditions" "SIOOBE_FORMATTER" "Ljava/util/function/BiFunction;", Cond.methodLink RJ0 1059 yJ3_checkIndex_8e157, Cond.static yJ3_checkIndex_8e157, Cond.initialized RJ3]
def wsX1_kindAt_r3 : List Cond := [Cond.code yJ3_checkIndex_8e157 cJ3_checkIndex_8e157 3 (some .int), Cond.methodLink RJ0 498 yJ2_charAt_3b067, Cond.static yJ2_charAt_3b067, Cond.initialized RJ2, Cond.code yJ2_charAt_3b067 cJ2_charAt_3b067 2 (some .char), Cond.methodLink RJ2 67 yJ2_checkIndex_2214a, Cond.static yJ2_checkIndex_2214a, Cond.code yJ2_checkIndex_2214a cJ2_checkIndex_2214a 2 none, Cond.methodLink RJ2 48 yJ2_length_9d52b, Cond.static yJ2_length_9d52b, Cond.code yJ2_length_9d52b cJ2_length_9d52b 1 (some .int), Cond.methodLink RJ2 414 yJ0_checkIndex_df160, Cond.methodLink RJ2 71 yJ2_getChar_3b067, Cond.static yJ2_getChar_3b067, Cond.code yJ2_getChar_3b067 cJ2_getChar_3b067 2 (some .char), Cond.fieldLink RJ2 44 "java/lang/StringUTF16" "$assertionsDisabled" "Z", Cond.fieldLink RJ2 59 "java/lang/StringUTF16" "HI_BYTE_SHIFT" "I", Cond.fieldLink RJ2 63 "java/lang/StringUTF16" "LO_BYTE_SHIFT" "I", Cond.methodLink RX1 108 yX1_isAt, Cond.instanceMethod yX1_isAt, Cond.selects RX1 yX1_isAt yX1_isAt, Cond.code yX1_isAt cX1_isAt 6 (some .boolean)]
def wsX1_kindAt : List Cond := .code yX1_kindAt cX1_kindAt 3 (some .int) :: ((wsX1_kindAt_r1 ++ (wsX1_kindAt_r2 ++ wsX1_kindAt_r3)) ++ wsX10)
def wsX1_behind : List Cond := .code yX1_behind cX1_behind 5 (some .int) :: ([.methodLink RX1 51 yX1_look, .instanceMethod yX1_look, .selects RX1 yX1_look yX1_look, .initialized RX1, .code yX1_look cX1_look 2 (some .int), .fieldLink RX1 41 "TokenRowsModel" "size" "I", .fieldLink RX1 13 "TokenRowsModel" "text" "[B"] ++ wsX10)
def wsX1_stringEnd : List Cond := .code yX1_stringEnd cX1_stringEnd 4 (some .int) :: ([.methodLink RX1 51 yX1_look, .instanceMethod yX1_look, .selects RX1 yX1_look yX1_look, .initialized RX1, .code yX1_look cX1_look 2 (some .int), .fieldLink RX1 41 "TokenRowsModel" "size" "I", .fieldLink RX1 13 "TokenRowsModel" "text" "[B", .methodLink RX1 80 yX1_behind, .instanceMethod yX1_behind, .selects RX1 yX1_behind yX1_behind, .code yX1_behind cX1_behind 5 (some .int)] ++ wsX10)
def wsX1_isInt : List Cond := .code yX1_isInt cX1_isInt 7 (some .boolean) :: ([.constantLong RX1 90 (10), .constantLong RX1 92 (48), .constantLong RX1 94 (2147483647), .methodLink RX1 51 yX1_look, .instanceMethod yX1_look, .selects RX1 yX1_look yX1_look, .initialized RX1, .code yX1_look cX1_look 2 (some .int), .fieldLink RX1 41 "TokenRowsModel" "size" "I", .fieldLink RX1 13 "TokenRowsModel" "text" "[B"] ++ wsX10)
def wsX1_endOf_r1 : List Cond := [Cond.methodLink RX1 74 yX1_signEnd, Cond.instanceMethod yX1_signEnd, Cond.selects RX1 yX1_signEnd yX1_signEnd, Cond.initialized RX1, Cond.code yX1_signEnd cX1_signEnd 5 (some .int), Cond.methodLink RX1 104 yJ0_length_8abf5, Cond.instanceMethod yJ0_length_8abf5, Cond.selects RJ0 yJ0_length_8abf5 yJ0_length_8abf5, Cond.initialized RJ0, Cond.code yJ0_length_8abf5 cJ0_length_8abf5 1 (some .int), Cond.fieldLink RJ0 9 "java/lang/String" "value" "[B", Cond.methodLink RJ0 335 yJ0_coder_7d493, Cond.instanceMethod yJ0_coder_7d493, Cond.selects RJ0 yJ0_coder_7d493 yJ0_coder_7d493, Cond.code yJ0_coder_7d493 cJ0_coder_7d493 1 (some .byte), Cond.fieldLink RJ0 38 "java/lang/String" "COMPACT_STRINGS" "Z", Cond.fieldLink RJ0 15 "java/lang/String" "coder" "B", Cond.methodLink RX1 96 yJ0_charAt_5068e, Cond.instanceMethod yJ0_charAt_5068e, Cond.selects RJ0 yJ0_charAt_5068e yJ0_charAt_5068e, Cond.code yJ0_charAt_5068e cJ0_charAt_5068e 2 (some .char), Cond.methodLink RJ0 492 yJ0_isLatin1_aae02, Cond.instanceMethod yJ0_isLatin1_aae02, Cond.selects RJ0 yJ0_isLatin1_aae02 yJ0_isLatin1_aae02]
def wsX1_endOf_r2 : List Cond := [Cond.code yJ0_isLatin1_aae02 cJ0_isLatin1_aae02 1 (some .boolean), Cond.methodLink RJ0 495 yJ1_charAt_3b067, Cond.static yJ1_charAt_3b067, Cond.initialized RJ1, Cond.code yJ1_charAt_3b067 cJ1_charAt_3b067 2 (some .char), Cond.methodLink RJ1 9 yJ0_checkIndex_df160, Cond.static yJ0_checkIndex_df160, Cond.code yJ0_checkIndex_df160 cJ0_checkIndex_df160 2 none, Cond.fieldLink RJ0 1053 "jdk/internal/util/Preconditions" "SIOOBE_FORMATTER" "Ljava/util/function/BiFunction;", Cond.methodLink RJ0 1059 yJ3_checkIndex_8e157, Cond.static yJ3_checkIndex_8e157, Cond.initialized RJ3, Cond.code yJ3_checkIndex_8e157 cJ3_checkIndex_8e157 3 (some .int), Cond.methodLink RJ0 498 yJ2_charAt_3b067, Cond.static yJ2_charAt_3b067, Cond.initialized RJ2, Cond.code yJ2_charAt_3b067 cJ2_charAt_3b067 2 (some .char), Cond.methodLink RJ2 67 yJ2_checkIndex_2214a, Cond.static yJ2_checkIndex_2214a, Cond.code yJ2_checkIndex_2214a cJ2_checkIndex_2214a 2 none, Cond.methodLink RJ2 48 yJ2_length_9d52b, Cond.static yJ2_length_9d52b, Cond.code yJ2_length_9d52b cJ2_length_9d52b 1 (some .int), Cond.methodLink RJ2 414 yJ0_checkIndex_df160]
def wsX1_endOf_r3 : List Cond := [Cond.methodLink RJ2 71 yJ2_getChar_3b067, Cond.static yJ2_getChar_3b067, Cond.code yJ2_getChar_3b067 cJ2_getChar_3b067 2 (some .char), Cond.fieldLink RJ2 44 "java/lang/StringUTF16" "$assertionsDisabled" "Z", Cond.fieldLink RJ2 59 "java/lang/StringUTF16" "HI_BYTE_SHIFT" "I", Cond.fieldLink RJ2 63 "java/lang/StringUTF16" "LO_BYTE_SHIFT" "I", Cond.methodLink RX1 108 yX1_isAt, Cond.instanceMethod yX1_isAt, Cond.selects RX1 yX1_isAt yX1_isAt, Cond.code yX1_isAt cX1_isAt 6 (some .boolean), Cond.methodLink RX1 51 yX1_look, Cond.instanceMethod yX1_look, Cond.selects RX1 yX1_look yX1_look, Cond.code yX1_look cX1_look 2 (some .int), Cond.fieldLink RX1 41 "TokenRowsModel" "size" "I", Cond.fieldLink RX1 13 "TokenRowsModel" "text" "[B", Cond.methodLink RX1 77 yX1_stringEnd, Cond.instanceMethod yX1_stringEnd, Cond.selects RX1 yX1_stringEnd yX1_stringEnd, Cond.code yX1_stringEnd cX1_stringEnd 4 (some .int), Cond.methodLink RX1 80 yX1_behind, Cond.instanceMethod yX1_behind, Cond.selects RX1 yX1_behind yX1_behind, Cond.code yX1_behind cX1_behind 5 (some .int)]
def wsX1_endOf_r4 : List Cond := [Cond.methodLink RX1 71 yX1_isInName, Cond.static yX1_isInName, Cond.code yX1_isInName cX1_isInName 1 (some .boolean), Cond.methodLink RX1 44 yX1_isDigit, Cond.static yX1_isDigit, Cond.code yX1_isDigit cX1_isDigit 1 (some .boolean), Cond.methodLink RX1 83 yX1_sixteen, Cond.static yX1_sixteen, Cond.code yX1_sixteen cX1_sixteen 1 (some .int), Cond.methodLink RX1 86 yX1_isInt, Cond.instanceMethod yX1_isInt, Cond.selects RX1 yX1_isInt yX1_isInt, Cond.code yX1_isInt cX1_isInt 7 (some .boolean), Cond.constantLong RX1 90 (10), Cond.constantLong RX1 92 (48), Cond.constantLong RX1 94 (2147483647)]
def wsX1_endOf : List Cond := .code yX1_endOf cX1_endOf 5 (some .int) :: ((wsX1_endOf_r1 ++ (wsX1_endOf_r2 ++ (wsX1_endOf_r3 ++ wsX1_endOf_r4))) ++ wsX10)
def wsX1_cut_r1 : List Cond := [Cond.fieldLink RX1 30 "TokenRowsModel" "trayed" "I", Cond.fieldLink RX1 41 "TokenRowsModel" "size" "I", Cond.fieldLink RX1 13 "TokenRowsModel" "text" "[B", Cond.fieldLink RX1 9 "TokenRowsModel" "tray" "[B", Cond.fieldLink RX1 58 "TokenRowsModel" "tokens" "I", Cond.fieldLink RX1 26 "TokenRowsModel" "place" "I", Cond.fieldLink RX1 16 "TokenRowsModel" "kinds" "[I", Cond.fieldLink RX1 20 "TokenRowsModel" "froms" "[I", Cond.fieldLink RX1 23 "TokenRowsModel" "tos" "[I", Cond.methodLink RX1 61 yX1_blanks, Cond.instanceMethod yX1_blanks, Cond.selects RX1 yX1_blanks yX1_blanks, Cond.initialized RX1, Cond.code yX1_blanks cX1_blanks 7 (some .int), Cond.methodLink RX1 51 yX1_look, Cond.instanceMethod yX1_look, Cond.selects RX1 yX1_look yX1_look, Cond.code yX1_look cX1_look 2 (some .int), Cond.methodLink RX1 48 yX1_isBlank, Cond.static yX1_isBlank, Cond.code yX1_isBlank cX1_isBlank 1 (some .boolean), Cond.methodLink RX1 55 yX1_isAllowed, Cond.static yX1_isAllowed, Cond.code yX1_isAllowed cX1_isAllowed 1 (some .boolean)]
def wsX1_cut_r2 : List Cond := [Cond.methodLink RX1 64 yX1_kindAt, Cond.instanceMethod yX1_kindAt, Cond.selects RX1 yX1_kindAt yX1_kindAt, Cond.code yX1_kindAt cX1_kindAt 3 (some .int), Cond.methodLink RX1 44 yX1_isDigit, Cond.static yX1_isDigit, Cond.code yX1_isDigit cX1_isDigit 1 (some .boolean), Cond.methodLink RX1 71 yX1_isInName, Cond.static yX1_isInName, Cond.code yX1_isInName cX1_isInName 1 (some .boolean), Cond.methodLink RX1 74 yX1_signEnd, Cond.instanceMethod yX1_signEnd, Cond.selects RX1 yX1_signEnd yX1_signEnd, Cond.code yX1_signEnd cX1_signEnd 5 (some .int), Cond.methodLink RX1 104 yJ0_length_8abf5, Cond.instanceMethod yJ0_length_8abf5, Cond.selects RJ0 yJ0_length_8abf5 yJ0_length_8abf5, Cond.initialized RJ0, Cond.code yJ0_length_8abf5 cJ0_length_8abf5 1 (some .int), Cond.fieldLink RJ0 9 "java/lang/String" "value" "[B", Cond.methodLink RJ0 335 yJ0_coder_7d493, Cond.instanceMethod yJ0_coder_7d493, Cond.selects RJ0 yJ0_coder_7d493 yJ0_coder_7d493, Cond.code yJ0_coder_7d493 cJ0_coder_7d493 1 (some .byte)]
def wsX1_cut_r3 : List Cond := [Cond.fieldLink RJ0 38 "java/lang/String" "COMPACT_STRINGS" "Z", Cond.fieldLink RJ0 15 "java/lang/String" "coder" "B", Cond.methodLink RX1 96 yJ0_charAt_5068e, Cond.instanceMethod yJ0_charAt_5068e, Cond.selects RJ0 yJ0_charAt_5068e yJ0_charAt_5068e, Cond.code yJ0_charAt_5068e cJ0_charAt_5068e 2 (some .char), Cond.methodLink RJ0 492 yJ0_isLatin1_aae02, Cond.instanceMethod yJ0_isLatin1_aae02, Cond.selects RJ0 yJ0_isLatin1_aae02 yJ0_isLatin1_aae02, Cond.code yJ0_isLatin1_aae02 cJ0_isLatin1_aae02 1 (some .boolean), Cond.methodLink RJ0 495 yJ1_charAt_3b067, Cond.static yJ1_charAt_3b067, Cond.initialized RJ1, Cond.code yJ1_charAt_3b067 cJ1_charAt_3b067 2 (some .char), Cond.methodLink RJ1 9 yJ0_checkIndex_df160, Cond.static yJ0_checkIndex_df160, Cond.code yJ0_checkIndex_df160 cJ0_checkIndex_df160 2 none, Cond.fieldLink RJ0 1053 "jdk/internal/util/Preconditions" "SIOOBE_FORMATTER" "Ljava/util/function/BiFunction;", Cond.methodLink RJ0 1059 yJ3_checkIndex_8e157, Cond.static yJ3_checkIndex_8e157, Cond.initialized RJ3, Cond.code yJ3_checkIndex_8e157 cJ3_checkIndex_8e157 3 (some .int), Cond.methodLink RJ0 498 yJ2_charAt_3b067, Cond.static yJ2_charAt_3b067]
def wsX1_cut_r4 : List Cond := [Cond.initialized RJ2, Cond.code yJ2_charAt_3b067 cJ2_charAt_3b067 2 (some .char), Cond.methodLink RJ2 67 yJ2_checkIndex_2214a, Cond.static yJ2_checkIndex_2214a, Cond.code yJ2_checkIndex_2214a cJ2_checkIndex_2214a 2 none, Cond.methodLink RJ2 48 yJ2_length_9d52b, Cond.static yJ2_length_9d52b, Cond.code yJ2_length_9d52b cJ2_length_9d52b 1 (some .int), Cond.methodLink RJ2 414 yJ0_checkIndex_df160, Cond.methodLink RJ2 71 yJ2_getChar_3b067, Cond.static yJ2_getChar_3b067, Cond.code yJ2_getChar_3b067 cJ2_getChar_3b067 2 (some .char), Cond.fieldLink RJ2 44 "java/lang/StringUTF16" "$assertionsDisabled" "Z", Cond.fieldLink RJ2 59 "java/lang/StringUTF16" "HI_BYTE_SHIFT" "I", Cond.fieldLink RJ2 63 "java/lang/StringUTF16" "LO_BYTE_SHIFT" "I", Cond.methodLink RX1 108 yX1_isAt, Cond.instanceMethod yX1_isAt, Cond.selects RX1 yX1_isAt yX1_isAt, Cond.code yX1_isAt cX1_isAt 6 (some .boolean), Cond.methodLink RX1 67 yX1_endOf, Cond.instanceMethod yX1_endOf, Cond.selects RX1 yX1_endOf yX1_endOf, Cond.code yX1_endOf cX1_endOf 5 (some .int), Cond.methodLink RX1 77 yX1_stringEnd]
def wsX1_cut_r5 : List Cond := [Cond.instanceMethod yX1_stringEnd, Cond.selects RX1 yX1_stringEnd yX1_stringEnd, Cond.code yX1_stringEnd cX1_stringEnd 4 (some .int), Cond.methodLink RX1 80 yX1_behind, Cond.instanceMethod yX1_behind, Cond.selects RX1 yX1_behind yX1_behind, Cond.code yX1_behind cX1_behind 5 (some .int), Cond.methodLink RX1 83 yX1_sixteen, Cond.static yX1_sixteen, Cond.code yX1_sixteen cX1_sixteen 1 (some .int), Cond.methodLink RX1 86 yX1_isInt, Cond.instanceMethod yX1_isInt, Cond.selects RX1 yX1_isInt yX1_isInt, Cond.code yX1_isInt cX1_isInt 7 (some .boolean), Cond.constantLong RX1 90 (10), Cond.constantLong RX1 92 (48), Cond.constantLong RX1 94 (2147483647)]
def wsX1_cut : List Cond := .code yX1_cut cX1_cut 4 (some .int) :: ((wsX1_cut_r1 ++ (wsX1_cut_r2 ++ (wsX1_cut_r3 ++ (wsX1_cut_r4 ++ wsX1_cut_r5)))) ++ wsX10)
def wsX1_isToken : List Cond := .code yX1_isToken cX1_isToken 2 (some .boolean) :: ([.fieldLink RX1 58 "TokenRowsModel" "tokens" "I"] ++ wsX10)
def wsX1_among_r1 : List Cond := [Cond.fieldLink RX1 23 "TokenRowsModel" "tos" "[I", Cond.fieldLink RX1 20 "TokenRowsModel" "froms" "[I", Cond.methodLink RX1 104 yJ0_length_8abf5, Cond.instanceMethod yJ0_length_8abf5, Cond.selects RJ0 yJ0_length_8abf5 yJ0_length_8abf5, Cond.initialized RJ0, Cond.code yJ0_length_8abf5 cJ0_length_8abf5 1 (some .int), Cond.fieldLink RJ0 9 "java/lang/String" "value" "[B", Cond.methodLink RJ0 335 yJ0_coder_7d493, Cond.instanceMethod yJ0_coder_7d493, Cond.selects RJ0 yJ0_coder_7d493 yJ0_coder_7d493, Cond.code yJ0_coder_7d493 cJ0_coder_7d493 1 (some .byte), Cond.fieldLink RJ0 38 "java/lang/String" "COMPACT_STRINGS" "Z", Cond.fieldLink RJ0 15 "java/lang/String" "coder" "B", Cond.methodLink RX1 96 yJ0_charAt_5068e, Cond.instanceMethod yJ0_charAt_5068e, Cond.selects RJ0 yJ0_charAt_5068e yJ0_charAt_5068e, Cond.code yJ0_charAt_5068e cJ0_charAt_5068e 2 (some .char), Cond.methodLink RJ0 492 yJ0_isLatin1_aae02, Cond.instanceMethod yJ0_isLatin1_aae02, Cond.selects RJ0 yJ0_isLatin1_aae02 yJ0_isLatin1_aae02, Cond.code yJ0_isLatin1_aae02 cJ0_isLatin1_aae02 1 (some .boolean), Cond.methodLink RJ0 495 yJ1_charAt_3b067, Cond.static yJ1_charAt_3b067]
def wsX1_among_r2 : List Cond := [Cond.initialized RJ1, Cond.code yJ1_charAt_3b067 cJ1_charAt_3b067 2 (some .char), Cond.methodLink RJ1 9 yJ0_checkIndex_df160, Cond.static yJ0_checkIndex_df160, Cond.code yJ0_checkIndex_df160 cJ0_checkIndex_df160 2 none, Cond.fieldLink RJ0 1053 "jdk/internal/util/Preconditions" "SIOOBE_FORMATTER" "Ljava/util/function/BiFunction;", Cond.methodLink RJ0 1059 yJ3_checkIndex_8e157, Cond.static yJ3_checkIndex_8e157, Cond.initialized RJ3, Cond.code yJ3_checkIndex_8e157 cJ3_checkIndex_8e157 3 (some .int), Cond.methodLink RJ0 498 yJ2_charAt_3b067, Cond.static yJ2_charAt_3b067, Cond.initialized RJ2, Cond.code yJ2_charAt_3b067 cJ2_charAt_3b067 2 (some .char), Cond.methodLink RJ2 67 yJ2_checkIndex_2214a, Cond.static yJ2_checkIndex_2214a, Cond.code yJ2_checkIndex_2214a cJ2_checkIndex_2214a 2 none, Cond.methodLink RJ2 48 yJ2_length_9d52b, Cond.static yJ2_length_9d52b, Cond.code yJ2_length_9d52b cJ2_length_9d52b 1 (some .int), Cond.methodLink RJ2 414 yJ0_checkIndex_df160, Cond.methodLink RJ2 71 yJ2_getChar_3b067, Cond.static yJ2_getChar_3b067, Cond.code yJ2_getChar_3b067 cJ2_getChar_3b067 2 (some .char)]
def wsX1_among_r3 : List Cond := [Cond.fieldLink RJ2 44 "java/lang/StringUTF16" "$assertionsDisabled" "Z", Cond.fieldLink RJ2 59 "java/lang/StringUTF16" "HI_BYTE_SHIFT" "I", Cond.fieldLink RJ2 63 "java/lang/StringUTF16" "LO_BYTE_SHIFT" "I", Cond.methodLink RX1 108 yX1_isAt, Cond.instanceMethod yX1_isAt, Cond.selects RX1 yX1_isAt yX1_isAt, Cond.initialized RX1, Cond.code yX1_isAt cX1_isAt 6 (some .boolean), Cond.methodLink RX1 51 yX1_look, Cond.instanceMethod yX1_look, Cond.selects RX1 yX1_look yX1_look, Cond.code yX1_look cX1_look 2 (some .int), Cond.fieldLink RX1 41 "TokenRowsModel" "size" "I", Cond.fieldLink RX1 13 "TokenRowsModel" "text" "[B"]
def wsX1_among : List Cond := .code yX1_among cX1_among 6 (some .int) :: ((wsX1_among_r1 ++ (wsX1_among_r2 ++ wsX1_among_r3)) ++ wsX10)
def wsX1_place : List Cond := .code yX1_place cX1_place 1 (some .int) :: ([.fieldLink RX1 26 "TokenRowsModel" "place" "I"] ++ wsX10)
def wsX1_tokens : List Cond := .code yX1_tokens cX1_tokens 1 (some .int) :: ([.fieldLink RX1 58 "TokenRowsModel" "tokens" "I"] ++ wsX10)
def wsX1_kind_r1 : List Cond := [Cond.fieldLink RX1 16 "TokenRowsModel" "kinds" "[I", Cond.methodLink RX1 112 yX1_isToken, Cond.instanceMethod yX1_isToken, Cond.selects RX1 yX1_isToken yX1_isToken, Cond.initialized RX1, Cond.code yX1_isToken cX1_isToken 2 (some .boolean), Cond.fieldLink RX1 58 "TokenRowsModel" "tokens" "I", Cond.methodLink RX1 117 yX1_among, Cond.instanceMethod yX1_among, Cond.selects RX1 yX1_among yX1_among, Cond.code yX1_among cX1_among 6 (some .int), Cond.fieldLink RX1 23 "TokenRowsModel" "tos" "[I", Cond.fieldLink RX1 20 "TokenRowsModel" "froms" "[I", Cond.methodLink RX1 104 yJ0_length_8abf5, Cond.instanceMethod yJ0_length_8abf5, Cond.selects RJ0 yJ0_length_8abf5 yJ0_length_8abf5, Cond.initialized RJ0, Cond.code yJ0_length_8abf5 cJ0_length_8abf5 1 (some .int), Cond.fieldLink RJ0 9 "java/lang/String" "value" "[B", Cond.methodLink RJ0 335 yJ0_coder_7d493, Cond.instanceMethod yJ0_coder_7d493, Cond.selects RJ0 yJ0_coder_7d493 yJ0_coder_7d493, Cond.code yJ0_coder_7d493 cJ0_coder_7d493 1 (some .byte), Cond.fieldLink RJ0 38 "java/lang/String" "COMPACT_STRINGS" "Z"]
def wsX1_kind_r2 : List Cond := [Cond.fieldLink RJ0 15 "java/lang/String" "coder" "B", Cond.methodLink RX1 96 yJ0_charAt_5068e, Cond.instanceMethod yJ0_charAt_5068e, Cond.selects RJ0 yJ0_charAt_5068e yJ0_charAt_5068e, Cond.code yJ0_charAt_5068e cJ0_charAt_5068e 2 (some .char), Cond.methodLink RJ0 492 yJ0_isLatin1_aae02, Cond.instanceMethod yJ0_isLatin1_aae02, Cond.selects RJ0 yJ0_isLatin1_aae02 yJ0_isLatin1_aae02, Cond.code yJ0_isLatin1_aae02 cJ0_isLatin1_aae02 1 (some .boolean), Cond.methodLink RJ0 495 yJ1_charAt_3b067, Cond.static yJ1_charAt_3b067, Cond.initialized RJ1, Cond.code yJ1_charAt_3b067 cJ1_charAt_3b067 2 (some .char), Cond.methodLink RJ1 9 yJ0_checkIndex_df160, Cond.static yJ0_checkIndex_df160, Cond.code yJ0_checkIndex_df160 cJ0_checkIndex_df160 2 none, Cond.fieldLink RJ0 1053 "jdk/internal/util/Preconditions" "SIOOBE_FORMATTER" "Ljava/util/function/BiFunction;", Cond.methodLink RJ0 1059 yJ3_checkIndex_8e157, Cond.static yJ3_checkIndex_8e157, Cond.initialized RJ3, Cond.code yJ3_checkIndex_8e157 cJ3_checkIndex_8e157 3 (some .int), Cond.methodLink RJ0 498 yJ2_charAt_3b067, Cond.static yJ2_charAt_3b067, Cond.initialized RJ2]
def wsX1_kind_r3 : List Cond := [Cond.code yJ2_charAt_3b067 cJ2_charAt_3b067 2 (some .char), Cond.methodLink RJ2 67 yJ2_checkIndex_2214a, Cond.static yJ2_checkIndex_2214a, Cond.code yJ2_checkIndex_2214a cJ2_checkIndex_2214a 2 none, Cond.methodLink RJ2 48 yJ2_length_9d52b, Cond.static yJ2_length_9d52b, Cond.code yJ2_length_9d52b cJ2_length_9d52b 1 (some .int), Cond.methodLink RJ2 414 yJ0_checkIndex_df160, Cond.methodLink RJ2 71 yJ2_getChar_3b067, Cond.static yJ2_getChar_3b067, Cond.code yJ2_getChar_3b067 cJ2_getChar_3b067 2 (some .char), Cond.fieldLink RJ2 44 "java/lang/StringUTF16" "$assertionsDisabled" "Z", Cond.fieldLink RJ2 59 "java/lang/StringUTF16" "HI_BYTE_SHIFT" "I", Cond.fieldLink RJ2 63 "java/lang/StringUTF16" "LO_BYTE_SHIFT" "I", Cond.methodLink RX1 108 yX1_isAt, Cond.instanceMethod yX1_isAt, Cond.selects RX1 yX1_isAt yX1_isAt, Cond.code yX1_isAt cX1_isAt 6 (some .boolean), Cond.methodLink RX1 51 yX1_look, Cond.instanceMethod yX1_look, Cond.selects RX1 yX1_look yX1_look, Cond.code yX1_look cX1_look 2 (some .int), Cond.fieldLink RX1 41 "TokenRowsModel" "size" "I", Cond.fieldLink RX1 13 "TokenRowsModel" "text" "[B"]
def wsX1_kind : List Cond := .code yX1_kind cX1_kind 2 (some .int) :: ((wsX1_kind_r1 ++ (wsX1_kind_r2 ++ wsX1_kind_r3)) ++ wsX10)
def wsX1_which_r1 : List Cond := [Cond.methodLink RX1 121 yX1_kind, Cond.instanceMethod yX1_kind, Cond.selects RX1 yX1_kind yX1_kind, Cond.initialized RX1, Cond.code yX1_kind cX1_kind 2 (some .int), Cond.fieldLink RX1 16 "TokenRowsModel" "kinds" "[I", Cond.methodLink RX1 112 yX1_isToken, Cond.instanceMethod yX1_isToken, Cond.selects RX1 yX1_isToken yX1_isToken, Cond.code yX1_isToken cX1_isToken 2 (some .boolean), Cond.fieldLink RX1 58 "TokenRowsModel" "tokens" "I", Cond.methodLink RX1 117 yX1_among, Cond.instanceMethod yX1_among, Cond.selects RX1 yX1_among yX1_among, Cond.code yX1_among cX1_among 6 (some .int), Cond.fieldLink RX1 23 "TokenRowsModel" "tos" "[I", Cond.fieldLink RX1 20 "TokenRowsModel" "froms" "[I", Cond.methodLink RX1 104 yJ0_length_8abf5, Cond.instanceMethod yJ0_length_8abf5, Cond.selects RJ0 yJ0_length_8abf5 yJ0_length_8abf5, Cond.initialized RJ0, Cond.code yJ0_length_8abf5 cJ0_length_8abf5 1 (some .int), Cond.fieldLink RJ0 9 "java/lang/String" "value" "[B", Cond.methodLink RJ0 335 yJ0_coder_7d493]
def wsX1_which_r2 : List Cond := [Cond.instanceMethod yJ0_coder_7d493, Cond.selects RJ0 yJ0_coder_7d493 yJ0_coder_7d493, Cond.code yJ0_coder_7d493 cJ0_coder_7d493 1 (some .byte), Cond.fieldLink RJ0 38 "java/lang/String" "COMPACT_STRINGS" "Z", Cond.fieldLink RJ0 15 "java/lang/String" "coder" "B", Cond.methodLink RX1 96 yJ0_charAt_5068e, Cond.instanceMethod yJ0_charAt_5068e, Cond.selects RJ0 yJ0_charAt_5068e yJ0_charAt_5068e, Cond.code yJ0_charAt_5068e cJ0_charAt_5068e 2 (some .char), Cond.methodLink RJ0 492 yJ0_isLatin1_aae02, Cond.instanceMethod yJ0_isLatin1_aae02, Cond.selects RJ0 yJ0_isLatin1_aae02 yJ0_isLatin1_aae02, Cond.code yJ0_isLatin1_aae02 cJ0_isLatin1_aae02 1 (some .boolean), Cond.methodLink RJ0 495 yJ1_charAt_3b067, Cond.static yJ1_charAt_3b067, Cond.initialized RJ1, Cond.code yJ1_charAt_3b067 cJ1_charAt_3b067 2 (some .char), Cond.methodLink RJ1 9 yJ0_checkIndex_df160, Cond.static yJ0_checkIndex_df160, Cond.code yJ0_checkIndex_df160 cJ0_checkIndex_df160 2 none, Cond.fieldLink RJ0 1053 "jdk/internal/util/Preconditions" "SIOOBE_FORMATTER" "Ljava/util/function/BiFunction;", Cond.methodLink RJ0 1059 yJ3_checkIndex_8e157, Cond.static yJ3_checkIndex_8e157, Cond.initialized RJ3]
def wsX1_which_r3 : List Cond := [Cond.code yJ3_checkIndex_8e157 cJ3_checkIndex_8e157 3 (some .int), Cond.methodLink RJ0 498 yJ2_charAt_3b067, Cond.static yJ2_charAt_3b067, Cond.initialized RJ2, Cond.code yJ2_charAt_3b067 cJ2_charAt_3b067 2 (some .char), Cond.methodLink RJ2 67 yJ2_checkIndex_2214a, Cond.static yJ2_checkIndex_2214a, Cond.code yJ2_checkIndex_2214a cJ2_checkIndex_2214a 2 none, Cond.methodLink RJ2 48 yJ2_length_9d52b, Cond.static yJ2_length_9d52b, Cond.code yJ2_length_9d52b cJ2_length_9d52b 1 (some .int), Cond.methodLink RJ2 414 yJ0_checkIndex_df160, Cond.methodLink RJ2 71 yJ2_getChar_3b067, Cond.static yJ2_getChar_3b067, Cond.code yJ2_getChar_3b067 cJ2_getChar_3b067 2 (some .char), Cond.fieldLink RJ2 44 "java/lang/StringUTF16" "$assertionsDisabled" "Z", Cond.fieldLink RJ2 59 "java/lang/StringUTF16" "HI_BYTE_SHIFT" "I", Cond.fieldLink RJ2 63 "java/lang/StringUTF16" "LO_BYTE_SHIFT" "I", Cond.methodLink RX1 108 yX1_isAt, Cond.instanceMethod yX1_isAt, Cond.selects RX1 yX1_isAt yX1_isAt, Cond.code yX1_isAt cX1_isAt 6 (some .boolean), Cond.methodLink RX1 51 yX1_look, Cond.instanceMethod yX1_look]
def wsX1_which_r4 : List Cond := [Cond.selects RX1 yX1_look yX1_look, Cond.code yX1_look cX1_look 2 (some .int), Cond.fieldLink RX1 41 "TokenRowsModel" "size" "I", Cond.fieldLink RX1 13 "TokenRowsModel" "text" "[B"]
def wsX1_which : List Cond := .code yX1_which cX1_which 3 (some .int) :: ((wsX1_which_r1 ++ (wsX1_which_r2 ++ (wsX1_which_r3 ++ wsX1_which_r4))) ++ wsX10)
def wsX1_from : List Cond := .code yX1_from cX1_from 2 (some .int) :: ([.fieldLink RX1 20 "TokenRowsModel" "froms" "[I", .methodLink RX1 112 yX1_isToken, .instanceMethod yX1_isToken, .selects RX1 yX1_isToken yX1_isToken, .initialized RX1, .code yX1_isToken cX1_isToken 2 (some .boolean), .fieldLink RX1 58 "TokenRowsModel" "tokens" "I"] ++ wsX10)
def wsX1_length : List Cond := .code yX1_length cX1_length 2 (some .int) :: ([.fieldLink RX1 23 "TokenRowsModel" "tos" "[I", .fieldLink RX1 20 "TokenRowsModel" "froms" "[I", .methodLink RX1 112 yX1_isToken, .instanceMethod yX1_isToken, .selects RX1 yX1_isToken yX1_isToken, .initialized RX1, .code yX1_isToken cX1_isToken 2 (some .boolean), .fieldLink RX1 58 "TokenRowsModel" "tokens" "I"] ++ wsX10)
def wsX1_line : List Cond := .code yX1_line cX1_line 4 (some .int) :: ([.fieldLink RX1 20 "TokenRowsModel" "froms" "[I", .fieldLink RX1 13 "TokenRowsModel" "text" "[B", .methodLink RX1 112 yX1_isToken, .instanceMethod yX1_isToken, .selects RX1 yX1_isToken yX1_isToken, .initialized RX1, .code yX1_isToken cX1_isToken 2 (some .boolean), .fieldLink RX1 58 "TokenRowsModel" "tokens" "I"] ++ wsX10)
def wsX1_codeAt : List Cond := .code yX1_codeAt cX1_codeAt 3 (some .int) :: ([.methodLink RX1 51 yX1_look, .instanceMethod yX1_look, .selects RX1 yX1_look yX1_look, .initialized RX1, .code yX1_look cX1_look 2 (some .int), .fieldLink RX1 41 "TokenRowsModel" "size" "I", .fieldLink RX1 13 "TokenRowsModel" "text" "[B"] ++ wsX10)
def wsX1_worth_r1 : List Cond := [Cond.fieldLink RX1 20 "TokenRowsModel" "froms" "[I", Cond.fieldLink RX1 23 "TokenRowsModel" "tos" "[I", Cond.methodLink RX1 121 yX1_kind, Cond.instanceMethod yX1_kind, Cond.selects RX1 yX1_kind yX1_kind, Cond.initialized RX1, Cond.code yX1_kind cX1_kind 2 (some .int), Cond.fieldLink RX1 16 "TokenRowsModel" "kinds" "[I", Cond.methodLink RX1 112 yX1_isToken, Cond.instanceMethod yX1_isToken, Cond.selects RX1 yX1_isToken yX1_isToken, Cond.code yX1_isToken cX1_isToken 2 (some .boolean), Cond.fieldLink RX1 58 "TokenRowsModel" "tokens" "I", Cond.methodLink RX1 117 yX1_among, Cond.instanceMethod yX1_among, Cond.selects RX1 yX1_among yX1_among, Cond.code yX1_among cX1_among 6 (some .int), Cond.methodLink RX1 104 yJ0_length_8abf5, Cond.instanceMethod yJ0_length_8abf5, Cond.selects RJ0 yJ0_length_8abf5 yJ0_length_8abf5, Cond.initialized RJ0, Cond.code yJ0_length_8abf5 cJ0_length_8abf5 1 (some .int), Cond.fieldLink RJ0 9 "java/lang/String" "value" "[B", Cond.methodLink RJ0 335 yJ0_coder_7d493]
def wsX1_worth_r2 : List Cond := [Cond.instanceMethod yJ0_coder_7d493, Cond.selects RJ0 yJ0_coder_7d493 yJ0_coder_7d493, Cond.code yJ0_coder_7d493 cJ0_coder_7d493 1 (some .byte), Cond.fieldLink RJ0 38 "java/lang/String" "COMPACT_STRINGS" "Z", Cond.fieldLink RJ0 15 "java/lang/String" "coder" "B", Cond.methodLink RX1 96 yJ0_charAt_5068e, Cond.instanceMethod yJ0_charAt_5068e, Cond.selects RJ0 yJ0_charAt_5068e yJ0_charAt_5068e, Cond.code yJ0_charAt_5068e cJ0_charAt_5068e 2 (some .char), Cond.methodLink RJ0 492 yJ0_isLatin1_aae02, Cond.instanceMethod yJ0_isLatin1_aae02, Cond.selects RJ0 yJ0_isLatin1_aae02 yJ0_isLatin1_aae02, Cond.code yJ0_isLatin1_aae02 cJ0_isLatin1_aae02 1 (some .boolean), Cond.methodLink RJ0 495 yJ1_charAt_3b067, Cond.static yJ1_charAt_3b067, Cond.initialized RJ1, Cond.code yJ1_charAt_3b067 cJ1_charAt_3b067 2 (some .char), Cond.methodLink RJ1 9 yJ0_checkIndex_df160, Cond.static yJ0_checkIndex_df160, Cond.code yJ0_checkIndex_df160 cJ0_checkIndex_df160 2 none, Cond.fieldLink RJ0 1053 "jdk/internal/util/Preconditions" "SIOOBE_FORMATTER" "Ljava/util/function/BiFunction;", Cond.methodLink RJ0 1059 yJ3_checkIndex_8e157, Cond.static yJ3_checkIndex_8e157, Cond.initialized RJ3]
def wsX1_worth_r3 : List Cond := [Cond.code yJ3_checkIndex_8e157 cJ3_checkIndex_8e157 3 (some .int), Cond.methodLink RJ0 498 yJ2_charAt_3b067, Cond.static yJ2_charAt_3b067, Cond.initialized RJ2, Cond.code yJ2_charAt_3b067 cJ2_charAt_3b067 2 (some .char), Cond.methodLink RJ2 67 yJ2_checkIndex_2214a, Cond.static yJ2_checkIndex_2214a, Cond.code yJ2_checkIndex_2214a cJ2_checkIndex_2214a 2 none, Cond.methodLink RJ2 48 yJ2_length_9d52b, Cond.static yJ2_length_9d52b, Cond.code yJ2_length_9d52b cJ2_length_9d52b 1 (some .int), Cond.methodLink RJ2 414 yJ0_checkIndex_df160, Cond.methodLink RJ2 71 yJ2_getChar_3b067, Cond.static yJ2_getChar_3b067, Cond.code yJ2_getChar_3b067 cJ2_getChar_3b067 2 (some .char), Cond.fieldLink RJ2 44 "java/lang/StringUTF16" "$assertionsDisabled" "Z", Cond.fieldLink RJ2 59 "java/lang/StringUTF16" "HI_BYTE_SHIFT" "I", Cond.fieldLink RJ2 63 "java/lang/StringUTF16" "LO_BYTE_SHIFT" "I", Cond.methodLink RX1 108 yX1_isAt, Cond.instanceMethod yX1_isAt, Cond.selects RX1 yX1_isAt yX1_isAt, Cond.code yX1_isAt cX1_isAt 6 (some .boolean), Cond.methodLink RX1 51 yX1_look, Cond.instanceMethod yX1_look]
def wsX1_worth_r4 : List Cond := [Cond.selects RX1 yX1_look yX1_look, Cond.code yX1_look cX1_look 2 (some .int), Cond.fieldLink RX1 41 "TokenRowsModel" "size" "I", Cond.fieldLink RX1 13 "TokenRowsModel" "text" "[B", Cond.methodLink RX1 124 yX1_codeAt, Cond.instanceMethod yX1_codeAt, Cond.selects RX1 yX1_codeAt yX1_codeAt, Cond.code yX1_codeAt cX1_codeAt 3 (some .int), Cond.methodLink RX1 83 yX1_sixteen, Cond.static yX1_sixteen, Cond.code yX1_sixteen cX1_sixteen 1 (some .int), Cond.methodLink RX1 44 yX1_isDigit, Cond.static yX1_isDigit, Cond.code yX1_isDigit cX1_isDigit 1 (some .boolean)]
def wsX1_worth : List Cond := .code yX1_worth cX1_worth 6 (some .int) :: ((wsX1_worth_r1 ++ (wsX1_worth_r2 ++ (wsX1_worth_r3 ++ wsX1_worth_r4))) ++ wsX10)
def wsX1_codes_r1 : List Cond := [Cond.fieldLink RX1 20 "TokenRowsModel" "froms" "[I", Cond.fieldLink RX1 23 "TokenRowsModel" "tos" "[I", Cond.methodLink RX1 121 yX1_kind, Cond.instanceMethod yX1_kind, Cond.selects RX1 yX1_kind yX1_kind, Cond.initialized RX1, Cond.code yX1_kind cX1_kind 2 (some .int), Cond.fieldLink RX1 16 "TokenRowsModel" "kinds" "[I", Cond.methodLink RX1 112 yX1_isToken, Cond.instanceMethod yX1_isToken, Cond.selects RX1 yX1_isToken yX1_isToken, Cond.code yX1_isToken cX1_isToken 2 (some .boolean), Cond.fieldLink RX1 58 "TokenRowsModel" "tokens" "I", Cond.methodLink RX1 117 yX1_among, Cond.instanceMethod yX1_among, Cond.selects RX1 yX1_among yX1_among, Cond.code yX1_among cX1_among 6 (some .int), Cond.methodLink RX1 104 yJ0_length_8abf5, Cond.instanceMethod yJ0_length_8abf5, Cond.selects RJ0 yJ0_length_8abf5 yJ0_length_8abf5, Cond.initialized RJ0, Cond.code yJ0_length_8abf5 cJ0_length_8abf5 1 (some .int), Cond.fieldLink RJ0 9 "java/lang/String" "value" "[B", Cond.methodLink RJ0 335 yJ0_coder_7d493]
def wsX1_codes_r2 : List Cond := [Cond.instanceMethod yJ0_coder_7d493, Cond.selects RJ0 yJ0_coder_7d493 yJ0_coder_7d493, Cond.code yJ0_coder_7d493 cJ0_coder_7d493 1 (some .byte), Cond.fieldLink RJ0 38 "java/lang/String" "COMPACT_STRINGS" "Z", Cond.fieldLink RJ0 15 "java/lang/String" "coder" "B", Cond.methodLink RX1 96 yJ0_charAt_5068e, Cond.instanceMethod yJ0_charAt_5068e, Cond.selects RJ0 yJ0_charAt_5068e yJ0_charAt_5068e, Cond.code yJ0_charAt_5068e cJ0_charAt_5068e 2 (some .char), Cond.methodLink RJ0 492 yJ0_isLatin1_aae02, Cond.instanceMethod yJ0_isLatin1_aae02, Cond.selects RJ0 yJ0_isLatin1_aae02 yJ0_isLatin1_aae02, Cond.code yJ0_isLatin1_aae02 cJ0_isLatin1_aae02 1 (some .boolean), Cond.methodLink RJ0 495 yJ1_charAt_3b067, Cond.static yJ1_charAt_3b067, Cond.initialized RJ1, Cond.code yJ1_charAt_3b067 cJ1_charAt_3b067 2 (some .char), Cond.methodLink RJ1 9 yJ0_checkIndex_df160, Cond.static yJ0_checkIndex_df160, Cond.code yJ0_checkIndex_df160 cJ0_checkIndex_df160 2 none, Cond.fieldLink RJ0 1053 "jdk/internal/util/Preconditions" "SIOOBE_FORMATTER" "Ljava/util/function/BiFunction;", Cond.methodLink RJ0 1059 yJ3_checkIndex_8e157, Cond.static yJ3_checkIndex_8e157, Cond.initialized RJ3]
def wsX1_codes_r3 : List Cond := [Cond.code yJ3_checkIndex_8e157 cJ3_checkIndex_8e157 3 (some .int), Cond.methodLink RJ0 498 yJ2_charAt_3b067, Cond.static yJ2_charAt_3b067, Cond.initialized RJ2, Cond.code yJ2_charAt_3b067 cJ2_charAt_3b067 2 (some .char), Cond.methodLink RJ2 67 yJ2_checkIndex_2214a, Cond.static yJ2_checkIndex_2214a, Cond.code yJ2_checkIndex_2214a cJ2_checkIndex_2214a 2 none, Cond.methodLink RJ2 48 yJ2_length_9d52b, Cond.static yJ2_length_9d52b, Cond.code yJ2_length_9d52b cJ2_length_9d52b 1 (some .int), Cond.methodLink RJ2 414 yJ0_checkIndex_df160, Cond.methodLink RJ2 71 yJ2_getChar_3b067, Cond.static yJ2_getChar_3b067, Cond.code yJ2_getChar_3b067 cJ2_getChar_3b067 2 (some .char), Cond.fieldLink RJ2 44 "java/lang/StringUTF16" "$assertionsDisabled" "Z", Cond.fieldLink RJ2 59 "java/lang/StringUTF16" "HI_BYTE_SHIFT" "I", Cond.fieldLink RJ2 63 "java/lang/StringUTF16" "LO_BYTE_SHIFT" "I", Cond.methodLink RX1 108 yX1_isAt, Cond.instanceMethod yX1_isAt, Cond.selects RX1 yX1_isAt yX1_isAt, Cond.code yX1_isAt cX1_isAt 6 (some .boolean), Cond.methodLink RX1 51 yX1_look, Cond.instanceMethod yX1_look]
def wsX1_codes_r4 : List Cond := [Cond.selects RX1 yX1_look yX1_look, Cond.code yX1_look cX1_look 2 (some .int), Cond.fieldLink RX1 41 "TokenRowsModel" "size" "I", Cond.fieldLink RX1 13 "TokenRowsModel" "text" "[B", Cond.methodLink RX1 80 yX1_behind, Cond.instanceMethod yX1_behind, Cond.selects RX1 yX1_behind yX1_behind, Cond.code yX1_behind cX1_behind 5 (some .int)]
def wsX1_codes : List Cond := .code yX1_codes cX1_codes 4 (some .int) :: ((wsX1_codes_r1 ++ (wsX1_codes_r2 ++ (wsX1_codes_r3 ++ wsX1_codes_r4))) ++ wsX10)
def wsX1_code_r1 : List Cond := [Cond.fieldLink RX1 20 "TokenRowsModel" "froms" "[I", Cond.methodLink RX1 127 yX1_codes, Cond.instanceMethod yX1_codes, Cond.selects RX1 yX1_codes yX1_codes, Cond.initialized RX1, Cond.code yX1_codes cX1_codes 4 (some .int), Cond.fieldLink RX1 23 "TokenRowsModel" "tos" "[I", Cond.methodLink RX1 121 yX1_kind, Cond.instanceMethod yX1_kind, Cond.selects RX1 yX1_kind yX1_kind, Cond.code yX1_kind cX1_kind 2 (some .int), Cond.fieldLink RX1 16 "TokenRowsModel" "kinds" "[I", Cond.methodLink RX1 112 yX1_isToken, Cond.instanceMethod yX1_isToken, Cond.selects RX1 yX1_isToken yX1_isToken, Cond.code yX1_isToken cX1_isToken 2 (some .boolean), Cond.fieldLink RX1 58 "TokenRowsModel" "tokens" "I", Cond.methodLink RX1 117 yX1_among, Cond.instanceMethod yX1_among, Cond.selects RX1 yX1_among yX1_among, Cond.code yX1_among cX1_among 6 (some .int), Cond.methodLink RX1 104 yJ0_length_8abf5, Cond.instanceMethod yJ0_length_8abf5, Cond.selects RJ0 yJ0_length_8abf5 yJ0_length_8abf5]
def wsX1_code_r2 : List Cond := [Cond.initialized RJ0, Cond.code yJ0_length_8abf5 cJ0_length_8abf5 1 (some .int), Cond.fieldLink RJ0 9 "java/lang/String" "value" "[B", Cond.methodLink RJ0 335 yJ0_coder_7d493, Cond.instanceMethod yJ0_coder_7d493, Cond.selects RJ0 yJ0_coder_7d493 yJ0_coder_7d493, Cond.code yJ0_coder_7d493 cJ0_coder_7d493 1 (some .byte), Cond.fieldLink RJ0 38 "java/lang/String" "COMPACT_STRINGS" "Z", Cond.fieldLink RJ0 15 "java/lang/String" "coder" "B", Cond.methodLink RX1 96 yJ0_charAt_5068e, Cond.instanceMethod yJ0_charAt_5068e, Cond.selects RJ0 yJ0_charAt_5068e yJ0_charAt_5068e, Cond.code yJ0_charAt_5068e cJ0_charAt_5068e 2 (some .char), Cond.methodLink RJ0 492 yJ0_isLatin1_aae02, Cond.instanceMethod yJ0_isLatin1_aae02, Cond.selects RJ0 yJ0_isLatin1_aae02 yJ0_isLatin1_aae02, Cond.code yJ0_isLatin1_aae02 cJ0_isLatin1_aae02 1 (some .boolean), Cond.methodLink RJ0 495 yJ1_charAt_3b067, Cond.static yJ1_charAt_3b067, Cond.initialized RJ1, Cond.code yJ1_charAt_3b067 cJ1_charAt_3b067 2 (some .char), Cond.methodLink RJ1 9 yJ0_checkIndex_df160, Cond.static yJ0_checkIndex_df160, Cond.code yJ0_checkIndex_df160 cJ0_checkIndex_df160 2 none]
def wsX1_code_r3 : List Cond := [Cond.fieldLink RJ0 1053 "jdk/internal/util/Preconditions" "SIOOBE_FORMATTER" "Ljava/util/function/BiFunction;", Cond.methodLink RJ0 1059 yJ3_checkIndex_8e157, Cond.static yJ3_checkIndex_8e157, Cond.initialized RJ3, Cond.code yJ3_checkIndex_8e157 cJ3_checkIndex_8e157 3 (some .int), Cond.methodLink RJ0 498 yJ2_charAt_3b067, Cond.static yJ2_charAt_3b067, Cond.initialized RJ2, Cond.code yJ2_charAt_3b067 cJ2_charAt_3b067 2 (some .char), Cond.methodLink RJ2 67 yJ2_checkIndex_2214a, Cond.static yJ2_checkIndex_2214a, Cond.code yJ2_checkIndex_2214a cJ2_checkIndex_2214a 2 none, Cond.methodLink RJ2 48 yJ2_length_9d52b, Cond.static yJ2_length_9d52b, Cond.code yJ2_length_9d52b cJ2_length_9d52b 1 (some .int), Cond.methodLink RJ2 414 yJ0_checkIndex_df160, Cond.methodLink RJ2 71 yJ2_getChar_3b067, Cond.static yJ2_getChar_3b067, Cond.code yJ2_getChar_3b067 cJ2_getChar_3b067 2 (some .char), Cond.fieldLink RJ2 44 "java/lang/StringUTF16" "$assertionsDisabled" "Z", Cond.fieldLink RJ2 59 "java/lang/StringUTF16" "HI_BYTE_SHIFT" "I", Cond.fieldLink RJ2 63 "java/lang/StringUTF16" "LO_BYTE_SHIFT" "I", Cond.methodLink RX1 108 yX1_isAt, Cond.instanceMethod yX1_isAt]
def wsX1_code_r4 : List Cond := [Cond.selects RX1 yX1_isAt yX1_isAt, Cond.code yX1_isAt cX1_isAt 6 (some .boolean), Cond.methodLink RX1 51 yX1_look, Cond.instanceMethod yX1_look, Cond.selects RX1 yX1_look yX1_look, Cond.code yX1_look cX1_look 2 (some .int), Cond.fieldLink RX1 41 "TokenRowsModel" "size" "I", Cond.fieldLink RX1 13 "TokenRowsModel" "text" "[B", Cond.methodLink RX1 80 yX1_behind, Cond.instanceMethod yX1_behind, Cond.selects RX1 yX1_behind yX1_behind, Cond.code yX1_behind cX1_behind 5 (some .int), Cond.methodLink RX1 124 yX1_codeAt, Cond.instanceMethod yX1_codeAt, Cond.selects RX1 yX1_codeAt yX1_codeAt, Cond.code yX1_codeAt cX1_codeAt 3 (some .int)]
def wsX1_code : List Cond := .code yX1_code cX1_code 5 (some .int) :: ((wsX1_code_r1 ++ (wsX1_code_r2 ++ (wsX1_code_r3 ++ wsX1_code_r4))) ++ wsX10)
def wsX1_same : List Cond := .code yX1_same cX1_same 4 (some .boolean) :: ([.fieldLink RX1 13 "TokenRowsModel" "text" "[B", .fieldLink RX1 20 "TokenRowsModel" "froms" "[I", .methodLink RX1 112 yX1_isToken, .instanceMethod yX1_isToken, .selects RX1 yX1_isToken yX1_isToken, .initialized RX1, .code yX1_isToken cX1_isToken 2 (some .boolean), .fieldLink RX1 58 "TokenRowsModel" "tokens" "I", .methodLink RX1 130 yX1_length, .instanceMethod yX1_length, .selects RX1 yX1_length yX1_length, .code yX1_length cX1_length 2 (some .int), .fieldLink RX1 23 "TokenRowsModel" "tos" "[I"] ++ wsX10)
def wsJ9_min_f86c9 : List Cond := .code yJ9_min_f86c9 cJ9_min_f86c9 4 (some .long) :: ([])
def wsL_law_r1 : List Cond := [Cond.classLink RL 7 RX0, Cond.instantiable RX0 13, Cond.initialized RX0, Cond.classLink RL 10 RX1, Cond.instantiable RX1 10, Cond.initialized RX1, Cond.methodLink RL 9 yX0_init, Cond.instanceMethod yX0_init, Cond.code yX0_init cX0_init 1 none, Cond.methodLink RX0 1 objectInit, Cond.instanceMethod objectInit, Cond.code objectInit ⟨#[0xb1]⟩ 1 none, Cond.arrayClass .byte, Cond.fieldLink RX0 9 "TokenRows" "tray" "[B", Cond.fieldLink RX0 13 "TokenRows" "text" "[B", Cond.arrayClass .int, Cond.fieldLink RX0 16 "TokenRows" "kinds" "[I", Cond.fieldLink RX0 20 "TokenRows" "starts" "[I", Cond.fieldLink RX0 23 "TokenRows" "sizes" "[I", Cond.fieldLink RX0 26 "TokenRows" "lines" "[I", Cond.fieldLink RX0 29 "TokenRows" "tells" "[I", Cond.fieldLink RX0 32 "TokenRows" "traySize" "I", Cond.fieldLink RX0 36 "TokenRows" "fedInAll" "I", Cond.fieldLink RX0 39 "TokenRows" "textSize" "I"]
def wsL_law_r2 : List Cond := [Cond.fieldLink RX0 42 "TokenRows" "lineNow" "I", Cond.fieldLink RX0 45 "TokenRows" "fault" "I", Cond.fieldLink RX0 48 "TokenRows" "count" "I", Cond.methodLink RL 12 yX1_init, Cond.instanceMethod yX1_init, Cond.code yX1_init cX1_init 1 none, Cond.methodLink RX1 1 objectInit, Cond.fieldLink RX1 9 "TokenRowsModel" "tray" "[B", Cond.fieldLink RX1 13 "TokenRowsModel" "text" "[B", Cond.fieldLink RX1 16 "TokenRowsModel" "kinds" "[I", Cond.fieldLink RX1 20 "TokenRowsModel" "froms" "[I", Cond.fieldLink RX1 23 "TokenRowsModel" "tos" "[I", Cond.fieldLink RX1 26 "TokenRowsModel" "place" "I", Cond.methodLink RL 13 yX0_feed, Cond.instanceMethod yX0_feed, Cond.selects RX0 yX0_feed yX0_feed, Cond.code yX0_feed cX0_feed 6 (some .int), Cond.constant RX0 51 (65536), Cond.methodLink RX0 52 yX0_putInt, Cond.instanceMethod yX0_putInt, Cond.selects RX0 yX0_putInt yX0_putInt, Cond.code yX0_putInt cX0_putInt 2 none, Cond.methodLink RX0 81 yX0_putByte, Cond.instanceMethod yX0_putByte]
def wsL_law_r3 : List Cond := [Cond.selects RX0 yX0_putByte yX0_putByte, Cond.code yX0_putByte cX0_putByte 2 none, Cond.methodLink RL 17 yX1_feed, Cond.instanceMethod yX1_feed, Cond.selects RX1 yX1_feed yX1_feed, Cond.code yX1_feed cX1_feed 6 (some .int), Cond.fieldLink RX1 30 "TokenRowsModel" "trayed" "I", Cond.fieldLink RX1 33 "TokenRowsModel" "fed" "I", Cond.constant RX1 36 (65536), Cond.methodLink RX1 37 yX1_four, Cond.instanceMethod yX1_four, Cond.selects RX1 yX1_four yX1_four, Cond.code yX1_four cX1_four 3 none, Cond.methodLink RL 18 yX0_end, Cond.instanceMethod yX0_end, Cond.selects RX0 yX0_end yX0_end, Cond.code yX0_end cX0_end 2 (some .int), Cond.methodLink RL 22 yX1_end, Cond.instanceMethod yX1_end, Cond.selects RX1 yX1_end yX1_end, Cond.code yX1_end cX1_end 2 (some .int), Cond.methodLink RL 23 yX0_cut, Cond.instanceMethod yX0_cut, Cond.selects RX0 yX0_cut yX0_cut]
def wsL_law_r4 : List Cond := [Cond.code yX0_cut cX0_cut 3 (some .int), Cond.methodLink RX0 56 yX0_takeTray, Cond.instanceMethod yX0_takeTray, Cond.selects RX0 yX0_takeTray yX0_takeTray, Cond.code yX0_takeTray cX0_takeTray 2 none, Cond.methodLink RX0 59 yX0_pastBlankOrToken, Cond.instanceMethod yX0_pastBlankOrToken, Cond.selects RX0 yX0_pastBlankOrToken yX0_pastBlankOrToken, Cond.code yX0_pastBlankOrToken cX0_pastBlankOrToken 3 (some .int), Cond.methodLink RX0 78 yX0_byteAt, Cond.instanceMethod yX0_byteAt, Cond.selects RX0 yX0_byteAt yX0_byteAt, Cond.code yX0_byteAt cX0_byteAt 2 (some .int), Cond.methodLink RX0 84 yX0_isBlankByte, Cond.static yX0_isBlankByte, Cond.code yX0_isBlankByte cX0_isBlankByte 1 (some .boolean), Cond.methodLink RX0 87 yX0_countLine, Cond.instanceMethod yX0_countLine, Cond.selects RX0 yX0_countLine yX0_countLine, Cond.code yX0_countLine cX0_countLine 2 none, Cond.methodLink RX0 90 yX0_pastLineComment, Cond.instanceMethod yX0_pastLineComment, Cond.selects RX0 yX0_pastLineComment yX0_pastLineComment, Cond.code yX0_pastLineComment cX0_pastLineComment 4 (some .int)]
def wsL_law_r5 : List Cond := [Cond.methodLink RX0 123 yX0_mayOccur, Cond.static yX0_mayOccur, Cond.code yX0_mayOccur cX0_mayOccur 1 (some .boolean), Cond.methodLink RX0 126 yX0_fail, Cond.instanceMethod yX0_fail, Cond.selects RX0 yX0_fail yX0_fail, Cond.code yX0_fail cX0_fail 2 (some .int), Cond.methodLink RX0 93 yX0_pastStarComment, Cond.instanceMethod yX0_pastStarComment, Cond.selects RX0 yX0_pastStarComment yX0_pastStarComment, Cond.code yX0_pastStarComment cX0_pastStarComment 4 (some .int), Cond.methodLink RX0 96 yX0_isLetter, Cond.static yX0_isLetter, Cond.code yX0_isLetter cX0_isLetter 1 (some .boolean), Cond.methodLink RX0 99 yX0_pastName, Cond.instanceMethod yX0_pastName, Cond.selects RX0 yX0_pastName yX0_pastName, Cond.code yX0_pastName cX0_pastName 4 (some .int), Cond.methodLink RX0 129 yX0_isNamePart, Cond.static yX0_isNamePart, Cond.code yX0_isNamePart cX0_isNamePart 1 (some .boolean), Cond.methodLink RX0 102 yX0_isDigit, Cond.static yX0_isDigit, Cond.code yX0_isDigit cX0_isDigit 1 (some .boolean)]
def wsL_law_r6 : List Cond := [Cond.methodLink RX0 132 yX0_wordNumber, Cond.instanceMethod yX0_wordNumber, Cond.selects RX0 yX0_wordNumber yX0_wordNumber, Cond.code yX0_wordNumber cX0_wordNumber 6 (some .int), Cond.fieldLink RX0 167 "TokenRows" "WORDS" "[C", Cond.methodLink RX0 135 yX0_keep, Cond.instanceMethod yX0_keep, Cond.selects RX0 yX0_keep yX0_keep, Cond.code yX0_keep cX0_keep 5 (some .int), Cond.methodLink RX0 105 yX0_isHexNumber, Cond.instanceMethod yX0_isHexNumber, Cond.selects RX0 yX0_isHexNumber yX0_isHexNumber, Cond.code yX0_isHexNumber cX0_isHexNumber 2 (some .boolean), Cond.methodLink RX0 151 yX0_hexDigit, Cond.static yX0_hexDigit, Cond.code yX0_hexDigit cX0_hexDigit 1 (some .int), Cond.methodLink RX0 108 yX0_pastHexNumber, Cond.instanceMethod yX0_pastHexNumber, Cond.selects RX0 yX0_pastHexNumber yX0_pastHexNumber, Cond.code yX0_pastHexNumber cX0_pastHexNumber 4 (some .int), Cond.methodLink RX0 111 yX0_pastDigits, Cond.instanceMethod yX0_pastDigits, Cond.selects RX0 yX0_pastDigits yX0_pastDigits, Cond.code yX0_pastDigits cX0_pastDigits 5 (some .int)]
def wsL_law_r7 : List Cond := [Cond.constantLong RX0 139 (10), Cond.constantLong RX0 141 (2147483648), Cond.methodLink RX0 143 Lib.MathLoose.min_long.x, Cond.static Lib.MathLoose.min_long.x, Cond.initialized "java/lang/Math", Cond.code Lib.MathLoose.min_long.x Lib.MathLoose.min_long.code 4 (some .long), Cond.constantLong RX0 149 (2147483647), Cond.methodLink RX0 114 yX0_pastQuotedCode, Cond.instanceMethod yX0_pastQuotedCode, Cond.selects RX0 yX0_pastQuotedCode yX0_pastQuotedCode, Cond.code yX0_pastQuotedCode cX0_pastQuotedCode 4 (some .int), Cond.methodLink RX0 71 yX0_codeWidth, Cond.instanceMethod yX0_codeWidth, Cond.selects RX0 yX0_codeWidth yX0_codeWidth, Cond.code yX0_codeWidth cX0_codeWidth 4 (some .int), Cond.methodLink RX0 164 yX0_escapedCode, Cond.static yX0_escapedCode, Cond.code yX0_escapedCode cX0_escapedCode 1 (some .int), Cond.methodLink RX0 75 yX0_codeAt, Cond.instanceMethod yX0_codeAt, Cond.selects RX0 yX0_codeAt yX0_codeAt, Cond.code yX0_codeAt cX0_codeAt 3 (some .int), Cond.methodLink RX0 117 yX0_pastString, Cond.instanceMethod yX0_pastString]
def wsL_law_r8 : List Cond := [Cond.selects RX0 yX0_pastString yX0_pastString, Cond.code yX0_pastString cX0_pastString 5 (some .int), Cond.methodLink RX0 120 yX0_pastSign, Cond.instanceMethod yX0_pastSign, Cond.selects RX0 yX0_pastSign yX0_pastSign, Cond.code yX0_pastSign cX0_pastSign 7 (some .int), Cond.methodLink RX0 154 yX0_signOfThree, Cond.static yX0_signOfThree, Cond.code yX0_signOfThree cX0_signOfThree 3 (some .int), Cond.methodLink RX0 158 yX0_signOfTwo, Cond.static yX0_signOfTwo, Cond.code yX0_signOfTwo cX0_signOfTwo 2 (some .int), Cond.methodLink RX0 171 yX0_signWithEqual, Cond.static yX0_signWithEqual, Cond.code yX0_signWithEqual cX0_signWithEqual 1 (some .int), Cond.methodLink RX0 174 yX0_signOfTwins, Cond.static yX0_signOfTwins, Cond.code yX0_signOfTwins cX0_signOfTwins 1 (some .int), Cond.methodLink RX0 161 yX0_signOfOne, Cond.static yX0_signOfOne, Cond.code yX0_signOfOne cX0_signOfOne 1 (some .int), Cond.methodLink RL 27 yX1_cut, Cond.instanceMethod yX1_cut, Cond.selects RX1 yX1_cut yX1_cut]
def wsL_law_r9 : List Cond := [Cond.code yX1_cut cX1_cut 4 (some .int), Cond.fieldLink RX1 41 "TokenRowsModel" "size" "I", Cond.fieldLink RX1 58 "TokenRowsModel" "tokens" "I", Cond.methodLink RX1 61 yX1_blanks, Cond.instanceMethod yX1_blanks, Cond.selects RX1 yX1_blanks yX1_blanks, Cond.code yX1_blanks cX1_blanks 7 (some .int), Cond.methodLink RX1 51 yX1_look, Cond.instanceMethod yX1_look, Cond.selects RX1 yX1_look yX1_look, Cond.code yX1_look cX1_look 2 (some .int), Cond.methodLink RX1 48 yX1_isBlank, Cond.static yX1_isBlank, Cond.code yX1_isBlank cX1_isBlank 1 (some .boolean), Cond.methodLink RX1 55 yX1_isAllowed, Cond.static yX1_isAllowed, Cond.code yX1_isAllowed cX1_isAllowed 1 (some .boolean), Cond.methodLink RX1 64 yX1_kindAt, Cond.instanceMethod yX1_kindAt, Cond.selects RX1 yX1_kindAt yX1_kindAt, Cond.code yX1_kindAt cX1_kindAt 3 (some .int), Cond.methodLink RX1 44 yX1_isDigit, Cond.static yX1_isDigit, Cond.code yX1_isDigit cX1_isDigit 1 (some .boolean)]
def wsL_law_r10 : List Cond := [Cond.methodLink RX1 71 yX1_isInName, Cond.static yX1_isInName, Cond.code yX1_isInName cX1_isInName 1 (some .boolean), Cond.methodLink RX1 74 yX1_signEnd, Cond.instanceMethod yX1_signEnd, Cond.selects RX1 yX1_signEnd yX1_signEnd, Cond.code yX1_signEnd cX1_signEnd 5 (some .int), Cond.methodLink RX1 104 yJ0_length_8abf5, Cond.instanceMethod yJ0_length_8abf5, Cond.selects RJ0 yJ0_length_8abf5 yJ0_length_8abf5, Cond.initialized RJ0, Cond.code yJ0_length_8abf5 cJ0_length_8abf5 1 (some .int), Cond.fieldLink RJ0 9 "java/lang/String" "value" "[B", Cond.methodLink RJ0 335 yJ0_coder_7d493, Cond.instanceMethod yJ0_coder_7d493, Cond.selects RJ0 yJ0_coder_7d493 yJ0_coder_7d493, Cond.code yJ0_coder_7d493 cJ0_coder_7d493 1 (some .byte), Cond.fieldLink RJ0 38 "java/lang/String" "COMPACT_STRINGS" "Z", Cond.fieldLink RJ0 15 "java/lang/String" "coder" "B", Cond.methodLink RX1 96 yJ0_charAt_5068e, Cond.instanceMethod yJ0_charAt_5068e, Cond.selects RJ0 yJ0_charAt_5068e yJ0_charAt_5068e, Cond.code yJ0_charAt_5068e cJ0_charAt_5068e 2 (some .char), Cond.methodLink RJ0 492 yJ0_isLatin1_aae02]
def wsL_law_r11 : List Cond := [Cond.instanceMethod yJ0_isLatin1_aae02, Cond.selects RJ0 yJ0_isLatin1_aae02 yJ0_isLatin1_aae02, Cond.code yJ0_isLatin1_aae02 cJ0_isLatin1_aae02 1 (some .boolean), Cond.methodLink RJ0 495 yJ1_charAt_3b067, Cond.static yJ1_charAt_3b067, Cond.initialized RJ1, Cond.code yJ1_charAt_3b067 cJ1_charAt_3b067 2 (some .char), Cond.methodLink RJ1 9 yJ0_checkIndex_df160, Cond.static yJ0_checkIndex_df160, Cond.code yJ0_checkIndex_df160 cJ0_checkIndex_df160 2 none, Cond.fieldLink RJ0 1053 "jdk/internal/util/Preconditions" "SIOOBE_FORMATTER" "Ljava/util/function/BiFunction;", Cond.methodLink RJ0 1059 yJ3_checkIndex_8e157, Cond.static yJ3_checkIndex_8e157, Cond.initialized RJ3, Cond.code yJ3_checkIndex_8e157 cJ3_checkIndex_8e157 3 (some .int), Cond.methodLink RJ0 498 yJ2_charAt_3b067, Cond.static yJ2_charAt_3b067, Cond.initialized RJ2, Cond.code yJ2_charAt_3b067 cJ2_charAt_3b067 2 (some .char), Cond.methodLink RJ2 67 yJ2_checkIndex_2214a, Cond.static yJ2_checkIndex_2214a, Cond.code yJ2_checkIndex_2214a cJ2_checkIndex_2214a 2 none, Cond.methodLink RJ2 48 yJ2_length_9d52b, Cond.static yJ2_length_9d52b]
def wsL_law_r12 : List Cond := [Cond.code yJ2_length_9d52b cJ2_length_9d52b 1 (some .int), Cond.methodLink RJ2 414 yJ0_checkIndex_df160, Cond.methodLink RJ2 71 yJ2_getChar_3b067, Cond.static yJ2_getChar_3b067, Cond.code yJ2_getChar_3b067 cJ2_getChar_3b067 2 (some .char), Cond.fieldLink RJ2 44 "java/lang/StringUTF16" "$assertionsDisabled" "Z", Cond.fieldLink RJ2 59 "java/lang/StringUTF16" "HI_BYTE_SHIFT" "I", Cond.fieldLink RJ2 63 "java/lang/StringUTF16" "LO_BYTE_SHIFT" "I", Cond.methodLink RX1 108 yX1_isAt, Cond.instanceMethod yX1_isAt, Cond.selects RX1 yX1_isAt yX1_isAt, Cond.code yX1_isAt cX1_isAt 6 (some .boolean), Cond.methodLink RX1 67 yX1_endOf, Cond.instanceMethod yX1_endOf, Cond.selects RX1 yX1_endOf yX1_endOf, Cond.code yX1_endOf cX1_endOf 5 (some .int), Cond.methodLink RX1 77 yX1_stringEnd, Cond.instanceMethod yX1_stringEnd, Cond.selects RX1 yX1_stringEnd yX1_stringEnd, Cond.code yX1_stringEnd cX1_stringEnd 4 (some .int), Cond.methodLink RX1 80 yX1_behind, Cond.instanceMethod yX1_behind, Cond.selects RX1 yX1_behind yX1_behind, Cond.code yX1_behind cX1_behind 5 (some .int)]
def wsL_law_r13 : List Cond := [Cond.methodLink RX1 83 yX1_sixteen, Cond.static yX1_sixteen, Cond.code yX1_sixteen cX1_sixteen 1 (some .int), Cond.methodLink RX1 86 yX1_isInt, Cond.instanceMethod yX1_isInt, Cond.selects RX1 yX1_isInt yX1_isInt, Cond.code yX1_isInt cX1_isInt 7 (some .boolean), Cond.constantLong RX1 90 (10), Cond.constantLong RX1 92 (48), Cond.constantLong RX1 94 (2147483647), Cond.methodLink RL 28 yX0_place, Cond.instanceMethod yX0_place, Cond.selects RX0 yX0_place yX0_place, Cond.code yX0_place cX0_place 1 (some .int), Cond.methodLink RL 31 yX1_place, Cond.instanceMethod yX1_place, Cond.selects RX1 yX1_place yX1_place, Cond.code yX1_place cX1_place 1 (some .int), Cond.methodLink RL 32 yX0_tokens, Cond.instanceMethod yX0_tokens, Cond.selects RX0 yX0_tokens yX0_tokens, Cond.code yX0_tokens cX0_tokens 1 (some .int), Cond.methodLink RL 35 yX1_tokens, Cond.instanceMethod yX1_tokens]
def wsL_law_r14 : List Cond := [Cond.selects RX1 yX1_tokens yX1_tokens, Cond.code yX1_tokens cX1_tokens 1 (some .int), Cond.methodLink RL 36 yX0_kind, Cond.instanceMethod yX0_kind, Cond.selects RX0 yX0_kind yX0_kind, Cond.code yX0_kind cX0_kind 2 (some .int), Cond.methodLink RX0 63 yX0_isToken, Cond.instanceMethod yX0_isToken, Cond.selects RX0 yX0_isToken yX0_isToken, Cond.code yX0_isToken cX0_isToken 2 (some .boolean), Cond.methodLink RL 39 yX1_kind, Cond.instanceMethod yX1_kind, Cond.selects RX1 yX1_kind yX1_kind, Cond.code yX1_kind cX1_kind 2 (some .int), Cond.methodLink RX1 112 yX1_isToken, Cond.instanceMethod yX1_isToken, Cond.selects RX1 yX1_isToken yX1_isToken, Cond.code yX1_isToken cX1_isToken 2 (some .boolean), Cond.methodLink RX1 117 yX1_among, Cond.instanceMethod yX1_among, Cond.selects RX1 yX1_among yX1_among, Cond.code yX1_among cX1_among 6 (some .int), Cond.methodLink RL 40 yX0_which, Cond.instanceMethod yX0_which]
def wsL_law_r15 : List Cond := [Cond.selects RX0 yX0_which yX0_which, Cond.code yX0_which cX0_which 2 (some .int), Cond.methodLink RX0 67 yX0_isOfKind, Cond.instanceMethod yX0_isOfKind, Cond.selects RX0 yX0_isOfKind yX0_isOfKind, Cond.code yX0_isOfKind cX0_isOfKind 3 (some .boolean), Cond.methodLink RL 43 yX1_which, Cond.instanceMethod yX1_which, Cond.selects RX1 yX1_which yX1_which, Cond.code yX1_which cX1_which 3 (some .int), Cond.methodLink RX1 121 yX1_kind, Cond.methodLink RL 44 yX0_from, Cond.instanceMethod yX0_from, Cond.selects RX0 yX0_from yX0_from, Cond.code yX0_from cX0_from 2 (some .int), Cond.methodLink RL 47 yX1_from, Cond.instanceMethod yX1_from, Cond.selects RX1 yX1_from yX1_from, Cond.code yX1_from cX1_from 2 (some .int), Cond.methodLink RL 48 yX0_length, Cond.instanceMethod yX0_length, Cond.selects RX0 yX0_length yX0_length, Cond.code yX0_length cX0_length 2 (some .int), Cond.methodLink RL 51 yX1_length]
def wsL_law_r16 : List Cond := [Cond.instanceMethod yX1_length, Cond.selects RX1 yX1_length yX1_length, Cond.code yX1_length cX1_length 2 (some .int), Cond.methodLink RL 52 yX0_line, Cond.instanceMethod yX0_line, Cond.selects RX0 yX0_line yX0_line, Cond.code yX0_line cX0_line 2 (some .int), Cond.methodLink RL 55 yX1_line, Cond.instanceMethod yX1_line, Cond.selects RX1 yX1_line yX1_line, Cond.code yX1_line cX1_line 4 (some .int), Cond.methodLink RL 56 yX0_worth, Cond.instanceMethod yX0_worth, Cond.selects RX0 yX0_worth yX0_worth, Cond.code yX0_worth cX0_worth 2 (some .int), Cond.methodLink RL 59 yX1_worth, Cond.instanceMethod yX1_worth, Cond.selects RX1 yX1_worth yX1_worth, Cond.code yX1_worth cX1_worth 6 (some .int), Cond.methodLink RX1 124 yX1_codeAt, Cond.instanceMethod yX1_codeAt, Cond.selects RX1 yX1_codeAt yX1_codeAt, Cond.code yX1_codeAt cX1_codeAt 3 (some .int), Cond.methodLink RL 60 yX0_codes]
def wsL_law_r17 : List Cond := [Cond.instanceMethod yX0_codes, Cond.selects RX0 yX0_codes yX0_codes, Cond.code yX0_codes cX0_codes 2 (some .int), Cond.methodLink RL 63 yX1_codes, Cond.instanceMethod yX1_codes, Cond.selects RX1 yX1_codes yX1_codes, Cond.code yX1_codes cX1_codes 4 (some .int), Cond.methodLink RL 64 yX0_code, Cond.instanceMethod yX0_code, Cond.selects RX0 yX0_code yX0_code, Cond.code yX0_code cX0_code 5 (some .int), Cond.methodLink RL 68 yX1_code, Cond.instanceMethod yX1_code, Cond.selects RX1 yX1_code yX1_code, Cond.code yX1_code cX1_code 5 (some .int), Cond.methodLink RX1 127 yX1_codes, Cond.methodLink RL 69 yX0_same, Cond.instanceMethod yX0_same, Cond.selects RX0 yX0_same yX0_same, Cond.code yX0_same cX0_same 4 (some .boolean), Cond.methodLink RL 73 yX1_same, Cond.instanceMethod yX1_same, Cond.selects RX1 yX1_same yX1_same, Cond.code yX1_same cX1_same 4 (some .boolean)]
def wsL_law_r18 : List Cond := [Cond.methodLink RX1 130 yX1_length]
def wsL_law : List Cond := (wsL_law_r1 ++ (wsL_law_r2 ++ (wsL_law_r3 ++ (wsL_law_r4 ++ (wsL_law_r5 ++ (wsL_law_r6 ++ (wsL_law_r7 ++ (wsL_law_r8 ++ (wsL_law_r9 ++ (wsL_law_r10 ++ (wsL_law_r11 ++ (wsL_law_r12 ++ (wsL_law_r13 ++ (wsL_law_r14 ++ (wsL_law_r15 ++ (wsL_law_r16 ++ (wsL_law_r17 ++ wsL_law_r18))))))))))))))))) ++ wsX00 ++ wsX10 ++ ([] : List Cond)
theorem in_places {big ws : List Cond} (ps : List Nat) (h : ws = ps.filterMap (fun i => big[i]?)) : ∀ w ∈ ws, w ∈ big := by
  intro w hw
  rw [h] at hw
  obtain ⟨i, -, hi⟩ := List.mem_filterMap.mp hw
  exact List.mem_of_getElem? hi
set_option maxRecDepth 20000 in
theorem wsL_law_r1_in : ∀ w ∈ wsL_law_r1, w ∈ lw_tbl := in_places [43, 44, 36, 282, 283, 37, 45, 46, 47, 48, 49, 50, 91, 51, 54, 92, 58, 59, 60, 61, 62, 52, 53, 55] (by decide +kernel)
set_option maxRecDepth 20000 in
theorem wsL_law_r2_in : ∀ w ∈ wsL_law_r2, w ∈ lw_tbl := in_places [56, 57, 63, 284, 285, 286, 287, 288, 291, 293, 294, 295, 297, 93, 94, 95, 96, 97, 98, 100, 0, 101, 102, 104] (by decide +kernel)
set_option maxRecDepth 20000 in
theorem wsL_law_r3_in : ∀ w ∈ wsL_law_r3, w ∈ lw_tbl := in_places [1, 105, 319, 320, 321, 322, 289, 290, 323, 324, 326, 22, 327, 106, 107, 108, 109, 328, 329, 330, 331, 110, 111, 112] (by decide +kernel)
set_option maxRecDepth 20000 in
theorem wsL_law_r4_in : ∀ w ∈ wsL_law_r4, w ∈ lw_tbl := in_places [113, 114, 116, 2, 117, 118, 120, 3, 121, 122, 124, 4, 125, 126, 127, 128, 129, 131, 5, 132, 133, 135, 6, 136] (by decide +kernel)
set_option maxRecDepth 20000 in
theorem wsL_law_r5_in : ∀ w ∈ wsL_law_r5, w ∈ lw_tbl := in_places [137, 138, 139, 140, 142, 7, 143, 144, 146, 8, 147, 148, 149, 150, 151, 153, 9, 154, 155, 156, 157, 158, 159, 160] (by decide +kernel)
set_option maxRecDepth 20000 in
theorem wsL_law_r6_in : ∀ w ∈ wsL_law_r6, w ∈ lw_tbl := in_places [161, 163, 10, 164, 165, 167, 169, 11, 170, 171, 173, 12, 174, 175, 176, 177, 178, 180, 13, 181, 182, 184, 14, 185] (by decide +kernel)
set_option maxRecDepth 20000 in
theorem wsL_law_r7_in : ∀ w ∈ wsL_law_r7, w ∈ lw_tbl := in_places [186, 187, 188, 189, 38, 190, 191, 192, 194, 15, 195, 196, 198, 16, 199, 200, 201, 202, 203, 205, 17, 206, 207, 209] (by decide +kernel)
set_option maxRecDepth 20000 in
theorem wsL_law_r8_in : ∀ w ∈ wsL_law_r8, w ∈ lw_tbl := in_places [18, 210, 211, 213, 19, 214, 215, 216, 217, 218, 219, 220, 221, 222, 223, 224, 225, 226, 227, 228, 229, 332, 333, 334] (by decide +kernel)
set_option maxRecDepth 20000 in
theorem wsL_law_r9_in : ∀ w ∈ wsL_law_r9, w ∈ lw_tbl := in_places [335, 292, 296, 336, 338, 23, 339, 340, 342, 24, 343, 344, 345, 346, 347, 348, 349, 350, 352, 25, 353, 354, 355, 356] (by decide +kernel)
set_option maxRecDepth 20000 in
theorem wsL_law_r10_in : ∀ w ∈ wsL_law_r10, w ∈ lw_tbl := in_places [357, 358, 359, 360, 362, 26, 363, 365, 366, 367, 39, 368, 499, 369, 370, 371, 372, 373, 500, 375, 376, 377, 378, 379] (by decide +kernel)
set_option maxRecDepth 20000 in
theorem wsL_law_r11_in : ∀ w ∈ wsL_law_r11, w ∈ lw_tbl := in_places [380, 381, 382, 383, 384, 40, 385, 386, 387, 388, 389, 391, 392, 41, 393, 394, 395, 42, 396, 397, 398, 399, 400, 401] (by decide +kernel)
set_option maxRecDepth 20000 in
theorem wsL_law_r12_in : ∀ w ∈ wsL_law_r12, w ∈ lw_tbl := in_places [402, 403, 404, 405, 406, 407, 409, 411, 413, 415, 27, 416, 417, 419, 28, 420, 421, 423, 29, 424, 425, 427, 30, 428] (by decide +kernel)
set_option maxRecDepth 20000 in
theorem wsL_law_r13_in : ∀ w ∈ wsL_law_r13, w ∈ lw_tbl := in_places [429, 430, 431, 432, 434, 31, 435, 436, 437, 438, 230, 231, 232, 233, 439, 440, 441, 442, 234, 235, 236, 237, 443, 444] (by decide +kernel)
set_option maxRecDepth 20000 in
theorem wsL_law_r14_in : ∀ w ∈ wsL_law_r14, w ∈ lw_tbl := in_places [445, 446, 238, 239, 240, 241, 242, 244, 20, 245, 447, 448, 449, 450, 451, 453, 32, 454, 456, 458, 33, 459, 246, 247] (by decide +kernel)
set_option maxRecDepth 20000 in
theorem wsL_law_r15_in : ∀ w ∈ wsL_law_r15, w ∈ lw_tbl := in_places [248, 249, 250, 252, 21, 253, 460, 461, 462, 463, 464, 254, 255, 256, 257, 465, 466, 467, 468, 258, 259, 260, 261, 469] (by decide +kernel)
set_option maxRecDepth 20000 in
theorem wsL_law_r16_in : ∀ w ∈ wsL_law_r16, w ∈ lw_tbl := in_places [470, 471, 472, 262, 263, 264, 265, 473, 474, 475, 476, 266, 267, 268, 269, 477, 478, 479, 480, 481, 483, 34, 484, 270] (by decide +kernel)
set_option maxRecDepth 20000 in
theorem wsL_law_r17_in : ∀ w ∈ wsL_law_r17, w ∈ lw_tbl := in_places [271, 272, 273, 485, 486, 487, 488, 274, 275, 276, 277, 489, 490, 491, 492, 493, 278, 279, 280, 281, 494, 495, 496, 497] (by decide +kernel)
set_option maxRecDepth 20000 in
theorem wsL_law_r18_in : ∀ w ∈ wsL_law_r18, w ∈ lw_tbl := in_places [498] (by decide +kernel)
set_option maxRecDepth 20000 in
theorem wsX00_in : ∀ w ∈ wsX00, w ∈ lw_tbl := in_places [64, 66, 68, 70, 72, 74, 76, 78, 80, 82, 84, 86, 88] (by decide +kernel)
set_option maxRecDepth 20000 in
theorem wsX10_in : ∀ w ∈ wsX10, w ∈ lw_tbl := in_places [298, 300, 302, 304, 306, 308, 310, 312, 314, 316] (by decide +kernel)
theorem wsL_law_in : ∀ w ∈ wsL_law, w ∈ lw_tbl := List.forall_mem_append.mpr ⟨List.forall_mem_append.mpr ⟨List.forall_mem_append.mpr ⟨(List.forall_mem_append.mpr ⟨wsL_law_r1_in, (List.forall_mem_append.mpr ⟨wsL_law_r2_in, (List.forall_mem_append.mpr ⟨wsL_law_r3_in, (List.forall_mem_append.mpr ⟨wsL_law_r4_in, (List.forall_mem_append.mpr ⟨wsL_law_r5_in, (List.forall_mem_append.mpr ⟨wsL_law_r6_in, (List.forall_mem_append.mpr ⟨wsL_law_r7_in, (List.forall_mem_append.mpr ⟨wsL_law_r8_in, (List.forall_mem_append.mpr ⟨wsL_law_r9_in, (List.forall_mem_append.mpr ⟨wsL_law_r10_in, (List.forall_mem_append.mpr ⟨wsL_law_r11_in, (List.forall_mem_append.mpr ⟨wsL_law_r12_in, (List.forall_mem_append.mpr ⟨wsL_law_r13_in, (List.forall_mem_append.mpr ⟨wsL_law_r14_in, (List.forall_mem_append.mpr ⟨wsL_law_r15_in, (List.forall_mem_append.mpr ⟨wsL_law_r16_in, (List.forall_mem_append.mpr ⟨wsL_law_r17_in, wsL_law_r18_in⟩)⟩)⟩)⟩)⟩)⟩)⟩)⟩)⟩)⟩)⟩)⟩)⟩)⟩)⟩)⟩)⟩), wsX00_in⟩, wsX10_in⟩, fun _ h => absurd h List.not_mem_nil⟩
theorem inlX0 : ∀ w ∈ wsX00, w ∈ wsL_law := fun _ h => List.mem_append_left _ (List.mem_append_left _ (List.mem_append_right _ h))
theorem inX0 : ∀ w ∈ wsX00, w ∈ lw_tbl := fun w h => wsL_law_in w (inlX0 w h)
theorem inlX1 : ∀ w ∈ wsX10, w ∈ wsL_law := fun _ h => List.mem_append_left _ (List.mem_append_right _ h)
theorem inX1 : ∀ w ∈ wsX10, w ∈ lw_tbl := fun w h => wsL_law_in w (inlX1 w h)
theorem inJ9 : ∀ w ∈ wsJ90, w ∈ lw_tbl := by decide +kernel
theorem inJ0 : ∀ w ∈ wsJ00, w ∈ lw_tbl := by decide +kernel
theorem inJ1 : ∀ w ∈ wsJ10, w ∈ lw_tbl := by decide +kernel
theorem inJ2 : ∀ w ∈ wsJ20, w ∈ lw_tbl := by decide +kernel
theorem inJ3 : ∀ w ∈ wsJ30, w ∈ lw_tbl := by decide +kernel
abbrev vwCl : List vw_C := [(RX0, TX0, 13), (RX1, TX1, 10)]
end
section
theorem dX0_init_0 : decode cX0_init 0 = .ok (.aload_n 0, 1) := by decide +kernel
theorem dX0_init_1 : decode cX0_init 1 = .ok (.invokespecial 1, 3) := by decide +kernel
theorem dX0_init_4 : decode cX0_init 4 = .ok (.aload_n 0, 1) := by decide +kernel
theorem dX0_init_5 : decode cX0_init 5 = .ok (.sipush 16000, 3) := by decide +kernel
theorem dX0_init_8 : decode cX0_init 8 = .ok (.newarray .byte, 2) := by decide +kernel
theorem dX0_init_10 : decode cX0_init 10 = .ok (.putfield 9, 3) := by decide +kernel
theorem dX0_init_13 : decode cX0_init 13 = .ok (.aload_n 0, 1) := by decide +kernel
theorem dX0_init_14 : decode cX0_init 14 = .ok (.sipush 16000, 3) := by decide +kernel
theorem dX0_init_17 : decode cX0_init 17 = .ok (.newarray .byte, 2) := by decide +kernel
theorem dX0_init_19 : decode cX0_init 19 = .ok (.putfield 13, 3) := by decide +kernel
theorem dX0_init_22 : decode cX0_init 22 = .ok (.aload_n 0, 1) := by decide +kernel
theorem dX0_init_23 : decode cX0_init 23 = .ok (.sipush 16000, 3) := by decide +kernel
theorem dX0_init_26 : decode cX0_init 26 = .ok (.newarray .int, 2) := by decide +kernel
theorem dX0_init_28 : decode cX0_init 28 = .ok (.putfield 16, 3) := by decide +kernel
theorem dX0_init_31 : decode cX0_init 31 = .ok (.aload_n 0, 1) := by decide +kernel
theorem dX0_init_32 : decode cX0_init 32 = .ok (.sipush 16000, 3) := by decide +kernel
theorem dX0_init_35 : decode cX0_init 35 = .ok (.newarray .int, 2) := by decide +kernel
theorem dX0_init_37 : decode cX0_init 37 = .ok (.putfield 20, 3) := by decide +kernel
theorem dX0_init_40 : decode cX0_init 40 = .ok (.aload_n 0, 1) := by decide +kernel
theorem dX0_init_41 : decode cX0_init 41 = .ok (.sipush 16000, 3) := by decide +kernel
theorem dX0_init_44 : decode cX0_init 44 = .ok (.newarray .int, 2) := by decide +kernel
theorem dX0_init_46 : decode cX0_init 46 = .ok (.putfield 23, 3) := by decide +kernel
theorem dX0_init_49 : decode cX0_init 49 = .ok (.aload_n 0, 1) := by decide +kernel
theorem dX0_init_50 : decode cX0_init 50 = .ok (.sipush 16000, 3) := by decide +kernel
theorem dX0_init_53 : decode cX0_init 53 = .ok (.newarray .int, 2) := by decide +kernel
theorem dX0_init_55 : decode cX0_init 55 = .ok (.putfield 26, 3) := by decide +kernel
theorem dX0_init_58 : decode cX0_init 58 = .ok (.aload_n 0, 1) := by decide +kernel
theorem dX0_init_59 : decode cX0_init 59 = .ok (.sipush 16000, 3) := by decide +kernel
theorem dX0_init_62 : decode cX0_init 62 = .ok (.newarray .int, 2) := by decide +kernel
theorem dX0_init_64 : decode cX0_init 64 = .ok (.putfield 29, 3) := by decide +kernel
theorem dX0_init_67 : decode cX0_init 67 = .ok (.aload_n 0, 1) := by decide +kernel
theorem dX0_init_68 : decode cX0_init 68 = .ok (.iconst 0, 1) := by decide +kernel
theorem dX0_init_69 : decode cX0_init 69 = .ok (.putfield 32, 3) := by decide +kernel
theorem dX0_init_72 : decode cX0_init 72 = .ok (.aload_n 0, 1) := by decide +kernel
theorem dX0_init_73 : decode cX0_init 73 = .ok (.iconst 0, 1) := by decide +kernel
theorem dX0_init_74 : decode cX0_init 74 = .ok (.putfield 36, 3) := by decide +kernel
theorem dX0_init_77 : decode cX0_init 77 = .ok (.aload_n 0, 1) := by decide +kernel
theorem dX0_init_78 : decode cX0_init 78 = .ok (.iconst 0, 1) := by decide +kernel
theorem dX0_init_79 : decode cX0_init 79 = .ok (.putfield 39, 3) := by decide +kernel
theorem dX0_init_82 : decode cX0_init 82 = .ok (.aload_n 0, 1) := by decide +kernel
theorem dX0_init_83 : decode cX0_init 83 = .ok (.iconst 1, 1) := by decide +kernel
theorem dX0_init_84 : decode cX0_init 84 = .ok (.putfield 42, 3) := by decide +kernel
theorem dX0_init_87 : decode cX0_init 87 = .ok (.aload_n 0, 1) := by decide +kernel
theorem dX0_init_88 : decode cX0_init 88 = .ok (.iconst (-1), 1) := by decide +kernel
theorem dX0_init_89 : decode cX0_init 89 = .ok (.putfield 45, 3) := by decide +kernel
theorem dX0_init_92 : decode cX0_init 92 = .ok (.aload_n 0, 1) := by decide +kernel
theorem dX0_init_93 : decode cX0_init 93 = .ok (.iconst 0, 1) := by decide +kernel
theorem dX0_init_94 : decode cX0_init 94 = .ok (.putfield 48, 3) := by decide +kernel
theorem dX0_init_97 : decode cX0_init 97 = .ok (.return_, 1) := by decide +kernel
set_option maxRecDepth 20000 in
theorem ggX0_feed_X0_putInt : GoodIn wsX0_feed wsX0_putInt := goodIn_r _ [8, 9, 10, 11, 7, 12, 1, 13, 14, 15, 16, 17, 18, 19, 20, 21, 22, 23, 24, 25, 26] (by decide +kernel) (by decide +kernel)
set_option maxRecDepth 20000 in
theorem gX0_feed_X0_putInt : GoodIn wsX0_feed (wsV RX0 52 RX0 yX0_putInt wsX0_putInt) := goodIn_app (goodIn_of _ (by decide +kernel)) ggX0_feed_X0_putInt
theorem dX0_feed_0 : decode cX0_feed 0 = .ok (.aload_n 0, 1) := by decide +kernel
theorem dX0_feed_1 : decode cX0_feed 1 = .ok (.getfield 32, 3) := by decide +kernel
theorem dX0_feed_4 : decode cX0_feed 4 = .ok (.bipush 20, 2) := by decide +kernel
theorem dX0_feed_6 : decode cX0_feed 6 = .ok (.iadd, 1) := by decide +kernel
theorem dX0_feed_7 : decode cX0_feed 7 = .ok (.sipush 16000, 3) := by decide +kernel
theorem dX0_feed_10 : decode cX0_feed 10 = .ok (.if_icmp .gt 15, 3) := by decide +kernel
theorem dX0_feed_13 : decode cX0_feed 13 = .ok (.aload_n 0, 1) := by decide +kernel
theorem dX0_feed_14 : decode cX0_feed 14 = .ok (.getfield 36, 3) := by decide +kernel
theorem dX0_feed_17 : decode cX0_feed 17 = .ok (.bipush 20, 2) := by decide +kernel
theorem dX0_feed_19 : decode cX0_feed 19 = .ok (.iadd, 1) := by decide +kernel
theorem dX0_feed_20 : decode cX0_feed 20 = .ok (.ldc 51, 2) := by decide +kernel
theorem dX0_feed_22 : decode cX0_feed 22 = .ok (.if_icmp .le 5, 3) := by decide +kernel
theorem dX0_feed_25 : decode cX0_feed 25 = .ok (.iconst (-1), 1) := by decide +kernel
theorem dX0_feed_26 : decode cX0_feed 26 = .ok (.ireturn, 1) := by decide +kernel
theorem dX0_feed_27 : decode cX0_feed 27 = .ok (.aload_n 0, 1) := by decide +kernel
theorem dX0_feed_28 : decode cX0_feed 28 = .ok (.iload_n 1, 1) := by decide +kernel
theorem dX0_feed_29 : decode cX0_feed 29 = .ok (.invokevirtual 52, 3) := by decide +kernel
theorem dX0_feed_32 : decode cX0_feed 32 = .ok (.aload_n 0, 1) := by decide +kernel
theorem dX0_feed_33 : decode cX0_feed 33 = .ok (.iload_n 2, 1) := by decide +kernel
theorem dX0_feed_34 : decode cX0_feed 34 = .ok (.invokevirtual 52, 3) := by decide +kernel
theorem dX0_feed_37 : decode cX0_feed 37 = .ok (.aload_n 0, 1) := by decide +kernel
theorem dX0_feed_38 : decode cX0_feed 38 = .ok (.iload_n 3, 1) := by decide +kernel
theorem dX0_feed_39 : decode cX0_feed 39 = .ok (.invokevirtual 52, 3) := by decide +kernel
theorem dX0_feed_42 : decode cX0_feed 42 = .ok (.aload_n 0, 1) := by decide +kernel
theorem dX0_feed_43 : decode cX0_feed 43 = .ok (.iload 4, 2) := by decide +kernel
theorem dX0_feed_45 : decode cX0_feed 45 = .ok (.invokevirtual 52, 3) := by decide +kernel
theorem dX0_feed_48 : decode cX0_feed 48 = .ok (.aload_n 0, 1) := by decide +kernel
theorem dX0_feed_49 : decode cX0_feed 49 = .ok (.iload 5, 2) := by decide +kernel
theorem dX0_feed_51 : decode cX0_feed 51 = .ok (.invokevirtual 52, 3) := by decide +kernel
theorem dX0_feed_54 : decode cX0_feed 54 = .ok (.aload_n 0, 1) := by decide +kernel
theorem dX0_feed_55 : decode cX0_feed 55 = .ok (.dup, 1) := by decide +kernel
theorem dX0_feed_56 : decode cX0_feed 56 = .ok (.getfield 36, 3) := by decide +kernel
theorem dX0_feed_59 : decode cX0_feed 59 = .ok (.bipush 20, 2) := by decide +kernel
theorem dX0_feed_61 : decode cX0_feed 61 = .ok (.iadd, 1) := by decide +kernel
theorem dX0_feed_62 : decode cX0_feed 62 = .ok (.putfield 36, 3) := by decide +kernel
theorem dX0_feed_65 : decode cX0_feed 65 = .ok (.aload_n 0, 1) := by decide +kernel
theorem dX0_feed_66 : decode cX0_feed 66 = .ok (.getfield 32, 3) := by decide +kernel
theorem dX0_feed_69 : decode cX0_feed 69 = .ok (.ireturn, 1) := by decide +kernel
theorem dX0_end_0 : decode cX0_end 0 = .ok (.iload_n 1, 1) := by decide +kernel
theorem dX0_end_1 : decode cX0_end 1 = .ok (.ifCond .lt 11, 3) := by decide +kernel
theorem dX0_end_4 : decode cX0_end 4 = .ok (.iload_n 1, 1) := by decide +kernel
theorem dX0_end_5 : decode cX0_end 5 = .ok (.aload_n 0, 1) := by decide +kernel
theorem dX0_end_6 : decode cX0_end 6 = .ok (.getfield 32, 3) := by decide +kernel
theorem dX0_end_9 : decode cX0_end 9 = .ok (.if_icmp .le 5, 3) := by decide +kernel
theorem dX0_end_12 : decode cX0_end 12 = .ok (.iconst (-1), 1) := by decide +kernel
theorem dX0_end_13 : decode cX0_end 13 = .ok (.ireturn, 1) := by decide +kernel
theorem dX0_end_14 : decode cX0_end 14 = .ok (.aload_n 0, 1) := by decide +kernel
theorem dX0_end_15 : decode cX0_end 15 = .ok (.iload_n 1, 1) := by decide +kernel
theorem dX0_end_16 : decode cX0_end 16 = .ok (.putfield 32, 3) := by decide +kernel
theorem dX0_end_19 : decode cX0_end 19 = .ok (.iload_n 1, 1) := by decide +kernel
theorem dX0_end_20 : decode cX0_end 20 = .ok (.ireturn, 1) := by decide +kernel
set_option maxRecDepth 20000 in
theorem ggX0_cut_X0_takeTray : GoodIn wsX0_cut wsX0_takeTray := goodIn_r _ [8, 9, 10, 11, 1, 12, 2, 3, 130, 131, 132, 133, 134, 135, 136, 137, 138, 139, 140, 141, 142] (by decide +kernel) (by decide +kernel)
set_option maxRecDepth 20000 in
theorem gX0_cut_X0_takeTray : GoodIn wsX0_cut (wsV RX0 56 RX0 yX0_takeTray wsX0_takeTray) := goodIn_app (goodIn_of _ (by decide +kernel)) ggX0_cut_X0_takeTray
set_option maxRecDepth 20000 in
theorem ggX0_cut_X0_pastBlankOrToken : GoodIn wsX0_cut wsX0_pastBlankOrToken := goodIn_r _ [16, 17, 18, 19, 7, 20, 1, 9, 21, 22, 23, 24, 25, 26, 27, 12, 28, 29, 30, 31, 32, 33, 34, 35, 36, 37, 38, 2, 39, 40, 41, 42, 43, 44, 45, 46, 47, 48, 49, 50, 51, 52, 53, 54, 55, 56, 57, 58, 59, 60, 61, 62, 63, 64, 3, 65, 66, 67, 68, 69, 70, 71, 72, 73, 74, 75, 76, 77, 78, 79, 80, 81, 82, 83, 84, 85, 86, 87, 88, 89, 90, 91, 92, 93, 94, 95, 96, 97, 98, 99, 100, 101, 102, 103, 104, 105, 106, 107, 108, 109, 110, 111, 112, 113, 114, 115, 116, 117, 118, 119, 120, 121, 122, 123, 124, 125, 126, 127, 128, 129, 130, 131, 132, 133, 134, 135, 136, 137, 138, 139, 140, 141, 142] (by decide +kernel) (by decide +kernel)
set_option maxRecDepth 20000 in
theorem gX0_cut_X0_pastBlankOrToken : GoodIn wsX0_cut (wsV RX0 59 RX0 yX0_pastBlankOrToken wsX0_pastBlankOrToken) := goodIn_app (goodIn_of _ (by decide +kernel)) ggX0_cut_X0_pastBlankOrToken
theorem dX0_cut_0 : decode cX0_cut 0 = .ok (.aload_n 0, 1) := by decide +kernel
theorem dX0_cut_1 : decode cX0_cut 1 = .ok (.invokevirtual 56, 3) := by decide +kernel
theorem dX0_cut_4 : decode cX0_cut 4 = .ok (.iconst 0, 1) := by decide +kernel
theorem dX0_cut_5 : decode cX0_cut 5 = .ok (.istore_n 1, 1) := by decide +kernel
theorem dX0_cut_6 : decode cX0_cut 6 = .ok (.iconst 0, 1) := by decide +kernel
theorem dX0_cut_7 : decode cX0_cut 7 = .ok (.istore_n 2, 1) := by decide +kernel
theorem dX0_cut_8 : decode cX0_cut 8 = .ok (.iload_n 2, 1) := by decide +kernel
theorem dX0_cut_9 : decode cX0_cut 9 = .ok (.aload_n 0, 1) := by decide +kernel
theorem dX0_cut_10 : decode cX0_cut 10 = .ok (.getfield 39, 3) := by decide +kernel
theorem dX0_cut_13 : decode cX0_cut 13 = .ok (.if_icmp .ge 30, 3) := by decide +kernel
theorem dX0_cut_16 : decode cX0_cut 16 = .ok (.iload_n 1, 1) := by decide +kernel
theorem dX0_cut_17 : decode cX0_cut 17 = .ok (.aload_n 0, 1) := by decide +kernel
theorem dX0_cut_18 : decode cX0_cut 18 = .ok (.getfield 39, 3) := by decide +kernel
theorem dX0_cut_21 : decode cX0_cut 21 = .ok (.if_icmp .ge 22, 3) := by decide +kernel
theorem dX0_cut_24 : decode cX0_cut 24 = .ok (.aload_n 0, 1) := by decide +kernel
theorem dX0_cut_25 : decode cX0_cut 25 = .ok (.getfield 45, 3) := by decide +kernel
theorem dX0_cut_28 : decode cX0_cut 28 = .ok (.ifCond .ge 15, 3) := by decide +kernel
theorem dX0_cut_31 : decode cX0_cut 31 = .ok (.aload_n 0, 1) := by decide +kernel
theorem dX0_cut_32 : decode cX0_cut 32 = .ok (.iload_n 1, 1) := by decide +kernel
theorem dX0_cut_33 : decode cX0_cut 33 = .ok (.invokevirtual 59, 3) := by decide +kernel
theorem dX0_cut_36 : decode cX0_cut 36 = .ok (.istore_n 1, 1) := by decide +kernel
theorem dX0_cut_37 : decode cX0_cut 37 = .ok (.iinc 2 1, 3) := by decide +kernel
theorem dX0_cut_40 : decode cX0_cut 40 = .ok (.goto (-32), 3) := by decide +kernel
theorem dX0_cut_43 : decode cX0_cut 43 = .ok (.aload_n 0, 1) := by decide +kernel
theorem dX0_cut_44 : decode cX0_cut 44 = .ok (.getfield 45, 3) := by decide +kernel
theorem dX0_cut_47 : decode cX0_cut 47 = .ok (.ifCond .ge 10, 3) := by decide +kernel
theorem dX0_cut_50 : decode cX0_cut 50 = .ok (.aload_n 0, 1) := by decide +kernel
theorem dX0_cut_51 : decode cX0_cut 51 = .ok (.getfield 48, 3) := by decide +kernel
theorem dX0_cut_54 : decode cX0_cut 54 = .ok (.goto 4, 3) := by decide +kernel
theorem dX0_cut_57 : decode cX0_cut 57 = .ok (.iconst (-1), 1) := by decide +kernel
theorem dX0_cut_58 : decode cX0_cut 58 = .ok (.ireturn, 1) := by decide +kernel
theorem dX0_place_0 : decode cX0_place 0 = .ok (.aload_n 0, 1) := by decide +kernel
theorem dX0_place_1 : decode cX0_place 1 = .ok (.getfield 45, 3) := by decide +kernel
theorem dX0_place_4 : decode cX0_place 4 = .ok (.ireturn, 1) := by decide +kernel
theorem dX0_tokens_0 : decode cX0_tokens 0 = .ok (.aload_n 0, 1) := by decide +kernel
theorem dX0_tokens_1 : decode cX0_tokens 1 = .ok (.getfield 48, 3) := by decide +kernel
theorem dX0_tokens_4 : decode cX0_tokens 4 = .ok (.ireturn, 1) := by decide +kernel
set_option maxRecDepth 20000 in
theorem ggX0_kind_X0_isToken : GoodIn wsX0_kind wsX0_isToken := goodIn_r _ [6, 7, 1, 8, 9, 10, 11, 12, 13, 14, 15, 16, 17, 18, 19, 20] (by decide +kernel) (by decide +kernel)
set_option maxRecDepth 20000 in
theorem gX0_kind_X0_isToken : GoodIn wsX0_kind (wsV RX0 63 RX0 yX0_isToken wsX0_isToken) := goodIn_app (goodIn_of _ (by decide +kernel)) ggX0_kind_X0_isToken
theorem dX0_kind_0 : decode cX0_kind 0 = .ok (.aload_n 0, 1) := by decide +kernel
theorem dX0_kind_1 : decode cX0_kind 1 = .ok (.iload_n 1, 1) := by decide +kernel
theorem dX0_kind_2 : decode cX0_kind 2 = .ok (.invokevirtual 63, 3) := by decide +kernel
theorem dX0_kind_5 : decode cX0_kind 5 = .ok (.ifCond .eq 12, 3) := by decide +kernel
theorem dX0_kind_8 : decode cX0_kind 8 = .ok (.aload_n 0, 1) := by decide +kernel
theorem dX0_kind_9 : decode cX0_kind 9 = .ok (.getfield 16, 3) := by decide +kernel
theorem dX0_kind_12 : decode cX0_kind 12 = .ok (.iload_n 1, 1) := by decide +kernel
theorem dX0_kind_13 : decode cX0_kind 13 = .ok (.iaload, 1) := by decide +kernel
theorem dX0_kind_14 : decode cX0_kind 14 = .ok (.goto 4, 3) := by decide +kernel
theorem dX0_kind_17 : decode cX0_kind 17 = .ok (.iconst 0, 1) := by decide +kernel
theorem dX0_kind_18 : decode cX0_kind 18 = .ok (.ireturn, 1) := by decide +kernel
set_option maxRecDepth 20000 in
theorem ggX0_which_X0_isOfKind : GoodIn wsX0_which wsX0_isOfKind := goodIn_r _ [6, 7, 8, 9, 10, 5, 11, 12, 13, 14, 15, 16, 17, 18, 19, 20, 21, 22, 23, 24, 25] (by decide +kernel) (by decide +kernel)
set_option maxRecDepth 20000 in
theorem gX0_which_X0_isOfKind : GoodIn wsX0_which (wsV RX0 67 RX0 yX0_isOfKind wsX0_isOfKind) := goodIn_app (goodIn_of _ (by decide +kernel)) ggX0_which_X0_isOfKind
theorem dX0_which_0 : decode cX0_which 0 = .ok (.aload_n 0, 1) := by decide +kernel
theorem dX0_which_1 : decode cX0_which 1 = .ok (.iload_n 1, 1) := by decide +kernel
theorem dX0_which_2 : decode cX0_which 2 = .ok (.iconst 4, 1) := by decide +kernel
theorem dX0_which_3 : decode cX0_which 3 = .ok (.invokevirtual 67, 3) := by decide +kernel
theorem dX0_which_6 : decode cX0_which 6 = .ok (.ifCond .ne 12, 3) := by decide +kernel
theorem dX0_which_9 : decode cX0_which 9 = .ok (.aload_n 0, 1) := by decide +kernel
theorem dX0_which_10 : decode cX0_which 10 = .ok (.iload_n 1, 1) := by decide +kernel
theorem dX0_which_11 : decode cX0_which 11 = .ok (.iconst 5, 1) := by decide +kernel
theorem dX0_which_12 : decode cX0_which 12 = .ok (.invokevirtual 67, 3) := by decide +kernel
theorem dX0_which_15 : decode cX0_which 15 = .ok (.ifCond .eq 12, 3) := by decide +kernel
theorem dX0_which_18 : decode cX0_which 18 = .ok (.aload_n 0, 1) := by decide +kernel
theorem dX0_which_19 : decode cX0_which 19 = .ok (.getfield 29, 3) := by decide +kernel
theorem dX0_which_22 : decode cX0_which 22 = .ok (.iload_n 1, 1) := by decide +kernel
theorem dX0_which_23 : decode cX0_which 23 = .ok (.iaload, 1) := by decide +kernel
theorem dX0_which_24 : decode cX0_which 24 = .ok (.goto 4, 3) := by decide +kernel
theorem dX0_which_27 : decode cX0_which 27 = .ok (.iconst (-1), 1) := by decide +kernel
theorem dX0_which_28 : decode cX0_which 28 = .ok (.ireturn, 1) := by decide +kernel
set_option maxRecDepth 20000 in
theorem ggX0_from_X0_isToken : GoodIn wsX0_from wsX0_isToken := goodIn_r _ [6, 7, 8, 9, 10, 11, 12, 13, 14, 15, 16, 17, 18, 19, 20, 21] (by decide +kernel) (by decide +kernel)
set_option maxRecDepth 20000 in
theorem gX0_from_X0_isToken : GoodIn wsX0_from (wsV RX0 63 RX0 yX0_isToken wsX0_isToken) := goodIn_app (goodIn_of _ (by decide +kernel)) ggX0_from_X0_isToken
theorem dX0_from_0 : decode cX0_from 0 = .ok (.aload_n 0, 1) := by decide +kernel
theorem dX0_from_1 : decode cX0_from 1 = .ok (.iload_n 1, 1) := by decide +kernel
theorem dX0_from_2 : decode cX0_from 2 = .ok (.invokevirtual 63, 3) := by decide +kernel
theorem dX0_from_5 : decode cX0_from 5 = .ok (.ifCond .eq 12, 3) := by decide +kernel
theorem dX0_from_8 : decode cX0_from 8 = .ok (.aload_n 0, 1) := by decide +kernel
theorem dX0_from_9 : decode cX0_from 9 = .ok (.getfield 20, 3) := by decide +kernel
theorem dX0_from_12 : decode cX0_from 12 = .ok (.iload_n 1, 1) := by decide +kernel
theorem dX0_from_13 : decode cX0_from 13 = .ok (.iaload, 1) := by decide +kernel
theorem dX0_from_14 : decode cX0_from 14 = .ok (.goto 4, 3) := by decide +kernel
theorem dX0_from_17 : decode cX0_from 17 = .ok (.iconst (-1), 1) := by decide +kernel
theorem dX0_from_18 : decode cX0_from 18 = .ok (.ireturn, 1) := by decide +kernel
set_option maxRecDepth 20000 in
theorem ggX0_length_X0_isToken : GoodIn wsX0_length wsX0_isToken := goodIn_r _ [6, 7, 8, 9, 10, 11, 12, 13, 14, 15, 16, 17, 18, 19, 20, 21] (by decide +kernel) (by decide +kernel)
set_option maxRecDepth 20000 in
theorem gX0_length_X0_isToken : GoodIn wsX0_length (wsV RX0 63 RX0 yX0_isToken wsX0_isToken) := goodIn_app (goodIn_of _ (by decide +kernel)) ggX0_length_X0_isToken
theorem dX0_length_0 : decode cX0_length 0 = .ok (.aload_n 0, 1) := by decide +kernel
theorem dX0_length_1 : decode cX0_length 1 = .ok (.iload_n 1, 1) := by decide +kernel
theorem dX0_length_2 : decode cX0_length 2 = .ok (.invokevirtual 63, 3) := by decide +kernel
theorem dX0_length_5 : decode cX0_length 5 = .ok (.ifCond .eq 12, 3) := by decide +kernel
theorem dX0_length_8 : decode cX0_length 8 = .ok (.aload_n 0, 1) := by decide +kernel
theorem dX0_length_9 : decode cX0_length 9 = .ok (.getfield 23, 3) := by decide +kernel
theorem dX0_length_12 : decode cX0_length 12 = .ok (.iload_n 1, 1) := by decide +kernel
theorem dX0_length_13 : decode cX0_length 13 = .ok (.iaload, 1) := by decide +kernel
theorem dX0_length_14 : decode cX0_length 14 = .ok (.goto 4, 3) := by decide +kernel
theorem dX0_length_17 : decode cX0_length 17 = .ok (.iconst 0, 1) := by decide +kernel
theorem dX0_length_18 : decode cX0_length 18 = .ok (.ireturn, 1) := by decide +kernel
set_option maxRecDepth 20000 in
theorem ggX0_line_X0_isToken : GoodIn wsX0_line wsX0_isToken := goodIn_r _ [6, 7, 8, 9, 10, 11, 12, 13, 14, 15, 16, 17, 18, 19, 20, 21] (by decide +kernel) (by decide +kernel)
set_option maxRecDepth 20000 in
theorem gX0_line_X0_isToken : GoodIn wsX0_line (wsV RX0 63 RX0 yX0_isToken wsX0_isToken) := goodIn_app (goodIn_of _ (by decide +kernel)) ggX0_line_X0_isToken
theorem dX0_line_0 : decode cX0_line 0 = .ok (.aload_n 0, 1) := by decide +kernel
theorem dX0_line_1 : decode cX0_line 1 = .ok (.iload_n 1, 1) := by decide +kernel
theorem dX0_line_2 : decode cX0_line 2 = .ok (.invokevirtual 63, 3) := by decide +kernel
theorem dX0_line_5 : decode cX0_line 5 = .ok (.ifCond .eq 12, 3) := by decide +kernel
theorem dX0_line_8 : decode cX0_line 8 = .ok (.aload_n 0, 1) := by decide +kernel
theorem dX0_line_9 : decode cX0_line 9 = .ok (.getfield 26, 3) := by decide +kernel
theorem dX0_line_12 : decode cX0_line 12 = .ok (.iload_n 1, 1) := by decide +kernel
theorem dX0_line_13 : decode cX0_line 13 = .ok (.iaload, 1) := by decide +kernel
theorem dX0_line_14 : decode cX0_line 14 = .ok (.goto 4, 3) := by decide +kernel
theorem dX0_line_17 : decode cX0_line 17 = .ok (.iconst 0, 1) := by decide +kernel
theorem dX0_line_18 : decode cX0_line 18 = .ok (.ireturn, 1) := by decide +kernel
set_option maxRecDepth 20000 in
theorem ggX0_worth_X0_isOfKind : GoodIn wsX0_worth wsX0_isOfKind := goodIn_r _ [6, 7, 8, 9, 10, 5, 11, 12, 13, 14, 15, 16, 17, 18, 19, 20, 21, 22, 23, 24, 25] (by decide +kernel) (by decide +kernel)
set_option maxRecDepth 20000 in
theorem gX0_worth_X0_isOfKind : GoodIn wsX0_worth (wsV RX0 67 RX0 yX0_isOfKind wsX0_isOfKind) := goodIn_app (goodIn_of _ (by decide +kernel)) ggX0_worth_X0_isOfKind
theorem dX0_worth_0 : decode cX0_worth 0 = .ok (.aload_n 0, 1) := by decide +kernel
theorem dX0_worth_1 : decode cX0_worth 1 = .ok (.iload_n 1, 1) := by decide +kernel
theorem dX0_worth_2 : decode cX0_worth 2 = .ok (.iconst 2, 1) := by decide +kernel
theorem dX0_worth_3 : decode cX0_worth 3 = .ok (.invokevirtual 67, 3) := by decide +kernel
theorem dX0_worth_6 : decode cX0_worth 6 = .ok (.ifCond .eq 12, 3) := by decide +kernel
theorem dX0_worth_9 : decode cX0_worth 9 = .ok (.aload_n 0, 1) := by decide +kernel
theorem dX0_worth_10 : decode cX0_worth 10 = .ok (.getfield 29, 3) := by decide +kernel
theorem dX0_worth_13 : decode cX0_worth 13 = .ok (.iload_n 1, 1) := by decide +kernel
theorem dX0_worth_14 : decode cX0_worth 14 = .ok (.iaload, 1) := by decide +kernel
theorem dX0_worth_15 : decode cX0_worth 15 = .ok (.goto 4, 3) := by decide +kernel
theorem dX0_worth_18 : decode cX0_worth 18 = .ok (.iconst 0, 1) := by decide +kernel
theorem dX0_worth_19 : decode cX0_worth 19 = .ok (.ireturn, 1) := by decide +kernel
set_option maxRecDepth 20000 in
theorem ggX0_codes_X0_isOfKind : GoodIn wsX0_codes wsX0_isOfKind := goodIn_r _ [6, 7, 8, 9, 10, 5, 11, 12, 13, 14, 15, 16, 17, 18, 19, 20, 21, 22, 23, 24, 25] (by decide +kernel) (by decide +kernel)
set_option maxRecDepth 20000 in
theorem gX0_codes_X0_isOfKind : GoodIn wsX0_codes (wsV RX0 67 RX0 yX0_isOfKind wsX0_isOfKind) := goodIn_app (goodIn_of _ (by decide +kernel)) ggX0_codes_X0_isOfKind
theorem dX0_codes_0 : decode cX0_codes 0 = .ok (.aload_n 0, 1) := by decide +kernel
theorem dX0_codes_1 : decode cX0_codes 1 = .ok (.iload_n 1, 1) := by decide +kernel
theorem dX0_codes_2 : decode cX0_codes 2 = .ok (.iconst 3, 1) := by decide +kernel
theorem dX0_codes_3 : decode cX0_codes 3 = .ok (.invokevirtual 67, 3) := by decide +kernel
theorem dX0_codes_6 : decode cX0_codes 6 = .ok (.ifCond .eq 12, 3) := by decide +kernel
theorem dX0_codes_9 : decode cX0_codes 9 = .ok (.aload_n 0, 1) := by decide +kernel
theorem dX0_codes_10 : decode cX0_codes 10 = .ok (.getfield 29, 3) := by decide +kernel
theorem dX0_codes_13 : decode cX0_codes 13 = .ok (.iload_n 1, 1) := by decide +kernel
theorem dX0_codes_14 : decode cX0_codes 14 = .ok (.iaload, 1) := by decide +kernel
theorem dX0_codes_15 : decode cX0_codes 15 = .ok (.goto 4, 3) := by decide +kernel
theorem dX0_codes_18 : decode cX0_codes 18 = .ok (.iconst (-1), 1) := by decide +kernel
theorem dX0_codes_19 : decode cX0_codes 19 = .ok (.ireturn, 1) := by decide +kernel
set_option maxRecDepth 20000 in
theorem ggX0_code_X0_isOfKind : GoodIn wsX0_code wsX0_isOfKind := goodIn_r _ [7, 8, 9, 10, 11, 6, 12, 13, 31, 32, 33, 34, 35, 36, 37, 38, 39, 40, 41, 42, 43] (by decide +kernel) (by decide +kernel)
set_option maxRecDepth 20000 in
theorem gX0_code_X0_isOfKind : GoodIn wsX0_code (wsV RX0 67 RX0 yX0_isOfKind wsX0_isOfKind) := goodIn_app (goodIn_of _ (by decide +kernel)) ggX0_code_X0_isOfKind
set_option maxRecDepth 20000 in
theorem ggX0_code_X0_codeWidth : GoodIn wsX0_code wsX0_codeWidth := goodIn_r _ [17, 18, 19, 20, 6, 21, 22, 23, 24, 25, 26, 31, 32, 33, 34, 35, 36, 37, 38, 39, 40, 41, 42, 43] (by decide +kernel) (by decide +kernel)
set_option maxRecDepth 20000 in
theorem gX0_code_X0_codeWidth : GoodIn wsX0_code (wsV RX0 71 RX0 yX0_codeWidth wsX0_codeWidth) := goodIn_app (goodIn_of _ (by decide +kernel)) ggX0_code_X0_codeWidth
set_option maxRecDepth 20000 in
theorem ggX0_code_X0_codeAt : GoodIn wsX0_code wsX0_codeAt := goodIn_r _ [30, 18, 19, 20, 6, 21, 22, 23, 24, 25, 26, 31, 32, 33, 34, 35, 36, 37, 38, 39, 40, 41, 42, 43] (by decide +kernel) (by decide +kernel)
set_option maxRecDepth 20000 in
theorem gX0_code_X0_codeAt : GoodIn wsX0_code (wsV RX0 75 RX0 yX0_codeAt wsX0_codeAt) := goodIn_app (goodIn_of _ (by decide +kernel)) ggX0_code_X0_codeAt
theorem dX0_code_0 : decode cX0_code 0 = .ok (.aload_n 0, 1) := by decide +kernel
theorem dX0_code_1 : decode cX0_code 1 = .ok (.iload_n 1, 1) := by decide +kernel
theorem dX0_code_2 : decode cX0_code 2 = .ok (.iconst 3, 1) := by decide +kernel
theorem dX0_code_3 : decode cX0_code 3 = .ok (.invokevirtual 67, 3) := by decide +kernel
theorem dX0_code_6 : decode cX0_code 6 = .ok (.ifCond .eq 17, 3) := by decide +kernel
theorem dX0_code_9 : decode cX0_code 9 = .ok (.iload_n 2, 1) := by decide +kernel
theorem dX0_code_10 : decode cX0_code 10 = .ok (.ifCond .lt 13, 3) := by decide +kernel
theorem dX0_code_13 : decode cX0_code 13 = .ok (.iload_n 2, 1) := by decide +kernel
theorem dX0_code_14 : decode cX0_code 14 = .ok (.aload_n 0, 1) := by decide +kernel
theorem dX0_code_15 : decode cX0_code 15 = .ok (.getfield 29, 3) := by decide +kernel
theorem dX0_code_18 : decode cX0_code 18 = .ok (.iload_n 1, 1) := by decide +kernel
theorem dX0_code_19 : decode cX0_code 19 = .ok (.iaload, 1) := by decide +kernel
theorem dX0_code_20 : decode cX0_code 20 = .ok (.if_icmp .lt 5, 3) := by decide +kernel
theorem dX0_code_23 : decode cX0_code 23 = .ok (.iconst (-1), 1) := by decide +kernel
theorem dX0_code_24 : decode cX0_code 24 = .ok (.ireturn, 1) := by decide +kernel
theorem dX0_code_25 : decode cX0_code 25 = .ok (.aload_n 0, 1) := by decide +kernel
theorem dX0_code_26 : decode cX0_code 26 = .ok (.getfield 20, 3) := by decide +kernel
theorem dX0_code_29 : decode cX0_code 29 = .ok (.iload_n 1, 1) := by decide +kernel
theorem dX0_code_30 : decode cX0_code 30 = .ok (.iaload, 1) := by decide +kernel
theorem dX0_code_31 : decode cX0_code 31 = .ok (.iconst 1, 1) := by decide +kernel
theorem dX0_code_32 : decode cX0_code 32 = .ok (.iadd, 1) := by decide +kernel
theorem dX0_code_33 : decode cX0_code 33 = .ok (.istore_n 3, 1) := by decide +kernel
theorem dX0_code_34 : decode cX0_code 34 = .ok (.iconst 0, 1) := by decide +kernel
theorem dX0_code_35 : decode cX0_code 35 = .ok (.istore 4, 2) := by decide +kernel
theorem dX0_code_37 : decode cX0_code 37 = .ok (.iload 4, 2) := by decide +kernel
theorem dX0_code_39 : decode cX0_code 39 = .ok (.iload_n 2, 1) := by decide +kernel
theorem dX0_code_40 : decode cX0_code 40 = .ok (.if_icmp .ge 19, 3) := by decide +kernel
theorem dX0_code_43 : decode cX0_code 43 = .ok (.iload_n 3, 1) := by decide +kernel
theorem dX0_code_44 : decode cX0_code 44 = .ok (.aload_n 0, 1) := by decide +kernel
theorem dX0_code_45 : decode cX0_code 45 = .ok (.iload_n 3, 1) := by decide +kernel
theorem dX0_code_46 : decode cX0_code 46 = .ok (.bipush 34, 2) := by decide +kernel
theorem dX0_code_48 : decode cX0_code 48 = .ok (.invokevirtual 71, 3) := by decide +kernel
theorem dX0_code_51 : decode cX0_code 51 = .ok (.iadd, 1) := by decide +kernel
theorem dX0_code_52 : decode cX0_code 52 = .ok (.istore_n 3, 1) := by decide +kernel
theorem dX0_code_53 : decode cX0_code 53 = .ok (.iinc 4 1, 3) := by decide +kernel
theorem dX0_code_56 : decode cX0_code 56 = .ok (.goto (-19), 3) := by decide +kernel
theorem dX0_code_59 : decode cX0_code 59 = .ok (.aload_n 0, 1) := by decide +kernel
theorem dX0_code_60 : decode cX0_code 60 = .ok (.iload_n 3, 1) := by decide +kernel
theorem dX0_code_61 : decode cX0_code 61 = .ok (.invokevirtual 75, 3) := by decide +kernel
theorem dX0_code_64 : decode cX0_code 64 = .ok (.ireturn, 1) := by decide +kernel
set_option maxRecDepth 20000 in
theorem ggX0_same_X0_isToken : GoodIn wsX0_same wsX0_isToken := goodIn_r _ [7, 8, 9, 16, 17, 18, 19, 20, 21, 22, 23, 24, 25, 26, 27, 28] (by decide +kernel) (by decide +kernel)
set_option maxRecDepth 20000 in
theorem gX0_same_X0_isToken : GoodIn wsX0_same (wsV RX0 63 RX0 yX0_isToken wsX0_isToken) := goodIn_app (goodIn_of _ (by decide +kernel)) ggX0_same_X0_isToken
set_option maxRecDepth 20000 in
theorem ggX0_same_X0_byteAt : GoodIn wsX0_same wsX0_byteAt := goodIn_r _ [13, 14, 15, 16, 17, 18, 19, 20, 21, 22, 23, 24, 25, 26, 27, 28] (by decide +kernel) (by decide +kernel)
set_option maxRecDepth 20000 in
theorem gX0_same_X0_byteAt : GoodIn wsX0_same (wsV RX0 78 RX0 yX0_byteAt wsX0_byteAt) := goodIn_app (goodIn_of _ (by decide +kernel)) ggX0_same_X0_byteAt
theorem dX0_same_0 : decode cX0_same 0 = .ok (.aload_n 0, 1) := by decide +kernel
theorem dX0_same_1 : decode cX0_same 1 = .ok (.iload_n 1, 1) := by decide +kernel
theorem dX0_same_2 : decode cX0_same 2 = .ok (.invokevirtual 63, 3) := by decide +kernel
theorem dX0_same_5 : decode cX0_same 5 = .ok (.ifCond .eq 26, 3) := by decide +kernel
theorem dX0_same_8 : decode cX0_same 8 = .ok (.aload_n 0, 1) := by decide +kernel
theorem dX0_same_9 : decode cX0_same 9 = .ok (.iload_n 2, 1) := by decide +kernel
theorem dX0_same_10 : decode cX0_same 10 = .ok (.invokevirtual 63, 3) := by decide +kernel
theorem dX0_same_13 : decode cX0_same 13 = .ok (.ifCond .eq 18, 3) := by decide +kernel
theorem dX0_same_16 : decode cX0_same 16 = .ok (.aload_n 0, 1) := by decide +kernel
theorem dX0_same_17 : decode cX0_same 17 = .ok (.getfield 23, 3) := by decide +kernel
theorem dX0_same_20 : decode cX0_same 20 = .ok (.iload_n 1, 1) := by decide +kernel
theorem dX0_same_21 : decode cX0_same 21 = .ok (.iaload, 1) := by decide +kernel
theorem dX0_same_22 : decode cX0_same 22 = .ok (.aload_n 0, 1) := by decide +kernel
theorem dX0_same_23 : decode cX0_same 23 = .ok (.getfield 23, 3) := by decide +kernel
theorem dX0_same_26 : decode cX0_same 26 = .ok (.iload_n 2, 1) := by decide +kernel
theorem dX0_same_27 : decode cX0_same 27 = .ok (.iaload, 1) := by decide +kernel
theorem dX0_same_28 : decode cX0_same 28 = .ok (.if_icmp .eq 5, 3) := by decide +kernel
theorem dX0_same_31 : decode cX0_same 31 = .ok (.iconst 0, 1) := by decide +kernel
theorem dX0_same_32 : decode cX0_same 32 = .ok (.ireturn, 1) := by decide +kernel
theorem dX0_same_33 : decode cX0_same 33 = .ok (.iconst 0, 1) := by decide +kernel
theorem dX0_same_34 : decode cX0_same 34 = .ok (.istore_n 3, 1) := by decide +kernel
theorem dX0_same_35 : decode cX0_same 35 = .ok (.iload_n 3, 1) := by decide +kernel
theorem dX0_same_36 : decode cX0_same 36 = .ok (.aload_n 0, 1) := by decide +kernel
theorem dX0_same_37 : decode cX0_same 37 = .ok (.getfield 23, 3) := by decide +kernel
theorem dX0_same_40 : decode cX0_same 40 = .ok (.iload_n 1, 1) := by decide +kernel
theorem dX0_same_41 : decode cX0_same 41 = .ok (.iaload, 1) := by decide +kernel
theorem dX0_same_42 : decode cX0_same 42 = .ok (.if_icmp .ge 38, 3) := by decide +kernel
theorem dX0_same_45 : decode cX0_same 45 = .ok (.aload_n 0, 1) := by decide +kernel
theorem dX0_same_46 : decode cX0_same 46 = .ok (.aload_n 0, 1) := by decide +kernel
theorem dX0_same_47 : decode cX0_same 47 = .ok (.getfield 20, 3) := by decide +kernel
theorem dX0_same_50 : decode cX0_same 50 = .ok (.iload_n 1, 1) := by decide +kernel
theorem dX0_same_51 : decode cX0_same 51 = .ok (.iaload, 1) := by decide +kernel
theorem dX0_same_52 : decode cX0_same 52 = .ok (.iload_n 3, 1) := by decide +kernel
theorem dX0_same_53 : decode cX0_same 53 = .ok (.iadd, 1) := by decide +kernel
theorem dX0_same_54 : decode cX0_same 54 = .ok (.invokevirtual 78, 3) := by decide +kernel
theorem dX0_same_57 : decode cX0_same 57 = .ok (.aload_n 0, 1) := by decide +kernel
theorem dX0_same_58 : decode cX0_same 58 = .ok (.aload_n 0, 1) := by decide +kernel
theorem dX0_same_59 : decode cX0_same 59 = .ok (.getfield 20, 3) := by decide +kernel
theorem dX0_same_62 : decode cX0_same 62 = .ok (.iload_n 2, 1) := by decide +kernel
theorem dX0_same_63 : decode cX0_same 63 = .ok (.iaload, 1) := by decide +kernel
theorem dX0_same_64 : decode cX0_same 64 = .ok (.iload_n 3, 1) := by decide +kernel
theorem dX0_same_65 : decode cX0_same 65 = .ok (.iadd, 1) := by decide +kernel
theorem dX0_same_66 : decode cX0_same 66 = .ok (.invokevirtual 78, 3) := by decide +kernel
theorem dX0_same_69 : decode cX0_same 69 = .ok (.if_icmp .eq 5, 3) := by decide +kernel
theorem dX0_same_72 : decode cX0_same 72 = .ok (.iconst 0, 1) := by decide +kernel
theorem dX0_same_73 : decode cX0_same 73 = .ok (.ireturn, 1) := by decide +kernel
theorem dX0_same_74 : decode cX0_same 74 = .ok (.iinc 3 1, 3) := by decide +kernel
theorem dX0_same_77 : decode cX0_same 77 = .ok (.goto (-42), 3) := by decide +kernel
theorem dX0_same_80 : decode cX0_same 80 = .ok (.iconst 1, 1) := by decide +kernel
theorem dX0_same_81 : decode cX0_same 81 = .ok (.ireturn, 1) := by decide +kernel
set_option maxRecDepth 20000 in
theorem ggX0_putInt_X0_putByte : GoodIn wsX0_putInt wsX0_putByte := goodIn_r _ [5, 6, 7, 8, 9, 10, 11, 12, 13, 14, 15, 16, 17, 18, 19, 20] (by decide +kernel) (by decide +kernel)
set_option maxRecDepth 20000 in
theorem gX0_putInt_X0_putByte : GoodIn wsX0_putInt (wsV RX0 81 RX0 yX0_putByte wsX0_putByte) := goodIn_app (goodIn_of _ (by decide +kernel)) ggX0_putInt_X0_putByte
theorem dX0_putInt_0 : decode cX0_putInt 0 = .ok (.aload_n 0, 1) := by decide +kernel
theorem dX0_putInt_1 : decode cX0_putInt 1 = .ok (.iload_n 1, 1) := by decide +kernel
theorem dX0_putInt_2 : decode cX0_putInt 2 = .ok (.bipush 24, 2) := by decide +kernel
theorem dX0_putInt_4 : decode cX0_putInt 4 = .ok (.iushr, 1) := by decide +kernel
theorem dX0_putInt_5 : decode cX0_putInt 5 = .ok (.invokevirtual 81, 3) := by decide +kernel
theorem dX0_putInt_8 : decode cX0_putInt 8 = .ok (.aload_n 0, 1) := by decide +kernel
theorem dX0_putInt_9 : decode cX0_putInt 9 = .ok (.iload_n 1, 1) := by decide +kernel
theorem dX0_putInt_10 : decode cX0_putInt 10 = .ok (.bipush 16, 2) := by decide +kernel
theorem dX0_putInt_12 : decode cX0_putInt 12 = .ok (.iushr, 1) := by decide +kernel
theorem dX0_putInt_13 : decode cX0_putInt 13 = .ok (.invokevirtual 81, 3) := by decide +kernel
theorem dX0_putInt_16 : decode cX0_putInt 16 = .ok (.aload_n 0, 1) := by decide +kernel
theorem dX0_putInt_17 : decode cX0_putInt 17 = .ok (.iload_n 1, 1) := by decide +kernel
theorem dX0_putInt_18 : decode cX0_putInt 18 = .ok (.bipush 8, 2) := by decide +kernel
theorem dX0_putInt_20 : decode cX0_putInt 20 = .ok (.iushr, 1) := by decide +kernel
theorem dX0_putInt_21 : decode cX0_putInt 21 = .ok (.invokevirtual 81, 3) := by decide +kernel
theorem dX0_putInt_24 : decode cX0_putInt 24 = .ok (.aload_n 0, 1) := by decide +kernel
theorem dX0_putInt_25 : decode cX0_putInt 25 = .ok (.iload_n 1, 1) := by decide +kernel
theorem dX0_putInt_26 : decode cX0_putInt 26 = .ok (.invokevirtual 81, 3) := by decide +kernel
theorem dX0_putInt_29 : decode cX0_putInt 29 = .ok (.return_, 1) := by decide +kernel
theorem dX0_putByte_0 : decode cX0_putByte 0 = .ok (.aload_n 0, 1) := by decide +kernel
theorem dX0_putByte_1 : decode cX0_putByte 1 = .ok (.getfield 32, 3) := by decide +kernel
theorem dX0_putByte_4 : decode cX0_putByte 4 = .ok (.ifCond .lt 36, 3) := by decide +kernel
theorem dX0_putByte_7 : decode cX0_putByte 7 = .ok (.aload_n 0, 1) := by decide +kernel
theorem dX0_putByte_8 : decode cX0_putByte 8 = .ok (.getfield 32, 3) := by decide +kernel
theorem dX0_putByte_11 : decode cX0_putByte 11 = .ok (.aload_n 0, 1) := by decide +kernel
theorem dX0_putByte_12 : decode cX0_putByte 12 = .ok (.getfield 9, 3) := by decide +kernel
theorem dX0_putByte_15 : decode cX0_putByte 15 = .ok (.arraylength, 1) := by decide +kernel
theorem dX0_putByte_16 : decode cX0_putByte 16 = .ok (.if_icmp .ge 24, 3) := by decide +kernel
theorem dX0_putByte_19 : decode cX0_putByte 19 = .ok (.aload_n 0, 1) := by decide +kernel
theorem dX0_putByte_20 : decode cX0_putByte 20 = .ok (.getfield 9, 3) := by decide +kernel
theorem dX0_putByte_23 : decode cX0_putByte 23 = .ok (.aload_n 0, 1) := by decide +kernel
theorem dX0_putByte_24 : decode cX0_putByte 24 = .ok (.getfield 32, 3) := by decide +kernel
theorem dX0_putByte_27 : decode cX0_putByte 27 = .ok (.iload_n 1, 1) := by decide +kernel
theorem dX0_putByte_28 : decode cX0_putByte 28 = .ok (.i2b, 1) := by decide +kernel
theorem dX0_putByte_29 : decode cX0_putByte 29 = .ok (.bastore, 1) := by decide +kernel
theorem dX0_putByte_30 : decode cX0_putByte 30 = .ok (.aload_n 0, 1) := by decide +kernel
theorem dX0_putByte_31 : decode cX0_putByte 31 = .ok (.dup, 1) := by decide +kernel
theorem dX0_putByte_32 : decode cX0_putByte 32 = .ok (.getfield 32, 3) := by decide +kernel
theorem dX0_putByte_35 : decode cX0_putByte 35 = .ok (.iconst 1, 1) := by decide +kernel
theorem dX0_putByte_36 : decode cX0_putByte 36 = .ok (.iadd, 1) := by decide +kernel
theorem dX0_putByte_37 : decode cX0_putByte 37 = .ok (.putfield 32, 3) := by decide +kernel
theorem dX0_putByte_40 : decode cX0_putByte 40 = .ok (.return_, 1) := by decide +kernel
theorem dX0_takeTray_0 : decode cX0_takeTray 0 = .ok (.aload_n 0, 1) := by decide +kernel
theorem dX0_takeTray_1 : decode cX0_takeTray 1 = .ok (.getfield 13, 3) := by decide +kernel
theorem dX0_takeTray_4 : decode cX0_takeTray 4 = .ok (.astore_n 1, 1) := by decide +kernel
theorem dX0_takeTray_5 : decode cX0_takeTray 5 = .ok (.aload_n 0, 1) := by decide +kernel
theorem dX0_takeTray_6 : decode cX0_takeTray 6 = .ok (.aload_n 0, 1) := by decide +kernel
theorem dX0_takeTray_7 : decode cX0_takeTray 7 = .ok (.getfield 9, 3) := by decide +kernel
theorem dX0_takeTray_10 : decode cX0_takeTray 10 = .ok (.putfield 13, 3) := by decide +kernel
theorem dX0_takeTray_13 : decode cX0_takeTray 13 = .ok (.aload_n 0, 1) := by decide +kernel
theorem dX0_takeTray_14 : decode cX0_takeTray 14 = .ok (.aload_n 0, 1) := by decide +kernel
theorem dX0_takeTray_15 : decode cX0_takeTray 15 = .ok (.getfield 32, 3) := by decide +kernel
theorem dX0_takeTray_18 : decode cX0_takeTray 18 = .ok (.putfield 39, 3) := by decide +kernel
theorem dX0_takeTray_21 : decode cX0_takeTray 21 = .ok (.aload_n 0, 1) := by decide +kernel
theorem dX0_takeTray_22 : decode cX0_takeTray 22 = .ok (.aload_n 1, 1) := by decide +kernel
theorem dX0_takeTray_23 : decode cX0_takeTray 23 = .ok (.putfield 9, 3) := by decide +kernel
theorem dX0_takeTray_26 : decode cX0_takeTray 26 = .ok (.aload_n 0, 1) := by decide +kernel
theorem dX0_takeTray_27 : decode cX0_takeTray 27 = .ok (.iconst 0, 1) := by decide +kernel
theorem dX0_takeTray_28 : decode cX0_takeTray 28 = .ok (.putfield 32, 3) := by decide +kernel
theorem dX0_takeTray_31 : decode cX0_takeTray 31 = .ok (.aload_n 0, 1) := by decide +kernel
theorem dX0_takeTray_32 : decode cX0_takeTray 32 = .ok (.iconst 1, 1) := by decide +kernel
theorem dX0_takeTray_33 : decode cX0_takeTray 33 = .ok (.putfield 42, 3) := by decide +kernel
theorem dX0_takeTray_36 : decode cX0_takeTray 36 = .ok (.aload_n 0, 1) := by decide +kernel
theorem dX0_takeTray_37 : decode cX0_takeTray 37 = .ok (.iconst (-1), 1) := by decide +kernel
theorem dX0_takeTray_38 : decode cX0_takeTray 38 = .ok (.putfield 45, 3) := by decide +kernel
theorem dX0_takeTray_41 : decode cX0_takeTray 41 = .ok (.aload_n 0, 1) := by decide +kernel
theorem dX0_takeTray_42 : decode cX0_takeTray 42 = .ok (.iconst 0, 1) := by decide +kernel
theorem dX0_takeTray_43 : decode cX0_takeTray 43 = .ok (.putfield 48, 3) := by decide +kernel
theorem dX0_takeTray_46 : decode cX0_takeTray 46 = .ok (.return_, 1) := by decide +kernel
set_option maxRecDepth 20000 in
theorem ggX0_pastBlankOrToken_X0_byteAt : GoodIn wsX0_pastBlankOrToken wsX0_byteAt := goodIn_r _ [5, 6, 7, 120, 121, 122, 123, 124, 125, 126, 127, 128, 129, 130, 131, 132] (by decide +kernel) (by decide +kernel)
set_option maxRecDepth 20000 in
theorem gX0_pastBlankOrToken_X0_byteAt : GoodIn wsX0_pastBlankOrToken (wsV RX0 78 RX0 yX0_byteAt wsX0_byteAt) := goodIn_app (goodIn_of _ (by decide +kernel)) ggX0_pastBlankOrToken_X0_byteAt
set_option maxRecDepth 20000 in
theorem ggX0_pastBlankOrToken_X0_isBlankByte : GoodIn wsX0_pastBlankOrToken wsX0_isBlankByte := goodIn_r _ [10] (by decide +kernel) (by decide +kernel)
set_option maxRecDepth 20000 in
theorem gX0_pastBlankOrToken_X0_isBlankByte : GoodIn wsX0_pastBlankOrToken (va_wsS RX0 84 yX0_isBlankByte wsX0_isBlankByte) := goodIn_app (goodIn_of _ (by decide +kernel)) ggX0_pastBlankOrToken_X0_isBlankByte
set_option maxRecDepth 20000 in
theorem ggX0_pastBlankOrToken_X0_countLine : GoodIn wsX0_pastBlankOrToken wsX0_countLine := goodIn_r _ [14, 15, 120, 121, 122, 123, 124, 125, 126, 127, 128, 129, 130, 131, 132] (by decide +kernel) (by decide +kernel)
set_option maxRecDepth 20000 in
theorem gX0_pastBlankOrToken_X0_countLine : GoodIn wsX0_pastBlankOrToken (wsV RX0 87 RX0 yX0_countLine wsX0_countLine) := goodIn_app (goodIn_of _ (by decide +kernel)) ggX0_pastBlankOrToken_X0_countLine
set_option maxRecDepth 20000 in
theorem ggX0_pastBlankOrToken_X0_pastLineComment : GoodIn wsX0_pastBlankOrToken wsX0_pastLineComment := goodIn_r _ [19, 6, 1, 2, 3, 4, 5, 7, 20, 21, 22, 8, 9, 10, 23, 24, 25, 26, 27, 120, 121, 122, 123, 124, 125, 126, 127, 128, 129, 130, 131, 132] (by decide +kernel) (by decide +kernel)
set_option maxRecDepth 20000 in
theorem gX0_pastBlankOrToken_X0_pastLineComment : GoodIn wsX0_pastBlankOrToken (wsV RX0 90 RX0 yX0_pastLineComment wsX0_pastLineComment) := goodIn_app (goodIn_of _ (by decide +kernel)) ggX0_pastBlankOrToken_X0_pastLineComment
set_option maxRecDepth 20000 in
theorem ggX0_pastBlankOrToken_X0_pastStarComment : GoodIn wsX0_pastBlankOrToken wsX0_pastStarComment := goodIn_r _ [31, 6, 1, 2, 3, 4, 5, 7, 20, 21, 22, 8, 9, 10, 23, 24, 25, 26, 27, 11, 12, 13, 14, 15, 120, 121, 122, 123, 124, 125, 126, 127, 128, 129, 130, 131, 132] (by decide +kernel) (by decide +kernel)
set_option maxRecDepth 20000 in
theorem gX0_pastBlankOrToken_X0_pastStarComment : GoodIn wsX0_pastBlankOrToken (wsV RX0 93 RX0 yX0_pastStarComment wsX0_pastStarComment) := goodIn_app (goodIn_of _ (by decide +kernel)) ggX0_pastBlankOrToken_X0_pastStarComment
set_option maxRecDepth 20000 in
theorem ggX0_pastBlankOrToken_X0_isLetter : GoodIn wsX0_pastBlankOrToken wsX0_isLetter := goodIn_r _ [34] (by decide +kernel) (by decide +kernel)
set_option maxRecDepth 20000 in
theorem gX0_pastBlankOrToken_X0_isLetter : GoodIn wsX0_pastBlankOrToken (va_wsS RX0 96 yX0_isLetter wsX0_isLetter) := goodIn_app (goodIn_of _ (by decide +kernel)) ggX0_pastBlankOrToken_X0_isLetter
set_option maxRecDepth 20000 in
theorem ggX0_pastBlankOrToken_X0_pastName : GoodIn wsX0_pastBlankOrToken wsX0_pastName := goodIn_r _ [38, 6, 1, 2, 3, 4, 5, 7, 39, 40, 41, 32, 33, 34, 42, 43, 44, 23, 24, 25, 26, 27, 45, 46, 47, 48, 49, 50, 51, 52, 53, 54, 55, 56, 57, 58, 59, 15, 120, 121, 122, 123, 124, 125, 126, 127, 128, 129, 130, 131, 132] (by decide +kernel) (by decide +kernel)
set_option maxRecDepth 20000 in
theorem gX0_pastBlankOrToken_X0_pastName : GoodIn wsX0_pastBlankOrToken (wsV RX0 99 RX0 yX0_pastName wsX0_pastName) := goodIn_app (goodIn_of _ (by decide +kernel)) ggX0_pastBlankOrToken_X0_pastName
set_option maxRecDepth 20000 in
theorem ggX0_pastBlankOrToken_X0_isDigit : GoodIn wsX0_pastBlankOrToken wsX0_isDigit := goodIn_r _ [44] (by decide +kernel) (by decide +kernel)
set_option maxRecDepth 20000 in
theorem gX0_pastBlankOrToken_X0_isDigit : GoodIn wsX0_pastBlankOrToken (va_wsS RX0 102 yX0_isDigit wsX0_isDigit) := goodIn_app (goodIn_of _ (by decide +kernel)) ggX0_pastBlankOrToken_X0_isDigit
set_option maxRecDepth 20000 in
theorem ggX0_pastBlankOrToken_X0_isHexNumber : GoodIn wsX0_pastBlankOrToken wsX0_isHexNumber := goodIn_r _ [63, 1, 2, 3, 4, 5, 6, 7, 64, 65, 66, 42, 43, 44, 120, 121, 122, 123, 124, 125, 126, 127, 128, 129, 130, 131, 132] (by decide +kernel) (by decide +kernel)
set_option maxRecDepth 20000 in
theorem gX0_pastBlankOrToken_X0_isHexNumber : GoodIn wsX0_pastBlankOrToken (wsV RX0 105 RX0 yX0_isHexNumber wsX0_isHexNumber) := goodIn_app (goodIn_of _ (by decide +kernel)) ggX0_pastBlankOrToken_X0_isHexNumber
set_option maxRecDepth 20000 in
theorem ggX0_pastBlankOrToken_X0_pastHexNumber : GoodIn wsX0_pastBlankOrToken wsX0_pastHexNumber := goodIn_r _ [70, 6, 1, 2, 3, 4, 5, 7, 64, 65, 66, 42, 43, 44, 23, 24, 25, 26, 27, 50, 51, 52, 53, 54, 55, 56, 57, 58, 59, 15, 120, 121, 122, 123, 124, 125, 126, 127, 128, 129, 130, 131, 132] (by decide +kernel) (by decide +kernel)
set_option maxRecDepth 20000 in
theorem gX0_pastBlankOrToken_X0_pastHexNumber : GoodIn wsX0_pastBlankOrToken (wsV RX0 108 RX0 yX0_pastHexNumber wsX0_pastHexNumber) := goodIn_app (goodIn_of _ (by decide +kernel)) ggX0_pastBlankOrToken_X0_pastHexNumber
set_option maxRecDepth 20000 in
theorem ggX0_pastBlankOrToken_X0_pastDigits : GoodIn wsX0_pastBlankOrToken wsX0_pastDigits := goodIn_r _ [74, 6, 75, 76, 77, 78, 79, 80, 81, 1, 2, 3, 4, 5, 7, 42, 43, 44, 23, 24, 25, 26, 27, 50, 51, 52, 53, 54, 55, 56, 57, 58, 59, 15, 120, 121, 122, 123, 124, 125, 126, 127, 128, 129, 130, 131, 132] (by decide +kernel) (by decide +kernel)
set_option maxRecDepth 20000 in
theorem gX0_pastBlankOrToken_X0_pastDigits : GoodIn wsX0_pastBlankOrToken (wsV RX0 111 RX0 yX0_pastDigits wsX0_pastDigits) := goodIn_app (goodIn_of _ (by decide +kernel)) ggX0_pastBlankOrToken_X0_pastDigits
set_option maxRecDepth 20000 in
theorem ggX0_pastBlankOrToken_X0_pastQuotedCode : GoodIn wsX0_pastBlankOrToken wsX0_pastQuotedCode := goodIn_r _ [85, 86, 87, 88, 4, 89, 1, 2, 3, 5, 6, 7, 90, 91, 92, 23, 24, 25, 26, 27, 93, 94, 95, 96, 50, 51, 52, 53, 54, 55, 56, 57, 58, 59, 15, 120, 121, 122, 123, 124, 125, 126, 127, 128, 129, 130, 131, 132] (by decide +kernel) (by decide +kernel)
set_option maxRecDepth 20000 in
theorem gX0_pastBlankOrToken_X0_pastQuotedCode : GoodIn wsX0_pastBlankOrToken (wsV RX0 114 RX0 yX0_pastQuotedCode wsX0_pastQuotedCode) := goodIn_app (goodIn_of _ (by decide +kernel)) ggX0_pastBlankOrToken_X0_pastQuotedCode
set_option maxRecDepth 20000 in
theorem ggX0_pastBlankOrToken_X0_pastString : GoodIn wsX0_pastBlankOrToken wsX0_pastString := goodIn_r _ [100, 1, 2, 3, 4, 5, 6, 7, 50, 51, 52, 53, 54, 55, 56, 57, 58, 59, 15, 86, 87, 88, 89, 90, 91, 92, 23, 24, 25, 26, 27, 120, 121, 122, 123, 124, 125, 126, 127, 128, 129, 130, 131, 132] (by decide +kernel) (by decide +kernel)
set_option maxRecDepth 20000 in
theorem gX0_pastBlankOrToken_X0_pastString : GoodIn wsX0_pastBlankOrToken (wsV RX0 117 RX0 yX0_pastString wsX0_pastString) := goodIn_app (goodIn_of _ (by decide +kernel)) ggX0_pastBlankOrToken_X0_pastString
set_option maxRecDepth 20000 in
theorem ggX0_pastBlankOrToken_X0_pastSign : GoodIn wsX0_pastBlankOrToken wsX0_pastSign := goodIn_r _ [104, 1, 2, 3, 4, 5, 6, 7, 105, 106, 107, 50, 51, 52, 53, 54, 55, 56, 57, 58, 59, 15, 108, 109, 110, 111, 112, 113, 114, 115, 116, 117, 118, 119, 23, 24, 25, 26, 27, 120, 121, 122, 123, 124, 125, 126, 127, 128, 129, 130, 131, 132] (by decide +kernel) (by decide +kernel)
set_option maxRecDepth 20000 in
theorem gX0_pastBlankOrToken_X0_pastSign : GoodIn wsX0_pastBlankOrToken (wsV RX0 120 RX0 yX0_pastSign wsX0_pastSign) := goodIn_app (goodIn_of _ (by decide +kernel)) ggX0_pastBlankOrToken_X0_pastSign
theorem dX0_pastBlankOrToken_0 : decode cX0_pastBlankOrToken 0 = .ok (.aload_n 0, 1) := by decide +kernel
theorem dX0_pastBlankOrToken_1 : decode cX0_pastBlankOrToken 1 = .ok (.iload_n 1, 1) := by decide +kernel
theorem dX0_pastBlankOrToken_2 : decode cX0_pastBlankOrToken 2 = .ok (.invokevirtual 78, 3) := by decide +kernel
theorem dX0_pastBlankOrToken_5 : decode cX0_pastBlankOrToken 5 = .ok (.istore_n 2, 1) := by decide +kernel
theorem dX0_pastBlankOrToken_6 : decode cX0_pastBlankOrToken 6 = .ok (.iload_n 2, 1) := by decide +kernel
theorem dX0_pastBlankOrToken_7 : decode cX0_pastBlankOrToken 7 = .ok (.invokestatic 84, 3) := by decide +kernel
theorem dX0_pastBlankOrToken_10 : decode cX0_pastBlankOrToken 10 = .ok (.ifCond .eq 12, 3) := by decide +kernel
theorem dX0_pastBlankOrToken_13 : decode cX0_pastBlankOrToken 13 = .ok (.aload_n 0, 1) := by decide +kernel
theorem dX0_pastBlankOrToken_14 : decode cX0_pastBlankOrToken 14 = .ok (.iload_n 2, 1) := by decide +kernel
theorem dX0_pastBlankOrToken_15 : decode cX0_pastBlankOrToken 15 = .ok (.invokevirtual 87, 3) := by decide +kernel
theorem dX0_pastBlankOrToken_18 : decode cX0_pastBlankOrToken 18 = .ok (.iload_n 1, 1) := by decide +kernel
theorem dX0_pastBlankOrToken_19 : decode cX0_pastBlankOrToken 19 = .ok (.iconst 1, 1) := by decide +kernel
theorem dX0_pastBlankOrToken_20 : decode cX0_pastBlankOrToken 20 = .ok (.iadd, 1) := by decide +kernel
theorem dX0_pastBlankOrToken_21 : decode cX0_pastBlankOrToken 21 = .ok (.ireturn, 1) := by decide +kernel
theorem dX0_pastBlankOrToken_22 : decode cX0_pastBlankOrToken 22 = .ok (.iload_n 2, 1) := by decide +kernel
theorem dX0_pastBlankOrToken_23 : decode cX0_pastBlankOrToken 23 = .ok (.bipush 47, 2) := by decide +kernel
theorem dX0_pastBlankOrToken_25 : decode cX0_pastBlankOrToken 25 = .ok (.if_icmp .ne 21, 3) := by decide +kernel
theorem dX0_pastBlankOrToken_28 : decode cX0_pastBlankOrToken 28 = .ok (.aload_n 0, 1) := by decide +kernel
theorem dX0_pastBlankOrToken_29 : decode cX0_pastBlankOrToken 29 = .ok (.iload_n 1, 1) := by decide +kernel
theorem dX0_pastBlankOrToken_30 : decode cX0_pastBlankOrToken 30 = .ok (.iconst 1, 1) := by decide +kernel
theorem dX0_pastBlankOrToken_31 : decode cX0_pastBlankOrToken 31 = .ok (.iadd, 1) := by decide +kernel
theorem dX0_pastBlankOrToken_32 : decode cX0_pastBlankOrToken 32 = .ok (.invokevirtual 78, 3) := by decide +kernel
theorem dX0_pastBlankOrToken_35 : decode cX0_pastBlankOrToken 35 = .ok (.bipush 47, 2) := by decide +kernel
theorem dX0_pastBlankOrToken_37 : decode cX0_pastBlankOrToken 37 = .ok (.if_icmp .ne 9, 3) := by decide +kernel
theorem dX0_pastBlankOrToken_40 : decode cX0_pastBlankOrToken 40 = .ok (.aload_n 0, 1) := by decide +kernel
theorem dX0_pastBlankOrToken_41 : decode cX0_pastBlankOrToken 41 = .ok (.iload_n 1, 1) := by decide +kernel
theorem dX0_pastBlankOrToken_42 : decode cX0_pastBlankOrToken 42 = .ok (.invokevirtual 90, 3) := by decide +kernel
theorem dX0_pastBlankOrToken_45 : decode cX0_pastBlankOrToken 45 = .ok (.ireturn, 1) := by decide +kernel
theorem dX0_pastBlankOrToken_46 : decode cX0_pastBlankOrToken 46 = .ok (.iload_n 2, 1) := by decide +kernel
theorem dX0_pastBlankOrToken_47 : decode cX0_pastBlankOrToken 47 = .ok (.bipush 47, 2) := by decide +kernel
theorem dX0_pastBlankOrToken_49 : decode cX0_pastBlankOrToken 49 = .ok (.if_icmp .ne 21, 3) := by decide +kernel
theorem dX0_pastBlankOrToken_52 : decode cX0_pastBlankOrToken 52 = .ok (.aload_n 0, 1) := by decide +kernel
theorem dX0_pastBlankOrToken_53 : decode cX0_pastBlankOrToken 53 = .ok (.iload_n 1, 1) := by decide +kernel
theorem dX0_pastBlankOrToken_54 : decode cX0_pastBlankOrToken 54 = .ok (.iconst 1, 1) := by decide +kernel
theorem dX0_pastBlankOrToken_55 : decode cX0_pastBlankOrToken 55 = .ok (.iadd, 1) := by decide +kernel
theorem dX0_pastBlankOrToken_56 : decode cX0_pastBlankOrToken 56 = .ok (.invokevirtual 78, 3) := by decide +kernel
theorem dX0_pastBlankOrToken_59 : decode cX0_pastBlankOrToken 59 = .ok (.bipush 42, 2) := by decide +kernel
theorem dX0_pastBlankOrToken_61 : decode cX0_pastBlankOrToken 61 = .ok (.if_icmp .ne 9, 3) := by decide +kernel
theorem dX0_pastBlankOrToken_64 : decode cX0_pastBlankOrToken 64 = .ok (.aload_n 0, 1) := by decide +kernel
theorem dX0_pastBlankOrToken_65 : decode cX0_pastBlankOrToken 65 = .ok (.iload_n 1, 1) := by decide +kernel
theorem dX0_pastBlankOrToken_66 : decode cX0_pastBlankOrToken 66 = .ok (.invokevirtual 93, 3) := by decide +kernel
theorem dX0_pastBlankOrToken_69 : decode cX0_pastBlankOrToken 69 = .ok (.ireturn, 1) := by decide +kernel
theorem dX0_pastBlankOrToken_70 : decode cX0_pastBlankOrToken 70 = .ok (.iload_n 2, 1) := by decide +kernel
theorem dX0_pastBlankOrToken_71 : decode cX0_pastBlankOrToken 71 = .ok (.invokestatic 96, 3) := by decide +kernel
theorem dX0_pastBlankOrToken_74 : decode cX0_pastBlankOrToken 74 = .ok (.ifCond .eq 9, 3) := by decide +kernel
theorem dX0_pastBlankOrToken_77 : decode cX0_pastBlankOrToken 77 = .ok (.aload_n 0, 1) := by decide +kernel
theorem dX0_pastBlankOrToken_78 : decode cX0_pastBlankOrToken 78 = .ok (.iload_n 1, 1) := by decide +kernel
theorem dX0_pastBlankOrToken_79 : decode cX0_pastBlankOrToken 79 = .ok (.invokevirtual 99, 3) := by decide +kernel
theorem dX0_pastBlankOrToken_82 : decode cX0_pastBlankOrToken 82 = .ok (.ireturn, 1) := by decide +kernel
theorem dX0_pastBlankOrToken_83 : decode cX0_pastBlankOrToken 83 = .ok (.iload_n 2, 1) := by decide +kernel
theorem dX0_pastBlankOrToken_84 : decode cX0_pastBlankOrToken 84 = .ok (.invokestatic 102, 3) := by decide +kernel
theorem dX0_pastBlankOrToken_87 : decode cX0_pastBlankOrToken 87 = .ok (.ifCond .eq 25, 3) := by decide +kernel
theorem dX0_pastBlankOrToken_90 : decode cX0_pastBlankOrToken 90 = .ok (.aload_n 0, 1) := by decide +kernel
theorem dX0_pastBlankOrToken_91 : decode cX0_pastBlankOrToken 91 = .ok (.iload_n 1, 1) := by decide +kernel
theorem dX0_pastBlankOrToken_92 : decode cX0_pastBlankOrToken 92 = .ok (.invokevirtual 105, 3) := by decide +kernel
theorem dX0_pastBlankOrToken_95 : decode cX0_pastBlankOrToken 95 = .ok (.ifCond .eq 11, 3) := by decide +kernel
theorem dX0_pastBlankOrToken_98 : decode cX0_pastBlankOrToken 98 = .ok (.aload_n 0, 1) := by decide +kernel
theorem dX0_pastBlankOrToken_99 : decode cX0_pastBlankOrToken 99 = .ok (.iload_n 1, 1) := by decide +kernel
theorem dX0_pastBlankOrToken_100 : decode cX0_pastBlankOrToken 100 = .ok (.invokevirtual 108, 3) := by decide +kernel
theorem dX0_pastBlankOrToken_103 : decode cX0_pastBlankOrToken 103 = .ok (.goto 8, 3) := by decide +kernel
theorem dX0_pastBlankOrToken_106 : decode cX0_pastBlankOrToken 106 = .ok (.aload_n 0, 1) := by decide +kernel
theorem dX0_pastBlankOrToken_107 : decode cX0_pastBlankOrToken 107 = .ok (.iload_n 1, 1) := by decide +kernel
theorem dX0_pastBlankOrToken_108 : decode cX0_pastBlankOrToken 108 = .ok (.invokevirtual 111, 3) := by decide +kernel
theorem dX0_pastBlankOrToken_111 : decode cX0_pastBlankOrToken 111 = .ok (.ireturn, 1) := by decide +kernel
theorem dX0_pastBlankOrToken_112 : decode cX0_pastBlankOrToken 112 = .ok (.iload_n 2, 1) := by decide +kernel
theorem dX0_pastBlankOrToken_113 : decode cX0_pastBlankOrToken 113 = .ok (.bipush 39, 2) := by decide +kernel
theorem dX0_pastBlankOrToken_115 : decode cX0_pastBlankOrToken 115 = .ok (.if_icmp .ne 9, 3) := by decide +kernel
theorem dX0_pastBlankOrToken_118 : decode cX0_pastBlankOrToken 118 = .ok (.aload_n 0, 1) := by decide +kernel
theorem dX0_pastBlankOrToken_119 : decode cX0_pastBlankOrToken 119 = .ok (.iload_n 1, 1) := by decide +kernel
theorem dX0_pastBlankOrToken_120 : decode cX0_pastBlankOrToken 120 = .ok (.invokevirtual 114, 3) := by decide +kernel
theorem dX0_pastBlankOrToken_123 : decode cX0_pastBlankOrToken 123 = .ok (.ireturn, 1) := by decide +kernel
theorem dX0_pastBlankOrToken_124 : decode cX0_pastBlankOrToken 124 = .ok (.iload_n 2, 1) := by decide +kernel
theorem dX0_pastBlankOrToken_125 : decode cX0_pastBlankOrToken 125 = .ok (.bipush 34, 2) := by decide +kernel
theorem dX0_pastBlankOrToken_127 : decode cX0_pastBlankOrToken 127 = .ok (.if_icmp .ne 9, 3) := by decide +kernel
theorem dX0_pastBlankOrToken_130 : decode cX0_pastBlankOrToken 130 = .ok (.aload_n 0, 1) := by decide +kernel
theorem dX0_pastBlankOrToken_131 : decode cX0_pastBlankOrToken 131 = .ok (.iload_n 1, 1) := by decide +kernel
theorem dX0_pastBlankOrToken_132 : decode cX0_pastBlankOrToken 132 = .ok (.invokevirtual 117, 3) := by decide +kernel
theorem dX0_pastBlankOrToken_135 : decode cX0_pastBlankOrToken 135 = .ok (.ireturn, 1) := by decide +kernel
theorem dX0_pastBlankOrToken_136 : decode cX0_pastBlankOrToken 136 = .ok (.aload_n 0, 1) := by decide +kernel
theorem dX0_pastBlankOrToken_137 : decode cX0_pastBlankOrToken 137 = .ok (.iload_n 1, 1) := by decide +kernel
theorem dX0_pastBlankOrToken_138 : decode cX0_pastBlankOrToken 138 = .ok (.invokevirtual 120, 3) := by decide +kernel
theorem dX0_pastBlankOrToken_141 : decode cX0_pastBlankOrToken 141 = .ok (.ireturn, 1) := by decide +kernel
set_option maxRecDepth 20000 in
theorem ggX0_pastLineComment_X0_byteAt : GoodIn wsX0_pastLineComment wsX0_byteAt := goodIn_r _ [6, 1, 7, 19, 20, 21, 22, 23, 24, 25, 26, 27, 28, 29, 30, 31] (by decide +kernel) (by decide +kernel)
set_option maxRecDepth 20000 in
theorem gX0_pastLineComment_X0_byteAt : GoodIn wsX0_pastLineComment (wsV RX0 78 RX0 yX0_byteAt wsX0_byteAt) := goodIn_app (goodIn_of _ (by decide +kernel)) ggX0_pastLineComment_X0_byteAt
set_option maxRecDepth 20000 in
theorem ggX0_pastLineComment_X0_mayOccur : GoodIn wsX0_pastLineComment wsX0_mayOccur := goodIn_r _ [10, 11, 12, 5, 13] (by decide +kernel) (by decide +kernel)
set_option maxRecDepth 20000 in
theorem gX0_pastLineComment_X0_mayOccur : GoodIn wsX0_pastLineComment (va_wsS RX0 123 yX0_mayOccur wsX0_mayOccur) := goodIn_app (goodIn_of _ (by decide +kernel)) ggX0_pastLineComment_X0_mayOccur
set_option maxRecDepth 20000 in
theorem ggX0_pastLineComment_X0_fail : GoodIn wsX0_pastLineComment wsX0_fail := goodIn_r _ [17, 18, 19, 20, 21, 22, 23, 24, 25, 26, 27, 28, 29, 30, 31] (by decide +kernel) (by decide +kernel)
set_option maxRecDepth 20000 in
theorem gX0_pastLineComment_X0_fail : GoodIn wsX0_pastLineComment (wsV RX0 126 RX0 yX0_fail wsX0_fail) := goodIn_app (goodIn_of _ (by decide +kernel)) ggX0_pastLineComment_X0_fail
theorem dX0_pastLineComment_0 : decode cX0_pastLineComment 0 = .ok (.iload_n 1, 1) := by decide +kernel
theorem dX0_pastLineComment_1 : decode cX0_pastLineComment 1 = .ok (.iconst 2, 1) := by decide +kernel
theorem dX0_pastLineComment_2 : decode cX0_pastLineComment 2 = .ok (.iadd, 1) := by decide +kernel
theorem dX0_pastLineComment_3 : decode cX0_pastLineComment 3 = .ok (.istore_n 2, 1) := by decide +kernel
theorem dX0_pastLineComment_4 : decode cX0_pastLineComment 4 = .ok (.iload_n 2, 1) := by decide +kernel
theorem dX0_pastLineComment_5 : decode cX0_pastLineComment 5 = .ok (.aload_n 0, 1) := by decide +kernel
theorem dX0_pastLineComment_6 : decode cX0_pastLineComment 6 = .ok (.getfield 39, 3) := by decide +kernel
theorem dX0_pastLineComment_9 : decode cX0_pastLineComment 9 = .ok (.if_icmp .ge 36, 3) := by decide +kernel
theorem dX0_pastLineComment_12 : decode cX0_pastLineComment 12 = .ok (.aload_n 0, 1) := by decide +kernel
theorem dX0_pastLineComment_13 : decode cX0_pastLineComment 13 = .ok (.iload_n 2, 1) := by decide +kernel
theorem dX0_pastLineComment_14 : decode cX0_pastLineComment 14 = .ok (.invokevirtual 78, 3) := by decide +kernel
theorem dX0_pastLineComment_17 : decode cX0_pastLineComment 17 = .ok (.istore_n 3, 1) := by decide +kernel
theorem dX0_pastLineComment_18 : decode cX0_pastLineComment 18 = .ok (.iload_n 3, 1) := by decide +kernel
theorem dX0_pastLineComment_19 : decode cX0_pastLineComment 19 = .ok (.bipush 10, 2) := by decide +kernel
theorem dX0_pastLineComment_21 : decode cX0_pastLineComment 21 = .ok (.if_icmp .ne 5, 3) := by decide +kernel
theorem dX0_pastLineComment_24 : decode cX0_pastLineComment 24 = .ok (.iload_n 2, 1) := by decide +kernel
theorem dX0_pastLineComment_25 : decode cX0_pastLineComment 25 = .ok (.ireturn, 1) := by decide +kernel
theorem dX0_pastLineComment_26 : decode cX0_pastLineComment 26 = .ok (.iload_n 3, 1) := by decide +kernel
theorem dX0_pastLineComment_27 : decode cX0_pastLineComment 27 = .ok (.invokestatic 123, 3) := by decide +kernel
theorem dX0_pastLineComment_30 : decode cX0_pastLineComment 30 = .ok (.ifCond .ne 9, 3) := by decide +kernel
theorem dX0_pastLineComment_33 : decode cX0_pastLineComment 33 = .ok (.aload_n 0, 1) := by decide +kernel
theorem dX0_pastLineComment_34 : decode cX0_pastLineComment 34 = .ok (.iload_n 2, 1) := by decide +kernel
theorem dX0_pastLineComment_35 : decode cX0_pastLineComment 35 = .ok (.invokevirtual 126, 3) := by decide +kernel
theorem dX0_pastLineComment_38 : decode cX0_pastLineComment 38 = .ok (.ireturn, 1) := by decide +kernel
theorem dX0_pastLineComment_39 : decode cX0_pastLineComment 39 = .ok (.iinc 2 1, 3) := by decide +kernel
theorem dX0_pastLineComment_42 : decode cX0_pastLineComment 42 = .ok (.goto (-38), 3) := by decide +kernel
theorem dX0_pastLineComment_45 : decode cX0_pastLineComment 45 = .ok (.aload_n 0, 1) := by decide +kernel
theorem dX0_pastLineComment_46 : decode cX0_pastLineComment 46 = .ok (.getfield 39, 3) := by decide +kernel
theorem dX0_pastLineComment_49 : decode cX0_pastLineComment 49 = .ok (.ireturn, 1) := by decide +kernel
set_option maxRecDepth 20000 in
theorem ggX0_pastStarComment_X0_byteAt : GoodIn wsX0_pastStarComment wsX0_byteAt := goodIn_r _ [6, 1, 7, 24, 25, 26, 27, 28, 29, 30, 31, 32, 33, 34, 35, 36] (by decide +kernel) (by decide +kernel)
set_option maxRecDepth 20000 in
theorem gX0_pastStarComment_X0_byteAt : GoodIn wsX0_pastStarComment (wsV RX0 78 RX0 yX0_byteAt wsX0_byteAt) := goodIn_app (goodIn_of _ (by decide +kernel)) ggX0_pastStarComment_X0_byteAt
set_option maxRecDepth 20000 in
theorem ggX0_pastStarComment_X0_mayOccur : GoodIn wsX0_pastStarComment wsX0_mayOccur := goodIn_r _ [10, 11, 12, 5, 13] (by decide +kernel) (by decide +kernel)
set_option maxRecDepth 20000 in
theorem gX0_pastStarComment_X0_mayOccur : GoodIn wsX0_pastStarComment (va_wsS RX0 123 yX0_mayOccur wsX0_mayOccur) := goodIn_app (goodIn_of _ (by decide +kernel)) ggX0_pastStarComment_X0_mayOccur
set_option maxRecDepth 20000 in
theorem ggX0_pastStarComment_X0_fail : GoodIn wsX0_pastStarComment wsX0_fail := goodIn_r _ [17, 18, 24, 25, 26, 27, 28, 29, 30, 31, 32, 33, 34, 35, 36] (by decide +kernel) (by decide +kernel)
set_option maxRecDepth 20000 in
theorem gX0_pastStarComment_X0_fail : GoodIn wsX0_pastStarComment (wsV RX0 126 RX0 yX0_fail wsX0_fail) := goodIn_app (goodIn_of _ (by decide +kernel)) ggX0_pastStarComment_X0_fail
set_option maxRecDepth 20000 in
theorem ggX0_pastStarComment_X0_countLine : GoodIn wsX0_pastStarComment wsX0_countLine := goodIn_r _ [22, 23, 24, 25, 26, 27, 28, 29, 30, 31, 32, 33, 34, 35, 36] (by decide +kernel) (by decide +kernel)
set_option maxRecDepth 20000 in
theorem gX0_pastStarComment_X0_countLine : GoodIn wsX0_pastStarComment (wsV RX0 87 RX0 yX0_countLine wsX0_countLine) := goodIn_app (goodIn_of _ (by decide +kernel)) ggX0_pastStarComment_X0_countLine
theorem dX0_pastStarComment_0 : decode cX0_pastStarComment 0 = .ok (.iload_n 1, 1) := by decide +kernel
theorem dX0_pastStarComment_1 : decode cX0_pastStarComment 1 = .ok (.iconst 2, 1) := by decide +kernel
theorem dX0_pastStarComment_2 : decode cX0_pastStarComment 2 = .ok (.iadd, 1) := by decide +kernel
theorem dX0_pastStarComment_3 : decode cX0_pastStarComment 3 = .ok (.istore_n 2, 1) := by decide +kernel
theorem dX0_pastStarComment_4 : decode cX0_pastStarComment 4 = .ok (.iload_n 2, 1) := by decide +kernel
theorem dX0_pastStarComment_5 : decode cX0_pastStarComment 5 = .ok (.aload_n 0, 1) := by decide +kernel
theorem dX0_pastStarComment_6 : decode cX0_pastStarComment 6 = .ok (.getfield 39, 3) := by decide +kernel
theorem dX0_pastStarComment_9 : decode cX0_pastStarComment 9 = .ok (.if_icmp .ge 55, 3) := by decide +kernel
theorem dX0_pastStarComment_12 : decode cX0_pastStarComment 12 = .ok (.aload_n 0, 1) := by decide +kernel
theorem dX0_pastStarComment_13 : decode cX0_pastStarComment 13 = .ok (.iload_n 2, 1) := by decide +kernel
theorem dX0_pastStarComment_14 : decode cX0_pastStarComment 14 = .ok (.invokevirtual 78, 3) := by decide +kernel
theorem dX0_pastStarComment_17 : decode cX0_pastStarComment 17 = .ok (.istore_n 3, 1) := by decide +kernel
theorem dX0_pastStarComment_18 : decode cX0_pastStarComment 18 = .ok (.iload_n 3, 1) := by decide +kernel
theorem dX0_pastStarComment_19 : decode cX0_pastStarComment 19 = .ok (.bipush 42, 2) := by decide +kernel
theorem dX0_pastStarComment_21 : decode cX0_pastStarComment 21 = .ok (.if_icmp .ne 19, 3) := by decide +kernel
theorem dX0_pastStarComment_24 : decode cX0_pastStarComment 24 = .ok (.aload_n 0, 1) := by decide +kernel
theorem dX0_pastStarComment_25 : decode cX0_pastStarComment 25 = .ok (.iload_n 2, 1) := by decide +kernel
theorem dX0_pastStarComment_26 : decode cX0_pastStarComment 26 = .ok (.iconst 1, 1) := by decide +kernel
theorem dX0_pastStarComment_27 : decode cX0_pastStarComment 27 = .ok (.iadd, 1) := by decide +kernel
theorem dX0_pastStarComment_28 : decode cX0_pastStarComment 28 = .ok (.invokevirtual 78, 3) := by decide +kernel
theorem dX0_pastStarComment_31 : decode cX0_pastStarComment 31 = .ok (.bipush 47, 2) := by decide +kernel
theorem dX0_pastStarComment_33 : decode cX0_pastStarComment 33 = .ok (.if_icmp .ne 7, 3) := by decide +kernel
theorem dX0_pastStarComment_36 : decode cX0_pastStarComment 36 = .ok (.iload_n 2, 1) := by decide +kernel
theorem dX0_pastStarComment_37 : decode cX0_pastStarComment 37 = .ok (.iconst 2, 1) := by decide +kernel
theorem dX0_pastStarComment_38 : decode cX0_pastStarComment 38 = .ok (.iadd, 1) := by decide +kernel
theorem dX0_pastStarComment_39 : decode cX0_pastStarComment 39 = .ok (.ireturn, 1) := by decide +kernel
theorem dX0_pastStarComment_40 : decode cX0_pastStarComment 40 = .ok (.iload_n 3, 1) := by decide +kernel
theorem dX0_pastStarComment_41 : decode cX0_pastStarComment 41 = .ok (.invokestatic 123, 3) := by decide +kernel
theorem dX0_pastStarComment_44 : decode cX0_pastStarComment 44 = .ok (.ifCond .ne 9, 3) := by decide +kernel
theorem dX0_pastStarComment_47 : decode cX0_pastStarComment 47 = .ok (.aload_n 0, 1) := by decide +kernel
theorem dX0_pastStarComment_48 : decode cX0_pastStarComment 48 = .ok (.iload_n 2, 1) := by decide +kernel
theorem dX0_pastStarComment_49 : decode cX0_pastStarComment 49 = .ok (.invokevirtual 126, 3) := by decide +kernel
theorem dX0_pastStarComment_52 : decode cX0_pastStarComment 52 = .ok (.ireturn, 1) := by decide +kernel
theorem dX0_pastStarComment_53 : decode cX0_pastStarComment 53 = .ok (.aload_n 0, 1) := by decide +kernel
theorem dX0_pastStarComment_54 : decode cX0_pastStarComment 54 = .ok (.iload_n 3, 1) := by decide +kernel
theorem dX0_pastStarComment_55 : decode cX0_pastStarComment 55 = .ok (.invokevirtual 87, 3) := by decide +kernel
theorem dX0_pastStarComment_58 : decode cX0_pastStarComment 58 = .ok (.iinc 2 1, 3) := by decide +kernel
theorem dX0_pastStarComment_61 : decode cX0_pastStarComment 61 = .ok (.goto (-57), 3) := by decide +kernel
theorem dX0_pastStarComment_64 : decode cX0_pastStarComment 64 = .ok (.aload_n 0, 1) := by decide +kernel
theorem dX0_pastStarComment_65 : decode cX0_pastStarComment 65 = .ok (.iload_n 1, 1) := by decide +kernel
theorem dX0_pastStarComment_66 : decode cX0_pastStarComment 66 = .ok (.invokevirtual 126, 3) := by decide +kernel
theorem dX0_pastStarComment_69 : decode cX0_pastStarComment 69 = .ok (.ireturn, 1) := by decide +kernel
set_option maxRecDepth 20000 in
theorem ggX0_pastName_X0_byteAt : GoodIn wsX0_pastName wsX0_byteAt := goodIn_r _ [6, 1, 7, 38, 39, 40, 41, 42, 43, 44, 45, 46, 47, 48, 49, 50] (by decide +kernel) (by decide +kernel)
set_option maxRecDepth 20000 in
theorem gX0_pastName_X0_byteAt : GoodIn wsX0_pastName (wsV RX0 78 RX0 yX0_byteAt wsX0_byteAt) := goodIn_app (goodIn_of _ (by decide +kernel)) ggX0_pastName_X0_byteAt
set_option maxRecDepth 20000 in
theorem ggX0_pastName_X0_isNamePart : GoodIn wsX0_pastName wsX0_isNamePart := goodIn_r _ [10, 11, 12, 5, 13, 14, 15, 16] (by decide +kernel) (by decide +kernel)
set_option maxRecDepth 20000 in
theorem gX0_pastName_X0_isNamePart : GoodIn wsX0_pastName (va_wsS RX0 129 yX0_isNamePart wsX0_isNamePart) := goodIn_app (goodIn_of _ (by decide +kernel)) ggX0_pastName_X0_isNamePart
set_option maxRecDepth 20000 in
theorem ggX0_pastName_X0_fail : GoodIn wsX0_pastName wsX0_fail := goodIn_r _ [20, 21, 38, 39, 40, 41, 42, 43, 44, 45, 46, 47, 48, 49, 50] (by decide +kernel) (by decide +kernel)
set_option maxRecDepth 20000 in
theorem gX0_pastName_X0_fail : GoodIn wsX0_pastName (wsV RX0 126 RX0 yX0_fail wsX0_fail) := goodIn_app (goodIn_of _ (by decide +kernel)) ggX0_pastName_X0_fail
set_option maxRecDepth 20000 in
theorem ggX0_pastName_X0_wordNumber : GoodIn wsX0_pastName wsX0_wordNumber := goodIn_r _ [25, 26, 2, 3, 4, 5, 6, 1, 7, 38, 39, 40, 41, 42, 43, 44, 45, 46, 47, 48, 49, 50] (by decide +kernel) (by decide +kernel)
set_option maxRecDepth 20000 in
theorem gX0_pastName_X0_wordNumber : GoodIn wsX0_pastName (wsV RX0 132 RX0 yX0_wordNumber wsX0_wordNumber) := goodIn_app (goodIn_of _ (by decide +kernel)) ggX0_pastName_X0_wordNumber
set_option maxRecDepth 20000 in
theorem ggX0_pastName_X0_keep : GoodIn wsX0_pastName wsX0_keep := goodIn_r _ [30, 31, 32, 33, 34, 35, 36, 37, 38, 39, 40, 41, 42, 43, 44, 45, 46, 47, 48, 49, 50] (by decide +kernel) (by decide +kernel)
set_option maxRecDepth 20000 in
theorem gX0_pastName_X0_keep : GoodIn wsX0_pastName (wsV RX0 135 RX0 yX0_keep wsX0_keep) := goodIn_app (goodIn_of _ (by decide +kernel)) ggX0_pastName_X0_keep
theorem dX0_pastName_0 : decode cX0_pastName 0 = .ok (.iload_n 1, 1) := by decide +kernel
theorem dX0_pastName_1 : decode cX0_pastName 1 = .ok (.iconst 1, 1) := by decide +kernel
theorem dX0_pastName_2 : decode cX0_pastName 2 = .ok (.iadd, 1) := by decide +kernel
theorem dX0_pastName_3 : decode cX0_pastName 3 = .ok (.istore_n 2, 1) := by decide +kernel
theorem dX0_pastName_4 : decode cX0_pastName 4 = .ok (.iload_n 2, 1) := by decide +kernel
theorem dX0_pastName_5 : decode cX0_pastName 5 = .ok (.aload_n 0, 1) := by decide +kernel
theorem dX0_pastName_6 : decode cX0_pastName 6 = .ok (.getfield 39, 3) := by decide +kernel
theorem dX0_pastName_9 : decode cX0_pastName 9 = .ok (.if_icmp .ge 20, 3) := by decide +kernel
theorem dX0_pastName_12 : decode cX0_pastName 12 = .ok (.aload_n 0, 1) := by decide +kernel
theorem dX0_pastName_13 : decode cX0_pastName 13 = .ok (.iload_n 2, 1) := by decide +kernel
theorem dX0_pastName_14 : decode cX0_pastName 14 = .ok (.invokevirtual 78, 3) := by decide +kernel
theorem dX0_pastName_17 : decode cX0_pastName 17 = .ok (.invokestatic 129, 3) := by decide +kernel
theorem dX0_pastName_20 : decode cX0_pastName 20 = .ok (.ifCond .eq 9, 3) := by decide +kernel
theorem dX0_pastName_23 : decode cX0_pastName 23 = .ok (.iinc 2 1, 3) := by decide +kernel
theorem dX0_pastName_26 : decode cX0_pastName 26 = .ok (.goto (-22), 3) := by decide +kernel
theorem dX0_pastName_29 : decode cX0_pastName 29 = .ok (.iload_n 2, 1) := by decide +kernel
theorem dX0_pastName_30 : decode cX0_pastName 30 = .ok (.iload_n 1, 1) := by decide +kernel
theorem dX0_pastName_31 : decode cX0_pastName 31 = .ok (.isub, 1) := by decide +kernel
theorem dX0_pastName_32 : decode cX0_pastName 32 = .ok (.bipush 24, 2) := by decide +kernel
theorem dX0_pastName_34 : decode cX0_pastName 34 = .ok (.if_icmp .le 9, 3) := by decide +kernel
theorem dX0_pastName_37 : decode cX0_pastName 37 = .ok (.aload_n 0, 1) := by decide +kernel
theorem dX0_pastName_38 : decode cX0_pastName 38 = .ok (.iload_n 1, 1) := by decide +kernel
theorem dX0_pastName_39 : decode cX0_pastName 39 = .ok (.invokevirtual 126, 3) := by decide +kernel
theorem dX0_pastName_42 : decode cX0_pastName 42 = .ok (.ireturn, 1) := by decide +kernel
theorem dX0_pastName_43 : decode cX0_pastName 43 = .ok (.aload_n 0, 1) := by decide +kernel
theorem dX0_pastName_44 : decode cX0_pastName 44 = .ok (.iload_n 1, 1) := by decide +kernel
theorem dX0_pastName_45 : decode cX0_pastName 45 = .ok (.iload_n 2, 1) := by decide +kernel
theorem dX0_pastName_46 : decode cX0_pastName 46 = .ok (.iload_n 1, 1) := by decide +kernel
theorem dX0_pastName_47 : decode cX0_pastName 47 = .ok (.isub, 1) := by decide +kernel
theorem dX0_pastName_48 : decode cX0_pastName 48 = .ok (.invokevirtual 132, 3) := by decide +kernel
theorem dX0_pastName_51 : decode cX0_pastName 51 = .ok (.istore_n 3, 1) := by decide +kernel
theorem dX0_pastName_52 : decode cX0_pastName 52 = .ok (.iload_n 3, 1) := by decide +kernel
theorem dX0_pastName_53 : decode cX0_pastName 53 = .ok (.ifCond .lt 14, 3) := by decide +kernel
theorem dX0_pastName_56 : decode cX0_pastName 56 = .ok (.aload_n 0, 1) := by decide +kernel
theorem dX0_pastName_57 : decode cX0_pastName 57 = .ok (.iconst 4, 1) := by decide +kernel
theorem dX0_pastName_58 : decode cX0_pastName 58 = .ok (.iload_n 3, 1) := by decide +kernel
theorem dX0_pastName_59 : decode cX0_pastName 59 = .ok (.iload_n 1, 1) := by decide +kernel
theorem dX0_pastName_60 : decode cX0_pastName 60 = .ok (.iload_n 2, 1) := by decide +kernel
theorem dX0_pastName_61 : decode cX0_pastName 61 = .ok (.invokevirtual 135, 3) := by decide +kernel
theorem dX0_pastName_64 : decode cX0_pastName 64 = .ok (.goto 11, 3) := by decide +kernel
theorem dX0_pastName_67 : decode cX0_pastName 67 = .ok (.aload_n 0, 1) := by decide +kernel
theorem dX0_pastName_68 : decode cX0_pastName 68 = .ok (.iconst 1, 1) := by decide +kernel
theorem dX0_pastName_69 : decode cX0_pastName 69 = .ok (.iconst 0, 1) := by decide +kernel
theorem dX0_pastName_70 : decode cX0_pastName 70 = .ok (.iload_n 1, 1) := by decide +kernel
theorem dX0_pastName_71 : decode cX0_pastName 71 = .ok (.iload_n 2, 1) := by decide +kernel
theorem dX0_pastName_72 : decode cX0_pastName 72 = .ok (.invokevirtual 135, 3) := by decide +kernel
theorem dX0_pastName_75 : decode cX0_pastName 75 = .ok (.ireturn, 1) := by decide +kernel
set_option maxRecDepth 20000 in
theorem ggX0_pastDigits_X0_byteAt : GoodIn wsX0_pastDigits wsX0_byteAt := goodIn_r _ [13, 1, 14, 34, 35, 36, 37, 38, 39, 40, 41, 42, 43, 44, 45, 46] (by decide +kernel) (by decide +kernel)
set_option maxRecDepth 20000 in
theorem gX0_pastDigits_X0_byteAt : GoodIn wsX0_pastDigits (wsV RX0 78 RX0 yX0_byteAt wsX0_byteAt) := goodIn_app (goodIn_of _ (by decide +kernel)) ggX0_pastDigits_X0_byteAt
set_option maxRecDepth 20000 in
theorem ggX0_pastDigits_X0_isDigit : GoodIn wsX0_pastDigits wsX0_isDigit := goodIn_r _ [17] (by decide +kernel) (by decide +kernel)
set_option maxRecDepth 20000 in
theorem gX0_pastDigits_X0_isDigit : GoodIn wsX0_pastDigits (va_wsS RX0 102 yX0_isDigit wsX0_isDigit) := goodIn_app (goodIn_of _ (by decide +kernel)) ggX0_pastDigits_X0_isDigit
set_option maxRecDepth 20000 in
theorem ggX0_pastDigits_X0_fail : GoodIn wsX0_pastDigits wsX0_fail := goodIn_r _ [21, 22, 34, 35, 36, 37, 38, 39, 40, 41, 42, 43, 44, 45, 46] (by decide +kernel) (by decide +kernel)
set_option maxRecDepth 20000 in
theorem gX0_pastDigits_X0_fail : GoodIn wsX0_pastDigits (wsV RX0 126 RX0 yX0_fail wsX0_fail) := goodIn_app (goodIn_of _ (by decide +kernel)) ggX0_pastDigits_X0_fail
set_option maxRecDepth 20000 in
theorem ggX0_pastDigits_X0_keep : GoodIn wsX0_pastDigits wsX0_keep := goodIn_r _ [26, 27, 28, 29, 30, 31, 32, 33, 34, 35, 36, 37, 38, 39, 40, 41, 42, 43, 44, 45, 46] (by decide +kernel) (by decide +kernel)
set_option maxRecDepth 20000 in
theorem gX0_pastDigits_X0_keep : GoodIn wsX0_pastDigits (wsV RX0 135 RX0 yX0_keep wsX0_keep) := goodIn_app (goodIn_of _ (by decide +kernel)) ggX0_pastDigits_X0_keep
theorem dX0_pastDigits_0 : decode cX0_pastDigits 0 = .ok (.lconst 0, 1) := by decide +kernel
theorem dX0_pastDigits_1 : decode cX0_pastDigits 1 = .ok (.lstore_n 2, 1) := by decide +kernel
theorem dX0_pastDigits_2 : decode cX0_pastDigits 2 = .ok (.iload_n 1, 1) := by decide +kernel
theorem dX0_pastDigits_3 : decode cX0_pastDigits 3 = .ok (.istore 4, 2) := by decide +kernel
theorem dX0_pastDigits_5 : decode cX0_pastDigits 5 = .ok (.iload 4, 2) := by decide +kernel
theorem dX0_pastDigits_7 : decode cX0_pastDigits 7 = .ok (.aload_n 0, 1) := by decide +kernel
theorem dX0_pastDigits_8 : decode cX0_pastDigits 8 = .ok (.getfield 39, 3) := by decide +kernel
theorem dX0_pastDigits_11 : decode cX0_pastDigits 11 = .ok (.if_icmp .ge 44, 3) := by decide +kernel
theorem dX0_pastDigits_14 : decode cX0_pastDigits 14 = .ok (.aload_n 0, 1) := by decide +kernel
theorem dX0_pastDigits_15 : decode cX0_pastDigits 15 = .ok (.iload 4, 2) := by decide +kernel
theorem dX0_pastDigits_17 : decode cX0_pastDigits 17 = .ok (.invokevirtual 78, 3) := by decide +kernel
theorem dX0_pastDigits_20 : decode cX0_pastDigits 20 = .ok (.invokestatic 102, 3) := by decide +kernel
theorem dX0_pastDigits_23 : decode cX0_pastDigits 23 = .ok (.ifCond .eq 32, 3) := by decide +kernel
theorem dX0_pastDigits_26 : decode cX0_pastDigits 26 = .ok (.lload_n 2, 1) := by decide +kernel
theorem dX0_pastDigits_27 : decode cX0_pastDigits 27 = .ok (.ldc2_w 139, 3) := by decide +kernel
theorem dX0_pastDigits_30 : decode cX0_pastDigits 30 = .ok (.lmul, 1) := by decide +kernel
theorem dX0_pastDigits_31 : decode cX0_pastDigits 31 = .ok (.aload_n 0, 1) := by decide +kernel
theorem dX0_pastDigits_32 : decode cX0_pastDigits 32 = .ok (.iload 4, 2) := by decide +kernel
theorem dX0_pastDigits_34 : decode cX0_pastDigits 34 = .ok (.invokevirtual 78, 3) := by decide +kernel
theorem dX0_pastDigits_37 : decode cX0_pastDigits 37 = .ok (.bipush 48, 2) := by decide +kernel
theorem dX0_pastDigits_39 : decode cX0_pastDigits 39 = .ok (.isub, 1) := by decide +kernel
theorem dX0_pastDigits_40 : decode cX0_pastDigits 40 = .ok (.i2l, 1) := by decide +kernel
theorem dX0_pastDigits_41 : decode cX0_pastDigits 41 = .ok (.ladd, 1) := by decide +kernel
theorem dX0_pastDigits_42 : decode cX0_pastDigits 42 = .ok (.ldc2_w 141, 3) := by decide +kernel
theorem dX0_pastDigits_45 : decode cX0_pastDigits 45 = .ok (.invokestatic 143, 3) := by decide +kernel
theorem dX0_pastDigits_48 : decode cX0_pastDigits 48 = .ok (.lstore_n 2, 1) := by decide +kernel
theorem dX0_pastDigits_49 : decode cX0_pastDigits 49 = .ok (.iinc 4 1, 3) := by decide +kernel
theorem dX0_pastDigits_52 : decode cX0_pastDigits 52 = .ok (.goto (-47), 3) := by decide +kernel
theorem dX0_pastDigits_55 : decode cX0_pastDigits 55 = .ok (.lload_n 2, 1) := by decide +kernel
theorem dX0_pastDigits_56 : decode cX0_pastDigits 56 = .ok (.ldc2_w 149, 3) := by decide +kernel
theorem dX0_pastDigits_59 : decode cX0_pastDigits 59 = .ok (.lcmp, 1) := by decide +kernel
theorem dX0_pastDigits_60 : decode cX0_pastDigits 60 = .ok (.ifCond .le 11, 3) := by decide +kernel
theorem dX0_pastDigits_63 : decode cX0_pastDigits 63 = .ok (.aload_n 0, 1) := by decide +kernel
theorem dX0_pastDigits_64 : decode cX0_pastDigits 64 = .ok (.iload_n 1, 1) := by decide +kernel
theorem dX0_pastDigits_65 : decode cX0_pastDigits 65 = .ok (.invokevirtual 126, 3) := by decide +kernel
theorem dX0_pastDigits_68 : decode cX0_pastDigits 68 = .ok (.goto 13, 3) := by decide +kernel
theorem dX0_pastDigits_71 : decode cX0_pastDigits 71 = .ok (.aload_n 0, 1) := by decide +kernel
theorem dX0_pastDigits_72 : decode cX0_pastDigits 72 = .ok (.iconst 2, 1) := by decide +kernel
theorem dX0_pastDigits_73 : decode cX0_pastDigits 73 = .ok (.lload_n 2, 1) := by decide +kernel
theorem dX0_pastDigits_74 : decode cX0_pastDigits 74 = .ok (.l2i, 1) := by decide +kernel
theorem dX0_pastDigits_75 : decode cX0_pastDigits 75 = .ok (.iload_n 1, 1) := by decide +kernel
theorem dX0_pastDigits_76 : decode cX0_pastDigits 76 = .ok (.iload 4, 2) := by decide +kernel
theorem dX0_pastDigits_78 : decode cX0_pastDigits 78 = .ok (.invokevirtual 135, 3) := by decide +kernel
theorem dX0_pastDigits_81 : decode cX0_pastDigits 81 = .ok (.ireturn, 1) := by decide +kernel
set_option maxRecDepth 20000 in
theorem ggX0_isHexNumber_X0_byteAt : GoodIn wsX0_isHexNumber wsX0_byteAt := goodIn_r _ [5, 6, 7, 14, 15, 16, 17, 18, 19, 20, 21, 22, 23, 24, 25, 26] (by decide +kernel) (by decide +kernel)
set_option maxRecDepth 20000 in
theorem gX0_isHexNumber_X0_byteAt : GoodIn wsX0_isHexNumber (wsV RX0 78 RX0 yX0_byteAt wsX0_byteAt) := goodIn_app (goodIn_of _ (by decide +kernel)) ggX0_isHexNumber_X0_byteAt
set_option maxRecDepth 20000 in
theorem ggX0_isHexNumber_X0_hexDigit : GoodIn wsX0_isHexNumber wsX0_hexDigit := goodIn_r _ [10, 11, 12, 4, 13] (by decide +kernel) (by decide +kernel)
set_option maxRecDepth 20000 in
theorem gX0_isHexNumber_X0_hexDigit : GoodIn wsX0_isHexNumber (va_wsS RX0 151 yX0_hexDigit wsX0_hexDigit) := goodIn_app (goodIn_of _ (by decide +kernel)) ggX0_isHexNumber_X0_hexDigit
theorem dX0_isHexNumber_0 : decode cX0_isHexNumber 0 = .ok (.aload_n 0, 1) := by decide +kernel
theorem dX0_isHexNumber_1 : decode cX0_isHexNumber 1 = .ok (.iload_n 1, 1) := by decide +kernel
theorem dX0_isHexNumber_2 : decode cX0_isHexNumber 2 = .ok (.invokevirtual 78, 3) := by decide +kernel
theorem dX0_isHexNumber_5 : decode cX0_isHexNumber 5 = .ok (.bipush 48, 2) := by decide +kernel
theorem dX0_isHexNumber_7 : decode cX0_isHexNumber 7 = .ok (.if_icmp .ne 32, 3) := by decide +kernel
theorem dX0_isHexNumber_10 : decode cX0_isHexNumber 10 = .ok (.aload_n 0, 1) := by decide +kernel
theorem dX0_isHexNumber_11 : decode cX0_isHexNumber 11 = .ok (.iload_n 1, 1) := by decide +kernel
theorem dX0_isHexNumber_12 : decode cX0_isHexNumber 12 = .ok (.iconst 1, 1) := by decide +kernel
theorem dX0_isHexNumber_13 : decode cX0_isHexNumber 13 = .ok (.iadd, 1) := by decide +kernel
theorem dX0_isHexNumber_14 : decode cX0_isHexNumber 14 = .ok (.invokevirtual 78, 3) := by decide +kernel
theorem dX0_isHexNumber_17 : decode cX0_isHexNumber 17 = .ok (.bipush 120, 2) := by decide +kernel
theorem dX0_isHexNumber_19 : decode cX0_isHexNumber 19 = .ok (.if_icmp .ne 20, 3) := by decide +kernel
theorem dX0_isHexNumber_22 : decode cX0_isHexNumber 22 = .ok (.aload_n 0, 1) := by decide +kernel
theorem dX0_isHexNumber_23 : decode cX0_isHexNumber 23 = .ok (.iload_n 1, 1) := by decide +kernel
theorem dX0_isHexNumber_24 : decode cX0_isHexNumber 24 = .ok (.iconst 2, 1) := by decide +kernel
theorem dX0_isHexNumber_25 : decode cX0_isHexNumber 25 = .ok (.iadd, 1) := by decide +kernel
theorem dX0_isHexNumber_26 : decode cX0_isHexNumber 26 = .ok (.invokevirtual 78, 3) := by decide +kernel
theorem dX0_isHexNumber_29 : decode cX0_isHexNumber 29 = .ok (.invokestatic 151, 3) := by decide +kernel
theorem dX0_isHexNumber_32 : decode cX0_isHexNumber 32 = .ok (.ifCond .lt 7, 3) := by decide +kernel
theorem dX0_isHexNumber_35 : decode cX0_isHexNumber 35 = .ok (.iconst 1, 1) := by decide +kernel
theorem dX0_isHexNumber_36 : decode cX0_isHexNumber 36 = .ok (.goto 4, 3) := by decide +kernel
theorem dX0_isHexNumber_39 : decode cX0_isHexNumber 39 = .ok (.iconst 0, 1) := by decide +kernel
theorem dX0_isHexNumber_40 : decode cX0_isHexNumber 40 = .ok (.ireturn, 1) := by decide +kernel
set_option maxRecDepth 20000 in
theorem ggX0_pastHexNumber_X0_byteAt : GoodIn wsX0_pastHexNumber wsX0_byteAt := goodIn_r _ [6, 1, 7, 30, 31, 32, 33, 34, 35, 36, 37, 38, 39, 40, 41, 42] (by decide +kernel) (by decide +kernel)
set_option maxRecDepth 20000 in
theorem gX0_pastHexNumber_X0_byteAt : GoodIn wsX0_pastHexNumber (wsV RX0 78 RX0 yX0_byteAt wsX0_byteAt) := goodIn_app (goodIn_of _ (by decide +kernel)) ggX0_pastHexNumber_X0_byteAt
set_option maxRecDepth 20000 in
theorem ggX0_pastHexNumber_X0_hexDigit : GoodIn wsX0_pastHexNumber wsX0_hexDigit := goodIn_r _ [10, 11, 12, 5, 13] (by decide +kernel) (by decide +kernel)
set_option maxRecDepth 20000 in
theorem gX0_pastHexNumber_X0_hexDigit : GoodIn wsX0_pastHexNumber (va_wsS RX0 151 yX0_hexDigit wsX0_hexDigit) := goodIn_app (goodIn_of _ (by decide +kernel)) ggX0_pastHexNumber_X0_hexDigit
set_option maxRecDepth 20000 in
theorem ggX0_pastHexNumber_X0_fail : GoodIn wsX0_pastHexNumber wsX0_fail := goodIn_r _ [17, 18, 30, 31, 32, 33, 34, 35, 36, 37, 38, 39, 40, 41, 42] (by decide +kernel) (by decide +kernel)
set_option maxRecDepth 20000 in
theorem gX0_pastHexNumber_X0_fail : GoodIn wsX0_pastHexNumber (wsV RX0 126 RX0 yX0_fail wsX0_fail) := goodIn_app (goodIn_of _ (by decide +kernel)) ggX0_pastHexNumber_X0_fail
set_option maxRecDepth 20000 in
theorem ggX0_pastHexNumber_X0_keep : GoodIn wsX0_pastHexNumber wsX0_keep := goodIn_r _ [22, 23, 24, 25, 26, 27, 28, 29, 30, 31, 32, 33, 34, 35, 36, 37, 38, 39, 40, 41, 42] (by decide +kernel) (by decide +kernel)
set_option maxRecDepth 20000 in
theorem gX0_pastHexNumber_X0_keep : GoodIn wsX0_pastHexNumber (wsV RX0 135 RX0 yX0_keep wsX0_keep) := goodIn_app (goodIn_of _ (by decide +kernel)) ggX0_pastHexNumber_X0_keep
theorem dX0_pastHexNumber_0 : decode cX0_pastHexNumber 0 = .ok (.iconst 0, 1) := by decide +kernel
theorem dX0_pastHexNumber_1 : decode cX0_pastHexNumber 1 = .ok (.istore_n 2, 1) := by decide +kernel
theorem dX0_pastHexNumber_2 : decode cX0_pastHexNumber 2 = .ok (.iload_n 1, 1) := by decide +kernel
theorem dX0_pastHexNumber_3 : decode cX0_pastHexNumber 3 = .ok (.iconst 2, 1) := by decide +kernel
theorem dX0_pastHexNumber_4 : decode cX0_pastHexNumber 4 = .ok (.iadd, 1) := by decide +kernel
theorem dX0_pastHexNumber_5 : decode cX0_pastHexNumber 5 = .ok (.istore_n 3, 1) := by decide +kernel
theorem dX0_pastHexNumber_6 : decode cX0_pastHexNumber 6 = .ok (.iload_n 3, 1) := by decide +kernel
theorem dX0_pastHexNumber_7 : decode cX0_pastHexNumber 7 = .ok (.aload_n 0, 1) := by decide +kernel
theorem dX0_pastHexNumber_8 : decode cX0_pastHexNumber 8 = .ok (.getfield 39, 3) := by decide +kernel
theorem dX0_pastHexNumber_11 : decode cX0_pastHexNumber 11 = .ok (.if_icmp .ge 33, 3) := by decide +kernel
theorem dX0_pastHexNumber_14 : decode cX0_pastHexNumber 14 = .ok (.aload_n 0, 1) := by decide +kernel
theorem dX0_pastHexNumber_15 : decode cX0_pastHexNumber 15 = .ok (.iload_n 3, 1) := by decide +kernel
theorem dX0_pastHexNumber_16 : decode cX0_pastHexNumber 16 = .ok (.invokevirtual 78, 3) := by decide +kernel
theorem dX0_pastHexNumber_19 : decode cX0_pastHexNumber 19 = .ok (.invokestatic 151, 3) := by decide +kernel
theorem dX0_pastHexNumber_22 : decode cX0_pastHexNumber 22 = .ok (.ifCond .lt 22, 3) := by decide +kernel
theorem dX0_pastHexNumber_25 : decode cX0_pastHexNumber 25 = .ok (.iload_n 2, 1) := by decide +kernel
theorem dX0_pastHexNumber_26 : decode cX0_pastHexNumber 26 = .ok (.iconst 4, 1) := by decide +kernel
theorem dX0_pastHexNumber_27 : decode cX0_pastHexNumber 27 = .ok (.ishl, 1) := by decide +kernel
theorem dX0_pastHexNumber_28 : decode cX0_pastHexNumber 28 = .ok (.aload_n 0, 1) := by decide +kernel
theorem dX0_pastHexNumber_29 : decode cX0_pastHexNumber 29 = .ok (.iload_n 3, 1) := by decide +kernel
theorem dX0_pastHexNumber_30 : decode cX0_pastHexNumber 30 = .ok (.invokevirtual 78, 3) := by decide +kernel
theorem dX0_pastHexNumber_33 : decode cX0_pastHexNumber 33 = .ok (.invokestatic 151, 3) := by decide +kernel
theorem dX0_pastHexNumber_36 : decode cX0_pastHexNumber 36 = .ok (.ior, 1) := by decide +kernel
theorem dX0_pastHexNumber_37 : decode cX0_pastHexNumber 37 = .ok (.istore_n 2, 1) := by decide +kernel
theorem dX0_pastHexNumber_38 : decode cX0_pastHexNumber 38 = .ok (.iinc 3 1, 3) := by decide +kernel
theorem dX0_pastHexNumber_41 : decode cX0_pastHexNumber 41 = .ok (.goto (-35), 3) := by decide +kernel
theorem dX0_pastHexNumber_44 : decode cX0_pastHexNumber 44 = .ok (.iload_n 3, 1) := by decide +kernel
theorem dX0_pastHexNumber_45 : decode cX0_pastHexNumber 45 = .ok (.iload_n 1, 1) := by decide +kernel
theorem dX0_pastHexNumber_46 : decode cX0_pastHexNumber 46 = .ok (.isub, 1) := by decide +kernel
theorem dX0_pastHexNumber_47 : decode cX0_pastHexNumber 47 = .ok (.iconst 2, 1) := by decide +kernel
theorem dX0_pastHexNumber_48 : decode cX0_pastHexNumber 48 = .ok (.isub, 1) := by decide +kernel
theorem dX0_pastHexNumber_49 : decode cX0_pastHexNumber 49 = .ok (.bipush 8, 2) := by decide +kernel
theorem dX0_pastHexNumber_51 : decode cX0_pastHexNumber 51 = .ok (.if_icmp .le 11, 3) := by decide +kernel
theorem dX0_pastHexNumber_54 : decode cX0_pastHexNumber 54 = .ok (.aload_n 0, 1) := by decide +kernel
theorem dX0_pastHexNumber_55 : decode cX0_pastHexNumber 55 = .ok (.iload_n 1, 1) := by decide +kernel
theorem dX0_pastHexNumber_56 : decode cX0_pastHexNumber 56 = .ok (.invokevirtual 126, 3) := by decide +kernel
theorem dX0_pastHexNumber_59 : decode cX0_pastHexNumber 59 = .ok (.goto 11, 3) := by decide +kernel
theorem dX0_pastHexNumber_62 : decode cX0_pastHexNumber 62 = .ok (.aload_n 0, 1) := by decide +kernel
theorem dX0_pastHexNumber_63 : decode cX0_pastHexNumber 63 = .ok (.iconst 2, 1) := by decide +kernel
theorem dX0_pastHexNumber_64 : decode cX0_pastHexNumber 64 = .ok (.iload_n 2, 1) := by decide +kernel
theorem dX0_pastHexNumber_65 : decode cX0_pastHexNumber 65 = .ok (.iload_n 1, 1) := by decide +kernel
theorem dX0_pastHexNumber_66 : decode cX0_pastHexNumber 66 = .ok (.iload_n 3, 1) := by decide +kernel
theorem dX0_pastHexNumber_67 : decode cX0_pastHexNumber 67 = .ok (.invokevirtual 135, 3) := by decide +kernel
theorem dX0_pastHexNumber_70 : decode cX0_pastHexNumber 70 = .ok (.ireturn, 1) := by decide +kernel
set_option maxRecDepth 20000 in
theorem ggX0_pastQuotedCode_X0_codeWidth : GoodIn wsX0_pastQuotedCode wsX0_codeWidth := goodIn_r _ [5, 6, 7, 8, 4, 9, 10, 11, 12, 13, 14, 35, 36, 37, 38, 39, 40, 41, 42, 43, 44, 45, 46, 47] (by decide +kernel) (by decide +kernel)
set_option maxRecDepth 20000 in
theorem gX0_pastQuotedCode_X0_codeWidth : GoodIn wsX0_pastQuotedCode (wsV RX0 71 RX0 yX0_codeWidth wsX0_codeWidth) := goodIn_app (goodIn_of _ (by decide +kernel)) ggX0_pastQuotedCode_X0_codeWidth
set_option maxRecDepth 20000 in
theorem ggX0_pastQuotedCode_X0_byteAt : GoodIn wsX0_pastQuotedCode wsX0_byteAt := goodIn_r _ [9, 10, 11, 35, 36, 37, 38, 39, 40, 41, 42, 43, 44, 45, 46, 47] (by decide +kernel) (by decide +kernel)
set_option maxRecDepth 20000 in
theorem gX0_pastQuotedCode_X0_byteAt : GoodIn wsX0_pastQuotedCode (wsV RX0 78 RX0 yX0_byteAt wsX0_byteAt) := goodIn_app (goodIn_of _ (by decide +kernel)) ggX0_pastQuotedCode_X0_byteAt
set_option maxRecDepth 20000 in
theorem ggX0_pastQuotedCode_X0_fail : GoodIn wsX0_pastQuotedCode wsX0_fail := goodIn_r _ [18, 19, 35, 36, 37, 38, 39, 40, 41, 42, 43, 44, 45, 46, 47] (by decide +kernel) (by decide +kernel)
set_option maxRecDepth 20000 in
theorem gX0_pastQuotedCode_X0_fail : GoodIn wsX0_pastQuotedCode (wsV RX0 126 RX0 yX0_fail wsX0_fail) := goodIn_app (goodIn_of _ (by decide +kernel)) ggX0_pastQuotedCode_X0_fail
set_option maxRecDepth 20000 in
theorem ggX0_pastQuotedCode_X0_codeAt : GoodIn wsX0_pastQuotedCode wsX0_codeAt := goodIn_r _ [23, 6, 7, 8, 4, 9, 10, 11, 12, 13, 14, 35, 36, 37, 38, 39, 40, 41, 42, 43, 44, 45, 46, 47] (by decide +kernel) (by decide +kernel)
set_option maxRecDepth 20000 in
theorem gX0_pastQuotedCode_X0_codeAt : GoodIn wsX0_pastQuotedCode (wsV RX0 75 RX0 yX0_codeAt wsX0_codeAt) := goodIn_app (goodIn_of _ (by decide +kernel)) ggX0_pastQuotedCode_X0_codeAt
set_option maxRecDepth 20000 in
theorem ggX0_pastQuotedCode_X0_keep : GoodIn wsX0_pastQuotedCode wsX0_keep := goodIn_r _ [27, 28, 29, 30, 31, 32, 33, 34, 35, 36, 37, 38, 39, 40, 41, 42, 43, 44, 45, 46, 47] (by decide +kernel) (by decide +kernel)
set_option maxRecDepth 20000 in
theorem gX0_pastQuotedCode_X0_keep : GoodIn wsX0_pastQuotedCode (wsV RX0 135 RX0 yX0_keep wsX0_keep) := goodIn_app (goodIn_of _ (by decide +kernel)) ggX0_pastQuotedCode_X0_keep
theorem dX0_pastQuotedCode_0 : decode cX0_pastQuotedCode 0 = .ok (.aload_n 0, 1) := by decide +kernel
theorem dX0_pastQuotedCode_1 : decode cX0_pastQuotedCode 1 = .ok (.iload_n 1, 1) := by decide +kernel
theorem dX0_pastQuotedCode_2 : decode cX0_pastQuotedCode 2 = .ok (.iconst 1, 1) := by decide +kernel
theorem dX0_pastQuotedCode_3 : decode cX0_pastQuotedCode 3 = .ok (.iadd, 1) := by decide +kernel
theorem dX0_pastQuotedCode_4 : decode cX0_pastQuotedCode 4 = .ok (.bipush 39, 2) := by decide +kernel
theorem dX0_pastQuotedCode_6 : decode cX0_pastQuotedCode 6 = .ok (.invokevirtual 71, 3) := by decide +kernel
theorem dX0_pastQuotedCode_9 : decode cX0_pastQuotedCode 9 = .ok (.istore_n 2, 1) := by decide +kernel
theorem dX0_pastQuotedCode_10 : decode cX0_pastQuotedCode 10 = .ok (.iload_n 1, 1) := by decide +kernel
theorem dX0_pastQuotedCode_11 : decode cX0_pastQuotedCode 11 = .ok (.iconst 1, 1) := by decide +kernel
theorem dX0_pastQuotedCode_12 : decode cX0_pastQuotedCode 12 = .ok (.iadd, 1) := by decide +kernel
theorem dX0_pastQuotedCode_13 : decode cX0_pastQuotedCode 13 = .ok (.iload_n 2, 1) := by decide +kernel
theorem dX0_pastQuotedCode_14 : decode cX0_pastQuotedCode 14 = .ok (.iadd, 1) := by decide +kernel
theorem dX0_pastQuotedCode_15 : decode cX0_pastQuotedCode 15 = .ok (.istore_n 3, 1) := by decide +kernel
theorem dX0_pastQuotedCode_16 : decode cX0_pastQuotedCode 16 = .ok (.iload_n 2, 1) := by decide +kernel
theorem dX0_pastQuotedCode_17 : decode cX0_pastQuotedCode 17 = .ok (.ifCond .eq 13, 3) := by decide +kernel
theorem dX0_pastQuotedCode_20 : decode cX0_pastQuotedCode 20 = .ok (.aload_n 0, 1) := by decide +kernel
theorem dX0_pastQuotedCode_21 : decode cX0_pastQuotedCode 21 = .ok (.iload_n 3, 1) := by decide +kernel
theorem dX0_pastQuotedCode_22 : decode cX0_pastQuotedCode 22 = .ok (.invokevirtual 78, 3) := by decide +kernel
theorem dX0_pastQuotedCode_25 : decode cX0_pastQuotedCode 25 = .ok (.bipush 39, 2) := by decide +kernel
theorem dX0_pastQuotedCode_27 : decode cX0_pastQuotedCode 27 = .ok (.if_icmp .eq 9, 3) := by decide +kernel
theorem dX0_pastQuotedCode_30 : decode cX0_pastQuotedCode 30 = .ok (.aload_n 0, 1) := by decide +kernel
theorem dX0_pastQuotedCode_31 : decode cX0_pastQuotedCode 31 = .ok (.iload_n 1, 1) := by decide +kernel
theorem dX0_pastQuotedCode_32 : decode cX0_pastQuotedCode 32 = .ok (.invokevirtual 126, 3) := by decide +kernel
theorem dX0_pastQuotedCode_35 : decode cX0_pastQuotedCode 35 = .ok (.ireturn, 1) := by decide +kernel
theorem dX0_pastQuotedCode_36 : decode cX0_pastQuotedCode 36 = .ok (.aload_n 0, 1) := by decide +kernel
theorem dX0_pastQuotedCode_37 : decode cX0_pastQuotedCode 37 = .ok (.iconst 2, 1) := by decide +kernel
theorem dX0_pastQuotedCode_38 : decode cX0_pastQuotedCode 38 = .ok (.aload_n 0, 1) := by decide +kernel
theorem dX0_pastQuotedCode_39 : decode cX0_pastQuotedCode 39 = .ok (.iload_n 1, 1) := by decide +kernel
theorem dX0_pastQuotedCode_40 : decode cX0_pastQuotedCode 40 = .ok (.iconst 1, 1) := by decide +kernel
theorem dX0_pastQuotedCode_41 : decode cX0_pastQuotedCode 41 = .ok (.iadd, 1) := by decide +kernel
theorem dX0_pastQuotedCode_42 : decode cX0_pastQuotedCode 42 = .ok (.invokevirtual 75, 3) := by decide +kernel
theorem dX0_pastQuotedCode_45 : decode cX0_pastQuotedCode 45 = .ok (.iload_n 1, 1) := by decide +kernel
theorem dX0_pastQuotedCode_46 : decode cX0_pastQuotedCode 46 = .ok (.iload_n 3, 1) := by decide +kernel
theorem dX0_pastQuotedCode_47 : decode cX0_pastQuotedCode 47 = .ok (.iconst 1, 1) := by decide +kernel
theorem dX0_pastQuotedCode_48 : decode cX0_pastQuotedCode 48 = .ok (.iadd, 1) := by decide +kernel
theorem dX0_pastQuotedCode_49 : decode cX0_pastQuotedCode 49 = .ok (.invokevirtual 135, 3) := by decide +kernel
theorem dX0_pastQuotedCode_52 : decode cX0_pastQuotedCode 52 = .ok (.ireturn, 1) := by decide +kernel
set_option maxRecDepth 20000 in
theorem ggX0_pastString_X0_byteAt : GoodIn wsX0_pastString wsX0_byteAt := goodIn_r _ [5, 6, 7, 31, 32, 33, 34, 35, 36, 37, 38, 39, 40, 41, 42, 43] (by decide +kernel) (by decide +kernel)
set_option maxRecDepth 20000 in
theorem gX0_pastString_X0_byteAt : GoodIn wsX0_pastString (wsV RX0 78 RX0 yX0_byteAt wsX0_byteAt) := goodIn_app (goodIn_of _ (by decide +kernel)) ggX0_pastString_X0_byteAt
set_option maxRecDepth 20000 in
theorem ggX0_pastString_X0_keep : GoodIn wsX0_pastString wsX0_keep := goodIn_r _ [11, 12, 13, 14, 15, 16, 17, 18, 31, 32, 33, 34, 35, 36, 37, 38, 39, 40, 41, 42, 43] (by decide +kernel) (by decide +kernel)
set_option maxRecDepth 20000 in
theorem gX0_pastString_X0_keep : GoodIn wsX0_pastString (wsV RX0 135 RX0 yX0_keep wsX0_keep) := goodIn_app (goodIn_of _ (by decide +kernel)) ggX0_pastString_X0_keep
set_option maxRecDepth 20000 in
theorem ggX0_pastString_X0_codeWidth : GoodIn wsX0_pastString wsX0_codeWidth := goodIn_r _ [22, 1, 2, 3, 4, 5, 6, 7, 23, 24, 25, 31, 32, 33, 34, 35, 36, 37, 38, 39, 40, 41, 42, 43] (by decide +kernel) (by decide +kernel)
set_option maxRecDepth 20000 in
theorem gX0_pastString_X0_codeWidth : GoodIn wsX0_pastString (wsV RX0 71 RX0 yX0_codeWidth wsX0_codeWidth) := goodIn_app (goodIn_of _ (by decide +kernel)) ggX0_pastString_X0_codeWidth
set_option maxRecDepth 20000 in
theorem ggX0_pastString_X0_fail : GoodIn wsX0_pastString wsX0_fail := goodIn_r _ [29, 30, 31, 32, 33, 34, 35, 36, 37, 38, 39, 40, 41, 42, 43] (by decide +kernel) (by decide +kernel)
set_option maxRecDepth 20000 in
theorem gX0_pastString_X0_fail : GoodIn wsX0_pastString (wsV RX0 126 RX0 yX0_fail wsX0_fail) := goodIn_app (goodIn_of _ (by decide +kernel)) ggX0_pastString_X0_fail
theorem dX0_pastString_0 : decode cX0_pastString 0 = .ok (.iload_n 1, 1) := by decide +kernel
theorem dX0_pastString_1 : decode cX0_pastString 1 = .ok (.iconst 1, 1) := by decide +kernel
theorem dX0_pastString_2 : decode cX0_pastString 2 = .ok (.iadd, 1) := by decide +kernel
theorem dX0_pastString_3 : decode cX0_pastString 3 = .ok (.istore_n 2, 1) := by decide +kernel
theorem dX0_pastString_4 : decode cX0_pastString 4 = .ok (.iconst 0, 1) := by decide +kernel
theorem dX0_pastString_5 : decode cX0_pastString 5 = .ok (.istore_n 3, 1) := by decide +kernel
theorem dX0_pastString_6 : decode cX0_pastString 6 = .ok (.iload_n 3, 1) := by decide +kernel
theorem dX0_pastString_7 : decode cX0_pastString 7 = .ok (.sipush 200, 3) := by decide +kernel
theorem dX0_pastString_10 : decode cX0_pastString 10 = .ok (.if_icmp .gt 55, 3) := by decide +kernel
theorem dX0_pastString_13 : decode cX0_pastString 13 = .ok (.aload_n 0, 1) := by decide +kernel
theorem dX0_pastString_14 : decode cX0_pastString 14 = .ok (.iload_n 2, 1) := by decide +kernel
theorem dX0_pastString_15 : decode cX0_pastString 15 = .ok (.invokevirtual 78, 3) := by decide +kernel
theorem dX0_pastString_18 : decode cX0_pastString 18 = .ok (.bipush 34, 2) := by decide +kernel
theorem dX0_pastString_20 : decode cX0_pastString 20 = .ok (.if_icmp .ne 14, 3) := by decide +kernel
theorem dX0_pastString_23 : decode cX0_pastString 23 = .ok (.aload_n 0, 1) := by decide +kernel
theorem dX0_pastString_24 : decode cX0_pastString 24 = .ok (.iconst 3, 1) := by decide +kernel
theorem dX0_pastString_25 : decode cX0_pastString 25 = .ok (.iload_n 3, 1) := by decide +kernel
theorem dX0_pastString_26 : decode cX0_pastString 26 = .ok (.iload_n 1, 1) := by decide +kernel
theorem dX0_pastString_27 : decode cX0_pastString 27 = .ok (.iload_n 2, 1) := by decide +kernel
theorem dX0_pastString_28 : decode cX0_pastString 28 = .ok (.iconst 1, 1) := by decide +kernel
theorem dX0_pastString_29 : decode cX0_pastString 29 = .ok (.iadd, 1) := by decide +kernel
theorem dX0_pastString_30 : decode cX0_pastString 30 = .ok (.invokevirtual 135, 3) := by decide +kernel
theorem dX0_pastString_33 : decode cX0_pastString 33 = .ok (.ireturn, 1) := by decide +kernel
theorem dX0_pastString_34 : decode cX0_pastString 34 = .ok (.aload_n 0, 1) := by decide +kernel
theorem dX0_pastString_35 : decode cX0_pastString 35 = .ok (.iload_n 2, 1) := by decide +kernel
theorem dX0_pastString_36 : decode cX0_pastString 36 = .ok (.bipush 34, 2) := by decide +kernel
theorem dX0_pastString_38 : decode cX0_pastString 38 = .ok (.invokevirtual 71, 3) := by decide +kernel
theorem dX0_pastString_41 : decode cX0_pastString 41 = .ok (.istore 4, 2) := by decide +kernel
theorem dX0_pastString_43 : decode cX0_pastString 43 = .ok (.iload 4, 2) := by decide +kernel
theorem dX0_pastString_45 : decode cX0_pastString 45 = .ok (.ifCond .ne 9, 3) := by decide +kernel
theorem dX0_pastString_48 : decode cX0_pastString 48 = .ok (.aload_n 0, 1) := by decide +kernel
theorem dX0_pastString_49 : decode cX0_pastString 49 = .ok (.iload_n 1, 1) := by decide +kernel
theorem dX0_pastString_50 : decode cX0_pastString 50 = .ok (.invokevirtual 126, 3) := by decide +kernel
theorem dX0_pastString_53 : decode cX0_pastString 53 = .ok (.ireturn, 1) := by decide +kernel
theorem dX0_pastString_54 : decode cX0_pastString 54 = .ok (.iload_n 2, 1) := by decide +kernel
theorem dX0_pastString_55 : decode cX0_pastString 55 = .ok (.iload 4, 2) := by decide +kernel
theorem dX0_pastString_57 : decode cX0_pastString 57 = .ok (.iadd, 1) := by decide +kernel
theorem dX0_pastString_58 : decode cX0_pastString 58 = .ok (.istore_n 2, 1) := by decide +kernel
theorem dX0_pastString_59 : decode cX0_pastString 59 = .ok (.iinc 3 1, 3) := by decide +kernel
theorem dX0_pastString_62 : decode cX0_pastString 62 = .ok (.goto (-56), 3) := by decide +kernel
theorem dX0_pastString_65 : decode cX0_pastString 65 = .ok (.aload_n 0, 1) := by decide +kernel
theorem dX0_pastString_66 : decode cX0_pastString 66 = .ok (.iload_n 1, 1) := by decide +kernel
theorem dX0_pastString_67 : decode cX0_pastString 67 = .ok (.invokevirtual 126, 3) := by decide +kernel
theorem dX0_pastString_70 : decode cX0_pastString 70 = .ok (.ireturn, 1) := by decide +kernel
set_option maxRecDepth 20000 in
theorem ggX0_pastSign_X0_byteAt : GoodIn wsX0_pastSign wsX0_byteAt := goodIn_r _ [5, 6, 7, 39, 40, 41, 42, 43, 44, 45, 46, 47, 48, 49, 50, 51] (by decide +kernel) (by decide +kernel)
set_option maxRecDepth 20000 in
theorem gX0_pastSign_X0_byteAt : GoodIn wsX0_pastSign (wsV RX0 78 RX0 yX0_byteAt wsX0_byteAt) := goodIn_app (goodIn_of _ (by decide +kernel)) ggX0_pastSign_X0_byteAt
set_option maxRecDepth 20000 in
theorem ggX0_pastSign_X0_signOfThree : GoodIn wsX0_pastSign wsX0_signOfThree := goodIn_r _ [10] (by decide +kernel) (by decide +kernel)
set_option maxRecDepth 20000 in
theorem gX0_pastSign_X0_signOfThree : GoodIn wsX0_pastSign (va_wsS RX0 154 yX0_signOfThree wsX0_signOfThree) := goodIn_app (goodIn_of _ (by decide +kernel)) ggX0_pastSign_X0_signOfThree
set_option maxRecDepth 20000 in
theorem ggX0_pastSign_X0_keep : GoodIn wsX0_pastSign wsX0_keep := goodIn_r _ [14, 15, 16, 17, 18, 19, 20, 21, 39, 40, 41, 42, 43, 44, 45, 46, 47, 48, 49, 50, 51] (by decide +kernel) (by decide +kernel)
set_option maxRecDepth 20000 in
theorem gX0_pastSign_X0_keep : GoodIn wsX0_pastSign (wsV RX0 135 RX0 yX0_keep wsX0_keep) := goodIn_app (goodIn_of _ (by decide +kernel)) ggX0_pastSign_X0_keep
set_option maxRecDepth 20000 in
theorem ggX0_pastSign_X0_signOfTwo : GoodIn wsX0_pastSign wsX0_signOfTwo := goodIn_r _ [24, 25, 26, 4, 27, 28, 29, 30] (by decide +kernel) (by decide +kernel)
set_option maxRecDepth 20000 in
theorem gX0_pastSign_X0_signOfTwo : GoodIn wsX0_pastSign (va_wsS RX0 158 yX0_signOfTwo wsX0_signOfTwo) := goodIn_app (goodIn_of _ (by decide +kernel)) ggX0_pastSign_X0_signOfTwo
set_option maxRecDepth 20000 in
theorem ggX0_pastSign_X0_signOfOne : GoodIn wsX0_pastSign wsX0_signOfOne := goodIn_r _ [33] (by decide +kernel) (by decide +kernel)
set_option maxRecDepth 20000 in
theorem gX0_pastSign_X0_signOfOne : GoodIn wsX0_pastSign (va_wsS RX0 161 yX0_signOfOne wsX0_signOfOne) := goodIn_app (goodIn_of _ (by decide +kernel)) ggX0_pastSign_X0_signOfOne
set_option maxRecDepth 20000 in
theorem ggX0_pastSign_X0_fail : GoodIn wsX0_pastSign wsX0_fail := goodIn_r _ [37, 38, 39, 40, 41, 42, 43, 44, 45, 46, 47, 48, 49, 50, 51] (by decide +kernel) (by decide +kernel)
set_option maxRecDepth 20000 in
theorem gX0_pastSign_X0_fail : GoodIn wsX0_pastSign (wsV RX0 126 RX0 yX0_fail wsX0_fail) := goodIn_app (goodIn_of _ (by decide +kernel)) ggX0_pastSign_X0_fail
theorem dX0_pastSign_0 : decode cX0_pastSign 0 = .ok (.aload_n 0, 1) := by decide +kernel
theorem dX0_pastSign_1 : decode cX0_pastSign 1 = .ok (.iload_n 1, 1) := by decide +kernel
theorem dX0_pastSign_2 : decode cX0_pastSign 2 = .ok (.invokevirtual 78, 3) := by decide +kernel
theorem dX0_pastSign_5 : decode cX0_pastSign 5 = .ok (.istore_n 2, 1) := by decide +kernel
theorem dX0_pastSign_6 : decode cX0_pastSign 6 = .ok (.aload_n 0, 1) := by decide +kernel
theorem dX0_pastSign_7 : decode cX0_pastSign 7 = .ok (.iload_n 1, 1) := by decide +kernel
theorem dX0_pastSign_8 : decode cX0_pastSign 8 = .ok (.iconst 1, 1) := by decide +kernel
theorem dX0_pastSign_9 : decode cX0_pastSign 9 = .ok (.iadd, 1) := by decide +kernel
theorem dX0_pastSign_10 : decode cX0_pastSign 10 = .ok (.invokevirtual 78, 3) := by decide +kernel
theorem dX0_pastSign_13 : decode cX0_pastSign 13 = .ok (.istore_n 3, 1) := by decide +kernel
theorem dX0_pastSign_14 : decode cX0_pastSign 14 = .ok (.iload_n 2, 1) := by decide +kernel
theorem dX0_pastSign_15 : decode cX0_pastSign 15 = .ok (.iload_n 3, 1) := by decide +kernel
theorem dX0_pastSign_16 : decode cX0_pastSign 16 = .ok (.aload_n 0, 1) := by decide +kernel
theorem dX0_pastSign_17 : decode cX0_pastSign 17 = .ok (.iload_n 1, 1) := by decide +kernel
theorem dX0_pastSign_18 : decode cX0_pastSign 18 = .ok (.iconst 2, 1) := by decide +kernel
theorem dX0_pastSign_19 : decode cX0_pastSign 19 = .ok (.iadd, 1) := by decide +kernel
theorem dX0_pastSign_20 : decode cX0_pastSign 20 = .ok (.invokevirtual 78, 3) := by decide +kernel
theorem dX0_pastSign_23 : decode cX0_pastSign 23 = .ok (.invokestatic 154, 3) := by decide +kernel
theorem dX0_pastSign_26 : decode cX0_pastSign 26 = .ok (.istore 4, 2) := by decide +kernel
theorem dX0_pastSign_28 : decode cX0_pastSign 28 = .ok (.iload 4, 2) := by decide +kernel
theorem dX0_pastSign_30 : decode cX0_pastSign 30 = .ok (.ifCond .lt 15, 3) := by decide +kernel
theorem dX0_pastSign_33 : decode cX0_pastSign 33 = .ok (.aload_n 0, 1) := by decide +kernel
theorem dX0_pastSign_34 : decode cX0_pastSign 34 = .ok (.iconst 5, 1) := by decide +kernel
theorem dX0_pastSign_35 : decode cX0_pastSign 35 = .ok (.iload 4, 2) := by decide +kernel
theorem dX0_pastSign_37 : decode cX0_pastSign 37 = .ok (.iload_n 1, 1) := by decide +kernel
theorem dX0_pastSign_38 : decode cX0_pastSign 38 = .ok (.iload_n 1, 1) := by decide +kernel
theorem dX0_pastSign_39 : decode cX0_pastSign 39 = .ok (.iconst 3, 1) := by decide +kernel
theorem dX0_pastSign_40 : decode cX0_pastSign 40 = .ok (.iadd, 1) := by decide +kernel
theorem dX0_pastSign_41 : decode cX0_pastSign 41 = .ok (.invokevirtual 135, 3) := by decide +kernel
theorem dX0_pastSign_44 : decode cX0_pastSign 44 = .ok (.ireturn, 1) := by decide +kernel
theorem dX0_pastSign_45 : decode cX0_pastSign 45 = .ok (.iload_n 2, 1) := by decide +kernel
theorem dX0_pastSign_46 : decode cX0_pastSign 46 = .ok (.iload_n 3, 1) := by decide +kernel
theorem dX0_pastSign_47 : decode cX0_pastSign 47 = .ok (.invokestatic 158, 3) := by decide +kernel
theorem dX0_pastSign_50 : decode cX0_pastSign 50 = .ok (.istore 5, 2) := by decide +kernel
theorem dX0_pastSign_52 : decode cX0_pastSign 52 = .ok (.iload 5, 2) := by decide +kernel
theorem dX0_pastSign_54 : decode cX0_pastSign 54 = .ok (.ifCond .lt 15, 3) := by decide +kernel
theorem dX0_pastSign_57 : decode cX0_pastSign 57 = .ok (.aload_n 0, 1) := by decide +kernel
theorem dX0_pastSign_58 : decode cX0_pastSign 58 = .ok (.iconst 5, 1) := by decide +kernel
theorem dX0_pastSign_59 : decode cX0_pastSign 59 = .ok (.iload 5, 2) := by decide +kernel
theorem dX0_pastSign_61 : decode cX0_pastSign 61 = .ok (.iload_n 1, 1) := by decide +kernel
theorem dX0_pastSign_62 : decode cX0_pastSign 62 = .ok (.iload_n 1, 1) := by decide +kernel
theorem dX0_pastSign_63 : decode cX0_pastSign 63 = .ok (.iconst 2, 1) := by decide +kernel
theorem dX0_pastSign_64 : decode cX0_pastSign 64 = .ok (.iadd, 1) := by decide +kernel
theorem dX0_pastSign_65 : decode cX0_pastSign 65 = .ok (.invokevirtual 135, 3) := by decide +kernel
theorem dX0_pastSign_68 : decode cX0_pastSign 68 = .ok (.ireturn, 1) := by decide +kernel
theorem dX0_pastSign_69 : decode cX0_pastSign 69 = .ok (.iload_n 2, 1) := by decide +kernel
theorem dX0_pastSign_70 : decode cX0_pastSign 70 = .ok (.invokestatic 161, 3) := by decide +kernel
theorem dX0_pastSign_73 : decode cX0_pastSign 73 = .ok (.istore 6, 2) := by decide +kernel
theorem dX0_pastSign_75 : decode cX0_pastSign 75 = .ok (.iload 6, 2) := by decide +kernel
theorem dX0_pastSign_77 : decode cX0_pastSign 77 = .ok (.ifCond .lt 17, 3) := by decide +kernel
theorem dX0_pastSign_80 : decode cX0_pastSign 80 = .ok (.aload_n 0, 1) := by decide +kernel
theorem dX0_pastSign_81 : decode cX0_pastSign 81 = .ok (.iconst 5, 1) := by decide +kernel
theorem dX0_pastSign_82 : decode cX0_pastSign 82 = .ok (.iload 6, 2) := by decide +kernel
theorem dX0_pastSign_84 : decode cX0_pastSign 84 = .ok (.iload_n 1, 1) := by decide +kernel
theorem dX0_pastSign_85 : decode cX0_pastSign 85 = .ok (.iload_n 1, 1) := by decide +kernel
theorem dX0_pastSign_86 : decode cX0_pastSign 86 = .ok (.iconst 1, 1) := by decide +kernel
theorem dX0_pastSign_87 : decode cX0_pastSign 87 = .ok (.iadd, 1) := by decide +kernel
theorem dX0_pastSign_88 : decode cX0_pastSign 88 = .ok (.invokevirtual 135, 3) := by decide +kernel
theorem dX0_pastSign_91 : decode cX0_pastSign 91 = .ok (.goto 8, 3) := by decide +kernel
theorem dX0_pastSign_94 : decode cX0_pastSign 94 = .ok (.aload_n 0, 1) := by decide +kernel
theorem dX0_pastSign_95 : decode cX0_pastSign 95 = .ok (.iload_n 1, 1) := by decide +kernel
theorem dX0_pastSign_96 : decode cX0_pastSign 96 = .ok (.invokevirtual 126, 3) := by decide +kernel
theorem dX0_pastSign_99 : decode cX0_pastSign 99 = .ok (.ireturn, 1) := by decide +kernel
theorem dX0_keep_0 : decode cX0_keep 0 = .ok (.aload_n 0, 1) := by decide +kernel
theorem dX0_keep_1 : decode cX0_keep 1 = .ok (.getfield 48, 3) := by decide +kernel
theorem dX0_keep_4 : decode cX0_keep 4 = .ok (.ifCond .lt 81, 3) := by decide +kernel
theorem dX0_keep_7 : decode cX0_keep 7 = .ok (.aload_n 0, 1) := by decide +kernel
theorem dX0_keep_8 : decode cX0_keep 8 = .ok (.getfield 48, 3) := by decide +kernel
theorem dX0_keep_11 : decode cX0_keep 11 = .ok (.aload_n 0, 1) := by decide +kernel
theorem dX0_keep_12 : decode cX0_keep 12 = .ok (.getfield 16, 3) := by decide +kernel
theorem dX0_keep_15 : decode cX0_keep 15 = .ok (.arraylength, 1) := by decide +kernel
theorem dX0_keep_16 : decode cX0_keep 16 = .ok (.if_icmp .ge 69, 3) := by decide +kernel
theorem dX0_keep_19 : decode cX0_keep 19 = .ok (.aload_n 0, 1) := by decide +kernel
theorem dX0_keep_20 : decode cX0_keep 20 = .ok (.getfield 16, 3) := by decide +kernel
theorem dX0_keep_23 : decode cX0_keep 23 = .ok (.aload_n 0, 1) := by decide +kernel
theorem dX0_keep_24 : decode cX0_keep 24 = .ok (.getfield 48, 3) := by decide +kernel
theorem dX0_keep_27 : decode cX0_keep 27 = .ok (.iload_n 1, 1) := by decide +kernel
theorem dX0_keep_28 : decode cX0_keep 28 = .ok (.iastore, 1) := by decide +kernel
theorem dX0_keep_29 : decode cX0_keep 29 = .ok (.aload_n 0, 1) := by decide +kernel
theorem dX0_keep_30 : decode cX0_keep 30 = .ok (.getfield 29, 3) := by decide +kernel
theorem dX0_keep_33 : decode cX0_keep 33 = .ok (.aload_n 0, 1) := by decide +kernel
theorem dX0_keep_34 : decode cX0_keep 34 = .ok (.getfield 48, 3) := by decide +kernel
theorem dX0_keep_37 : decode cX0_keep 37 = .ok (.iload_n 2, 1) := by decide +kernel
theorem dX0_keep_38 : decode cX0_keep 38 = .ok (.iastore, 1) := by decide +kernel
theorem dX0_keep_39 : decode cX0_keep 39 = .ok (.aload_n 0, 1) := by decide +kernel
theorem dX0_keep_40 : decode cX0_keep 40 = .ok (.getfield 20, 3) := by decide +kernel
theorem dX0_keep_43 : decode cX0_keep 43 = .ok (.aload_n 0, 1) := by decide +kernel
theorem dX0_keep_44 : decode cX0_keep 44 = .ok (.getfield 48, 3) := by decide +kernel
theorem dX0_keep_47 : decode cX0_keep 47 = .ok (.iload_n 3, 1) := by decide +kernel
theorem dX0_keep_48 : decode cX0_keep 48 = .ok (.iastore, 1) := by decide +kernel
theorem dX0_keep_49 : decode cX0_keep 49 = .ok (.aload_n 0, 1) := by decide +kernel
theorem dX0_keep_50 : decode cX0_keep 50 = .ok (.getfield 23, 3) := by decide +kernel
theorem dX0_keep_53 : decode cX0_keep 53 = .ok (.aload_n 0, 1) := by decide +kernel
theorem dX0_keep_54 : decode cX0_keep 54 = .ok (.getfield 48, 3) := by decide +kernel
theorem dX0_keep_57 : decode cX0_keep 57 = .ok (.iload 4, 2) := by decide +kernel
theorem dX0_keep_59 : decode cX0_keep 59 = .ok (.iload_n 3, 1) := by decide +kernel
theorem dX0_keep_60 : decode cX0_keep 60 = .ok (.isub, 1) := by decide +kernel
theorem dX0_keep_61 : decode cX0_keep 61 = .ok (.iastore, 1) := by decide +kernel
theorem dX0_keep_62 : decode cX0_keep 62 = .ok (.aload_n 0, 1) := by decide +kernel
theorem dX0_keep_63 : decode cX0_keep 63 = .ok (.getfield 26, 3) := by decide +kernel
theorem dX0_keep_66 : decode cX0_keep 66 = .ok (.aload_n 0, 1) := by decide +kernel
theorem dX0_keep_67 : decode cX0_keep 67 = .ok (.getfield 48, 3) := by decide +kernel
theorem dX0_keep_70 : decode cX0_keep 70 = .ok (.aload_n 0, 1) := by decide +kernel
theorem dX0_keep_71 : decode cX0_keep 71 = .ok (.getfield 42, 3) := by decide +kernel
theorem dX0_keep_74 : decode cX0_keep 74 = .ok (.iastore, 1) := by decide +kernel
theorem dX0_keep_75 : decode cX0_keep 75 = .ok (.aload_n 0, 1) := by decide +kernel
theorem dX0_keep_76 : decode cX0_keep 76 = .ok (.dup, 1) := by decide +kernel
theorem dX0_keep_77 : decode cX0_keep 77 = .ok (.getfield 48, 3) := by decide +kernel
theorem dX0_keep_80 : decode cX0_keep 80 = .ok (.iconst 1, 1) := by decide +kernel
theorem dX0_keep_81 : decode cX0_keep 81 = .ok (.iadd, 1) := by decide +kernel
theorem dX0_keep_82 : decode cX0_keep 82 = .ok (.putfield 48, 3) := by decide +kernel
theorem dX0_keep_85 : decode cX0_keep 85 = .ok (.iload 4, 2) := by decide +kernel
theorem dX0_keep_87 : decode cX0_keep 87 = .ok (.ireturn, 1) := by decide +kernel
theorem dX0_fail_0 : decode cX0_fail 0 = .ok (.aload_n 0, 1) := by decide +kernel
theorem dX0_fail_1 : decode cX0_fail 1 = .ok (.iload_n 1, 1) := by decide +kernel
theorem dX0_fail_2 : decode cX0_fail 2 = .ok (.putfield 45, 3) := by decide +kernel
theorem dX0_fail_5 : decode cX0_fail 5 = .ok (.iload_n 1, 1) := by decide +kernel
theorem dX0_fail_6 : decode cX0_fail 6 = .ok (.ireturn, 1) := by decide +kernel
theorem dX0_countLine_0 : decode cX0_countLine 0 = .ok (.iload_n 1, 1) := by decide +kernel
theorem dX0_countLine_1 : decode cX0_countLine 1 = .ok (.bipush 10, 2) := by decide +kernel
theorem dX0_countLine_3 : decode cX0_countLine 3 = .ok (.if_icmp .ne 13, 3) := by decide +kernel
theorem dX0_countLine_6 : decode cX0_countLine 6 = .ok (.aload_n 0, 1) := by decide +kernel
theorem dX0_countLine_7 : decode cX0_countLine 7 = .ok (.dup, 1) := by decide +kernel
theorem dX0_countLine_8 : decode cX0_countLine 8 = .ok (.getfield 42, 3) := by decide +kernel
theorem dX0_countLine_11 : decode cX0_countLine 11 = .ok (.iconst 1, 1) := by decide +kernel
theorem dX0_countLine_12 : decode cX0_countLine 12 = .ok (.iadd, 1) := by decide +kernel
theorem dX0_countLine_13 : decode cX0_countLine 13 = .ok (.putfield 42, 3) := by decide +kernel
theorem dX0_countLine_16 : decode cX0_countLine 16 = .ok (.return_, 1) := by decide +kernel
theorem dX0_isToken_0 : decode cX0_isToken 0 = .ok (.iload_n 1, 1) := by decide +kernel
theorem dX0_isToken_1 : decode cX0_isToken 1 = .ok (.ifCond .lt 24, 3) := by decide +kernel
theorem dX0_isToken_4 : decode cX0_isToken 4 = .ok (.iload_n 1, 1) := by decide +kernel
theorem dX0_isToken_5 : decode cX0_isToken 5 = .ok (.aload_n 0, 1) := by decide +kernel
theorem dX0_isToken_6 : decode cX0_isToken 6 = .ok (.getfield 48, 3) := by decide +kernel
theorem dX0_isToken_9 : decode cX0_isToken 9 = .ok (.if_icmp .ge 16, 3) := by decide +kernel
theorem dX0_isToken_12 : decode cX0_isToken 12 = .ok (.iload_n 1, 1) := by decide +kernel
theorem dX0_isToken_13 : decode cX0_isToken 13 = .ok (.aload_n 0, 1) := by decide +kernel
theorem dX0_isToken_14 : decode cX0_isToken 14 = .ok (.getfield 16, 3) := by decide +kernel
theorem dX0_isToken_17 : decode cX0_isToken 17 = .ok (.arraylength, 1) := by decide +kernel
theorem dX0_isToken_18 : decode cX0_isToken 18 = .ok (.if_icmp .ge 7, 3) := by decide +kernel
theorem dX0_isToken_21 : decode cX0_isToken 21 = .ok (.iconst 1, 1) := by decide +kernel
theorem dX0_isToken_22 : decode cX0_isToken 22 = .ok (.goto 4, 3) := by decide +kernel
theorem dX0_isToken_25 : decode cX0_isToken 25 = .ok (.iconst 0, 1) := by decide +kernel
theorem dX0_isToken_26 : decode cX0_isToken 26 = .ok (.ireturn, 1) := by decide +kernel
set_option maxRecDepth 20000 in
theorem ggX0_isOfKind_X0_isToken : GoodIn wsX0_isOfKind wsX0_isToken := goodIn_r _ [6, 7, 1, 8, 9, 10, 11, 12, 13, 14, 15, 16, 17, 18, 19, 20] (by decide +kernel) (by decide +kernel)
set_option maxRecDepth 20000 in
theorem gX0_isOfKind_X0_isToken : GoodIn wsX0_isOfKind (wsV RX0 63 RX0 yX0_isToken wsX0_isToken) := goodIn_app (goodIn_of _ (by decide +kernel)) ggX0_isOfKind_X0_isToken
theorem dX0_isOfKind_0 : decode cX0_isOfKind 0 = .ok (.aload_n 0, 1) := by decide +kernel
theorem dX0_isOfKind_1 : decode cX0_isOfKind 1 = .ok (.iload_n 1, 1) := by decide +kernel
theorem dX0_isOfKind_2 : decode cX0_isOfKind 2 = .ok (.invokevirtual 63, 3) := by decide +kernel
theorem dX0_isOfKind_5 : decode cX0_isOfKind 5 = .ok (.ifCond .eq 17, 3) := by decide +kernel
theorem dX0_isOfKind_8 : decode cX0_isOfKind 8 = .ok (.aload_n 0, 1) := by decide +kernel
theorem dX0_isOfKind_9 : decode cX0_isOfKind 9 = .ok (.getfield 16, 3) := by decide +kernel
theorem dX0_isOfKind_12 : decode cX0_isOfKind 12 = .ok (.iload_n 1, 1) := by decide +kernel
theorem dX0_isOfKind_13 : decode cX0_isOfKind 13 = .ok (.iaload, 1) := by decide +kernel
theorem dX0_isOfKind_14 : decode cX0_isOfKind 14 = .ok (.iload_n 2, 1) := by decide +kernel
theorem dX0_isOfKind_15 : decode cX0_isOfKind 15 = .ok (.if_icmp .ne 7, 3) := by decide +kernel
theorem dX0_isOfKind_18 : decode cX0_isOfKind 18 = .ok (.iconst 1, 1) := by decide +kernel
theorem dX0_isOfKind_19 : decode cX0_isOfKind 19 = .ok (.goto 4, 3) := by decide +kernel
theorem dX0_isOfKind_22 : decode cX0_isOfKind 22 = .ok (.iconst 0, 1) := by decide +kernel
theorem dX0_isOfKind_23 : decode cX0_isOfKind 23 = .ok (.ireturn, 1) := by decide +kernel
theorem dX0_byteAt_0 : decode cX0_byteAt 0 = .ok (.iload_n 1, 1) := by decide +kernel
theorem dX0_byteAt_1 : decode cX0_byteAt 1 = .ok (.ifCond .lt 20, 3) := by decide +kernel
theorem dX0_byteAt_4 : decode cX0_byteAt 4 = .ok (.iload_n 1, 1) := by decide +kernel
theorem dX0_byteAt_5 : decode cX0_byteAt 5 = .ok (.aload_n 0, 1) := by decide +kernel
theorem dX0_byteAt_6 : decode cX0_byteAt 6 = .ok (.getfield 39, 3) := by decide +kernel
theorem dX0_byteAt_9 : decode cX0_byteAt 9 = .ok (.if_icmp .ge 12, 3) := by decide +kernel
theorem dX0_byteAt_12 : decode cX0_byteAt 12 = .ok (.iload_n 1, 1) := by decide +kernel
theorem dX0_byteAt_13 : decode cX0_byteAt 13 = .ok (.aload_n 0, 1) := by decide +kernel
theorem dX0_byteAt_14 : decode cX0_byteAt 14 = .ok (.getfield 13, 3) := by decide +kernel
theorem dX0_byteAt_17 : decode cX0_byteAt 17 = .ok (.arraylength, 1) := by decide +kernel
theorem dX0_byteAt_18 : decode cX0_byteAt 18 = .ok (.if_icmp .lt 5, 3) := by decide +kernel
theorem dX0_byteAt_21 : decode cX0_byteAt 21 = .ok (.iconst (-1), 1) := by decide +kernel
theorem dX0_byteAt_22 : decode cX0_byteAt 22 = .ok (.ireturn, 1) := by decide +kernel
theorem dX0_byteAt_23 : decode cX0_byteAt 23 = .ok (.aload_n 0, 1) := by decide +kernel
theorem dX0_byteAt_24 : decode cX0_byteAt 24 = .ok (.getfield 13, 3) := by decide +kernel
theorem dX0_byteAt_27 : decode cX0_byteAt 27 = .ok (.iload_n 1, 1) := by decide +kernel
theorem dX0_byteAt_28 : decode cX0_byteAt 28 = .ok (.baload, 1) := by decide +kernel
theorem dX0_byteAt_29 : decode cX0_byteAt 29 = .ok (.sipush 255, 3) := by decide +kernel
theorem dX0_byteAt_32 : decode cX0_byteAt 32 = .ok (.iand, 1) := by decide +kernel
theorem dX0_byteAt_33 : decode cX0_byteAt 33 = .ok (.ireturn, 1) := by decide +kernel
set_option maxRecDepth 20000 in
theorem ggX0_codeWidth_X0_byteAt : GoodIn wsX0_codeWidth wsX0_byteAt := goodIn_r _ [5, 6, 7, 11, 12, 13, 14, 15, 16, 17, 18, 19, 20, 21, 22, 23] (by decide +kernel) (by decide +kernel)
set_option maxRecDepth 20000 in
theorem gX0_codeWidth_X0_byteAt : GoodIn wsX0_codeWidth (wsV RX0 78 RX0 yX0_byteAt wsX0_byteAt) := goodIn_app (goodIn_of _ (by decide +kernel)) ggX0_codeWidth_X0_byteAt
set_option maxRecDepth 20000 in
theorem ggX0_codeWidth_X0_escapedCode : GoodIn wsX0_codeWidth wsX0_escapedCode := goodIn_r _ [10] (by decide +kernel) (by decide +kernel)
set_option maxRecDepth 20000 in
theorem gX0_codeWidth_X0_escapedCode : GoodIn wsX0_codeWidth (va_wsS RX0 164 yX0_escapedCode wsX0_escapedCode) := goodIn_app (goodIn_of _ (by decide +kernel)) ggX0_codeWidth_X0_escapedCode
theorem dX0_codeWidth_0 : decode cX0_codeWidth 0 = .ok (.aload_n 0, 1) := by decide +kernel
theorem dX0_codeWidth_1 : decode cX0_codeWidth 1 = .ok (.iload_n 1, 1) := by decide +kernel
theorem dX0_codeWidth_2 : decode cX0_codeWidth 2 = .ok (.invokevirtual 78, 3) := by decide +kernel
theorem dX0_codeWidth_5 : decode cX0_codeWidth 5 = .ok (.istore_n 3, 1) := by decide +kernel
theorem dX0_codeWidth_6 : decode cX0_codeWidth 6 = .ok (.iload_n 3, 1) := by decide +kernel
theorem dX0_codeWidth_7 : decode cX0_codeWidth 7 = .ok (.bipush 92, 2) := by decide +kernel
theorem dX0_codeWidth_9 : decode cX0_codeWidth 9 = .ok (.if_icmp .ne 22, 3) := by decide +kernel
theorem dX0_codeWidth_12 : decode cX0_codeWidth 12 = .ok (.aload_n 0, 1) := by decide +kernel
theorem dX0_codeWidth_13 : decode cX0_codeWidth 13 = .ok (.iload_n 1, 1) := by decide +kernel
theorem dX0_codeWidth_14 : decode cX0_codeWidth 14 = .ok (.iconst 1, 1) := by decide +kernel
theorem dX0_codeWidth_15 : decode cX0_codeWidth 15 = .ok (.iadd, 1) := by decide +kernel
theorem dX0_codeWidth_16 : decode cX0_codeWidth 16 = .ok (.invokevirtual 78, 3) := by decide +kernel
theorem dX0_codeWidth_19 : decode cX0_codeWidth 19 = .ok (.invokestatic 164, 3) := by decide +kernel
theorem dX0_codeWidth_22 : decode cX0_codeWidth 22 = .ok (.ifCond .lt 7, 3) := by decide +kernel
theorem dX0_codeWidth_25 : decode cX0_codeWidth 25 = .ok (.iconst 2, 1) := by decide +kernel
theorem dX0_codeWidth_26 : decode cX0_codeWidth 26 = .ok (.goto 4, 3) := by decide +kernel
theorem dX0_codeWidth_29 : decode cX0_codeWidth 29 = .ok (.iconst 0, 1) := by decide +kernel
theorem dX0_codeWidth_30 : decode cX0_codeWidth 30 = .ok (.ireturn, 1) := by decide +kernel
theorem dX0_codeWidth_31 : decode cX0_codeWidth 31 = .ok (.iload_n 3, 1) := by decide +kernel
theorem dX0_codeWidth_32 : decode cX0_codeWidth 32 = .ok (.bipush 32, 2) := by decide +kernel
theorem dX0_codeWidth_34 : decode cX0_codeWidth 34 = .ok (.if_icmp .lt 18, 3) := by decide +kernel
theorem dX0_codeWidth_37 : decode cX0_codeWidth 37 = .ok (.iload_n 3, 1) := by decide +kernel
theorem dX0_codeWidth_38 : decode cX0_codeWidth 38 = .ok (.bipush 126, 2) := by decide +kernel
theorem dX0_codeWidth_40 : decode cX0_codeWidth 40 = .ok (.if_icmp .gt 12, 3) := by decide +kernel
theorem dX0_codeWidth_43 : decode cX0_codeWidth 43 = .ok (.iload_n 3, 1) := by decide +kernel
theorem dX0_codeWidth_44 : decode cX0_codeWidth 44 = .ok (.iload_n 2, 1) := by decide +kernel
theorem dX0_codeWidth_45 : decode cX0_codeWidth 45 = .ok (.if_icmp .eq 7, 3) := by decide +kernel
theorem dX0_codeWidth_48 : decode cX0_codeWidth 48 = .ok (.iconst 1, 1) := by decide +kernel
theorem dX0_codeWidth_49 : decode cX0_codeWidth 49 = .ok (.goto 4, 3) := by decide +kernel
theorem dX0_codeWidth_52 : decode cX0_codeWidth 52 = .ok (.iconst 0, 1) := by decide +kernel
theorem dX0_codeWidth_53 : decode cX0_codeWidth 53 = .ok (.ireturn, 1) := by decide +kernel
set_option maxRecDepth 20000 in
theorem ggX0_codeAt_X0_byteAt : GoodIn wsX0_codeAt wsX0_byteAt := goodIn_r _ [5, 6, 7, 11, 12, 13, 14, 15, 16, 17, 18, 19, 20, 21, 22, 23] (by decide +kernel) (by decide +kernel)
set_option maxRecDepth 20000 in
theorem gX0_codeAt_X0_byteAt : GoodIn wsX0_codeAt (wsV RX0 78 RX0 yX0_byteAt wsX0_byteAt) := goodIn_app (goodIn_of _ (by decide +kernel)) ggX0_codeAt_X0_byteAt
set_option maxRecDepth 20000 in
theorem ggX0_codeAt_X0_escapedCode : GoodIn wsX0_codeAt wsX0_escapedCode := goodIn_r _ [10] (by decide +kernel) (by decide +kernel)
set_option maxRecDepth 20000 in
theorem gX0_codeAt_X0_escapedCode : GoodIn wsX0_codeAt (va_wsS RX0 164 yX0_escapedCode wsX0_escapedCode) := goodIn_app (goodIn_of _ (by decide +kernel)) ggX0_codeAt_X0_escapedCode
theorem dX0_codeAt_0 : decode cX0_codeAt 0 = .ok (.aload_n 0, 1) := by decide +kernel
theorem dX0_codeAt_1 : decode cX0_codeAt 1 = .ok (.iload_n 1, 1) := by decide +kernel
theorem dX0_codeAt_2 : decode cX0_codeAt 2 = .ok (.invokevirtual 78, 3) := by decide +kernel
theorem dX0_codeAt_5 : decode cX0_codeAt 5 = .ok (.istore_n 2, 1) := by decide +kernel
theorem dX0_codeAt_6 : decode cX0_codeAt 6 = .ok (.iload_n 2, 1) := by decide +kernel
theorem dX0_codeAt_7 : decode cX0_codeAt 7 = .ok (.bipush 92, 2) := by decide +kernel
theorem dX0_codeAt_9 : decode cX0_codeAt 9 = .ok (.if_icmp .ne 16, 3) := by decide +kernel
theorem dX0_codeAt_12 : decode cX0_codeAt 12 = .ok (.aload_n 0, 1) := by decide +kernel
theorem dX0_codeAt_13 : decode cX0_codeAt 13 = .ok (.iload_n 1, 1) := by decide +kernel
theorem dX0_codeAt_14 : decode cX0_codeAt 14 = .ok (.iconst 1, 1) := by decide +kernel
theorem dX0_codeAt_15 : decode cX0_codeAt 15 = .ok (.iadd, 1) := by decide +kernel
theorem dX0_codeAt_16 : decode cX0_codeAt 16 = .ok (.invokevirtual 78, 3) := by decide +kernel
theorem dX0_codeAt_19 : decode cX0_codeAt 19 = .ok (.invokestatic 164, 3) := by decide +kernel
theorem dX0_codeAt_22 : decode cX0_codeAt 22 = .ok (.goto 4, 3) := by decide +kernel
theorem dX0_codeAt_25 : decode cX0_codeAt 25 = .ok (.iload_n 2, 1) := by decide +kernel
theorem dX0_codeAt_26 : decode cX0_codeAt 26 = .ok (.ireturn, 1) := by decide +kernel
set_option maxRecDepth 20000 in
theorem ggX0_wordNumber_X0_byteAt : GoodIn wsX0_wordNumber wsX0_byteAt := goodIn_r _ [6, 7, 8, 9, 10, 11, 12, 13, 14, 15, 16, 17, 18, 19, 20, 21] (by decide +kernel) (by decide +kernel)
set_option maxRecDepth 20000 in
theorem gX0_wordNumber_X0_byteAt : GoodIn wsX0_wordNumber (wsV RX0 78 RX0 yX0_byteAt wsX0_byteAt) := goodIn_app (goodIn_of _ (by decide +kernel)) ggX0_wordNumber_X0_byteAt
theorem dX0_wordNumber_0 : decode cX0_wordNumber 0 = .ok (.iconst 0, 1) := by decide +kernel
theorem dX0_wordNumber_1 : decode cX0_wordNumber 1 = .ok (.istore_n 3, 1) := by decide +kernel
theorem dX0_wordNumber_2 : decode cX0_wordNumber 2 = .ok (.iconst 0, 1) := by decide +kernel
theorem dX0_wordNumber_3 : decode cX0_wordNumber 3 = .ok (.istore 4, 2) := by decide +kernel
theorem dX0_wordNumber_5 : decode cX0_wordNumber 5 = .ok (.iconst 0, 1) := by decide +kernel
theorem dX0_wordNumber_6 : decode cX0_wordNumber 6 = .ok (.istore 5, 2) := by decide +kernel
theorem dX0_wordNumber_8 : decode cX0_wordNumber 8 = .ok (.iload 5, 2) := by decide +kernel
theorem dX0_wordNumber_10 : decode cX0_wordNumber 10 = .ok (.getstatic 167, 3) := by decide +kernel
theorem dX0_wordNumber_13 : decode cX0_wordNumber 13 = .ok (.arraylength, 1) := by decide +kernel
theorem dX0_wordNumber_14 : decode cX0_wordNumber 14 = .ok (.if_icmp .ge 74, 3) := by decide +kernel
theorem dX0_wordNumber_17 : decode cX0_wordNumber 17 = .ok (.getstatic 167, 3) := by decide +kernel
theorem dX0_wordNumber_20 : decode cX0_wordNumber 20 = .ok (.iload 5, 2) := by decide +kernel
theorem dX0_wordNumber_22 : decode cX0_wordNumber 22 = .ok (.caload, 1) := by decide +kernel
theorem dX0_wordNumber_23 : decode cX0_wordNumber 23 = .ok (.bipush 32, 2) := by decide +kernel
theorem dX0_wordNumber_25 : decode cX0_wordNumber 25 = .ok (.if_icmp .ne 20, 3) := by decide +kernel
theorem dX0_wordNumber_28 : decode cX0_wordNumber 28 = .ok (.iload 4, 2) := by decide +kernel
theorem dX0_wordNumber_30 : decode cX0_wordNumber 30 = .ok (.iload_n 2, 1) := by decide +kernel
theorem dX0_wordNumber_31 : decode cX0_wordNumber 31 = .ok (.if_icmp .ne 5, 3) := by decide +kernel
theorem dX0_wordNumber_34 : decode cX0_wordNumber 34 = .ok (.iload_n 3, 1) := by decide +kernel
theorem dX0_wordNumber_35 : decode cX0_wordNumber 35 = .ok (.ireturn, 1) := by decide +kernel
theorem dX0_wordNumber_36 : decode cX0_wordNumber 36 = .ok (.iinc 3 1, 3) := by decide +kernel
theorem dX0_wordNumber_39 : decode cX0_wordNumber 39 = .ok (.iconst 0, 1) := by decide +kernel
theorem dX0_wordNumber_40 : decode cX0_wordNumber 40 = .ok (.istore 4, 2) := by decide +kernel
theorem dX0_wordNumber_42 : decode cX0_wordNumber 42 = .ok (.goto 40, 3) := by decide +kernel
theorem dX0_wordNumber_45 : decode cX0_wordNumber 45 = .ok (.iload 4, 2) := by decide +kernel
theorem dX0_wordNumber_47 : decode cX0_wordNumber 47 = .ok (.ifCond .lt 32, 3) := by decide +kernel
theorem dX0_wordNumber_50 : decode cX0_wordNumber 50 = .ok (.iload 4, 2) := by decide +kernel
theorem dX0_wordNumber_52 : decode cX0_wordNumber 52 = .ok (.iload_n 2, 1) := by decide +kernel
theorem dX0_wordNumber_53 : decode cX0_wordNumber 53 = .ok (.if_icmp .ge 26, 3) := by decide +kernel
theorem dX0_wordNumber_56 : decode cX0_wordNumber 56 = .ok (.aload_n 0, 1) := by decide +kernel
theorem dX0_wordNumber_57 : decode cX0_wordNumber 57 = .ok (.iload_n 1, 1) := by decide +kernel
theorem dX0_wordNumber_58 : decode cX0_wordNumber 58 = .ok (.iload 4, 2) := by decide +kernel
theorem dX0_wordNumber_60 : decode cX0_wordNumber 60 = .ok (.iadd, 1) := by decide +kernel
theorem dX0_wordNumber_61 : decode cX0_wordNumber 61 = .ok (.invokevirtual 78, 3) := by decide +kernel
theorem dX0_wordNumber_64 : decode cX0_wordNumber 64 = .ok (.getstatic 167, 3) := by decide +kernel
theorem dX0_wordNumber_67 : decode cX0_wordNumber 67 = .ok (.iload 5, 2) := by decide +kernel
theorem dX0_wordNumber_69 : decode cX0_wordNumber 69 = .ok (.caload, 1) := by decide +kernel
theorem dX0_wordNumber_70 : decode cX0_wordNumber 70 = .ok (.if_icmp .ne 9, 3) := by decide +kernel
theorem dX0_wordNumber_73 : decode cX0_wordNumber 73 = .ok (.iinc 4 1, 3) := by decide +kernel
theorem dX0_wordNumber_76 : decode cX0_wordNumber 76 = .ok (.goto 6, 3) := by decide +kernel
theorem dX0_wordNumber_79 : decode cX0_wordNumber 79 = .ok (.iconst (-1), 1) := by decide +kernel
theorem dX0_wordNumber_80 : decode cX0_wordNumber 80 = .ok (.istore 4, 2) := by decide +kernel
theorem dX0_wordNumber_82 : decode cX0_wordNumber 82 = .ok (.iinc 5 1, 3) := by decide +kernel
theorem dX0_wordNumber_85 : decode cX0_wordNumber 85 = .ok (.goto (-77), 3) := by decide +kernel
theorem dX0_wordNumber_88 : decode cX0_wordNumber 88 = .ok (.iconst (-1), 1) := by decide +kernel
theorem dX0_wordNumber_89 : decode cX0_wordNumber 89 = .ok (.ireturn, 1) := by decide +kernel
set_option maxRecDepth 20000 in
theorem ggX0_mayOccur_X0_isBlankByte : GoodIn wsX0_mayOccur wsX0_isBlankByte := goodIn_r _ [4] (by decide +kernel) (by decide +kernel)
set_option maxRecDepth 20000 in
theorem gX0_mayOccur_X0_isBlankByte : GoodIn wsX0_mayOccur (va_wsS RX0 84 yX0_isBlankByte wsX0_isBlankByte) := goodIn_app (goodIn_of _ (by decide +kernel)) ggX0_mayOccur_X0_isBlankByte
theorem dX0_mayOccur_0 : decode cX0_mayOccur 0 = .ok (.iload_n 0, 1) := by decide +kernel
theorem dX0_mayOccur_1 : decode cX0_mayOccur 1 = .ok (.bipush 32, 2) := by decide +kernel
theorem dX0_mayOccur_3 : decode cX0_mayOccur 3 = .ok (.if_icmp .lt 9, 3) := by decide +kernel
theorem dX0_mayOccur_6 : decode cX0_mayOccur 6 = .ok (.iload_n 0, 1) := by decide +kernel
theorem dX0_mayOccur_7 : decode cX0_mayOccur 7 = .ok (.bipush 126, 2) := by decide +kernel
theorem dX0_mayOccur_9 : decode cX0_mayOccur 9 = .ok (.if_icmp .le 10, 3) := by decide +kernel
theorem dX0_mayOccur_12 : decode cX0_mayOccur 12 = .ok (.iload_n 0, 1) := by decide +kernel
theorem dX0_mayOccur_13 : decode cX0_mayOccur 13 = .ok (.invokestatic 84, 3) := by decide +kernel
theorem dX0_mayOccur_16 : decode cX0_mayOccur 16 = .ok (.ifCond .eq 7, 3) := by decide +kernel
theorem dX0_mayOccur_19 : decode cX0_mayOccur 19 = .ok (.iconst 1, 1) := by decide +kernel
theorem dX0_mayOccur_20 : decode cX0_mayOccur 20 = .ok (.goto 4, 3) := by decide +kernel
theorem dX0_mayOccur_23 : decode cX0_mayOccur 23 = .ok (.iconst 0, 1) := by decide +kernel
theorem dX0_mayOccur_24 : decode cX0_mayOccur 24 = .ok (.ireturn, 1) := by decide +kernel
theorem dX0_isBlankByte_0 : decode cX0_isBlankByte 0 = .ok (.iload_n 0, 1) := by decide +kernel
theorem dX0_isBlankByte_1 : decode cX0_isBlankByte 1 = .ok (.bipush 9, 2) := by decide +kernel
theorem dX0_isBlankByte_3 : decode cX0_isBlankByte 3 = .ok (.if_icmp .eq 21, 3) := by decide +kernel
theorem dX0_isBlankByte_6 : decode cX0_isBlankByte 6 = .ok (.iload_n 0, 1) := by decide +kernel
theorem dX0_isBlankByte_7 : decode cX0_isBlankByte 7 = .ok (.bipush 10, 2) := by decide +kernel
theorem dX0_isBlankByte_9 : decode cX0_isBlankByte 9 = .ok (.if_icmp .eq 15, 3) := by decide +kernel
theorem dX0_isBlankByte_12 : decode cX0_isBlankByte 12 = .ok (.iload_n 0, 1) := by decide +kernel
theorem dX0_isBlankByte_13 : decode cX0_isBlankByte 13 = .ok (.bipush 13, 2) := by decide +kernel
theorem dX0_isBlankByte_15 : decode cX0_isBlankByte 15 = .ok (.if_icmp .eq 9, 3) := by decide +kernel
theorem dX0_isBlankByte_18 : decode cX0_isBlankByte 18 = .ok (.iload_n 0, 1) := by decide +kernel
theorem dX0_isBlankByte_19 : decode cX0_isBlankByte 19 = .ok (.bipush 32, 2) := by decide +kernel
theorem dX0_isBlankByte_21 : decode cX0_isBlankByte 21 = .ok (.if_icmp .ne 7, 3) := by decide +kernel
theorem dX0_isBlankByte_24 : decode cX0_isBlankByte 24 = .ok (.iconst 1, 1) := by decide +kernel
theorem dX0_isBlankByte_25 : decode cX0_isBlankByte 25 = .ok (.goto 4, 3) := by decide +kernel
theorem dX0_isBlankByte_28 : decode cX0_isBlankByte 28 = .ok (.iconst 0, 1) := by decide +kernel
theorem dX0_isBlankByte_29 : decode cX0_isBlankByte 29 = .ok (.ireturn, 1) := by decide +kernel
theorem dX0_isLetter_0 : decode cX0_isLetter 0 = .ok (.iload_n 0, 1) := by decide +kernel
theorem dX0_isLetter_1 : decode cX0_isLetter 1 = .ok (.bipush 97, 2) := by decide +kernel
theorem dX0_isLetter_3 : decode cX0_isLetter 3 = .ok (.if_icmp .lt 9, 3) := by decide +kernel
theorem dX0_isLetter_6 : decode cX0_isLetter 6 = .ok (.iload_n 0, 1) := by decide +kernel
theorem dX0_isLetter_7 : decode cX0_isLetter 7 = .ok (.bipush 122, 2) := by decide +kernel
theorem dX0_isLetter_9 : decode cX0_isLetter 9 = .ok (.if_icmp .le 21, 3) := by decide +kernel
theorem dX0_isLetter_12 : decode cX0_isLetter 12 = .ok (.iload_n 0, 1) := by decide +kernel
theorem dX0_isLetter_13 : decode cX0_isLetter 13 = .ok (.bipush 65, 2) := by decide +kernel
theorem dX0_isLetter_15 : decode cX0_isLetter 15 = .ok (.if_icmp .lt 9, 3) := by decide +kernel
theorem dX0_isLetter_18 : decode cX0_isLetter 18 = .ok (.iload_n 0, 1) := by decide +kernel
theorem dX0_isLetter_19 : decode cX0_isLetter 19 = .ok (.bipush 90, 2) := by decide +kernel
theorem dX0_isLetter_21 : decode cX0_isLetter 21 = .ok (.if_icmp .le 9, 3) := by decide +kernel
theorem dX0_isLetter_24 : decode cX0_isLetter 24 = .ok (.iload_n 0, 1) := by decide +kernel
theorem dX0_isLetter_25 : decode cX0_isLetter 25 = .ok (.bipush 95, 2) := by decide +kernel
theorem dX0_isLetter_27 : decode cX0_isLetter 27 = .ok (.if_icmp .ne 7, 3) := by decide +kernel
theorem dX0_isLetter_30 : decode cX0_isLetter 30 = .ok (.iconst 1, 1) := by decide +kernel
theorem dX0_isLetter_31 : decode cX0_isLetter 31 = .ok (.goto 4, 3) := by decide +kernel
theorem dX0_isLetter_34 : decode cX0_isLetter 34 = .ok (.iconst 0, 1) := by decide +kernel
theorem dX0_isLetter_35 : decode cX0_isLetter 35 = .ok (.ireturn, 1) := by decide +kernel
theorem dX0_isDigit_0 : decode cX0_isDigit 0 = .ok (.iload_n 0, 1) := by decide +kernel
theorem dX0_isDigit_1 : decode cX0_isDigit 1 = .ok (.bipush 48, 2) := by decide +kernel
theorem dX0_isDigit_3 : decode cX0_isDigit 3 = .ok (.if_icmp .lt 13, 3) := by decide +kernel
theorem dX0_isDigit_6 : decode cX0_isDigit 6 = .ok (.iload_n 0, 1) := by decide +kernel
theorem dX0_isDigit_7 : decode cX0_isDigit 7 = .ok (.bipush 57, 2) := by decide +kernel
theorem dX0_isDigit_9 : decode cX0_isDigit 9 = .ok (.if_icmp .gt 7, 3) := by decide +kernel
theorem dX0_isDigit_12 : decode cX0_isDigit 12 = .ok (.iconst 1, 1) := by decide +kernel
theorem dX0_isDigit_13 : decode cX0_isDigit 13 = .ok (.goto 4, 3) := by decide +kernel
theorem dX0_isDigit_16 : decode cX0_isDigit 16 = .ok (.iconst 0, 1) := by decide +kernel
theorem dX0_isDigit_17 : decode cX0_isDigit 17 = .ok (.ireturn, 1) := by decide +kernel
set_option maxRecDepth 20000 in
theorem ggX0_isNamePart_X0_isLetter : GoodIn wsX0_isNamePart wsX0_isLetter := goodIn_r _ [4] (by decide +kernel) (by decide +kernel)
set_option maxRecDepth 20000 in
theorem gX0_isNamePart_X0_isLetter : GoodIn wsX0_isNamePart (va_wsS RX0 96 yX0_isLetter wsX0_isLetter) := goodIn_app (goodIn_of _ (by decide +kernel)) ggX0_isNamePart_X0_isLetter
set_option maxRecDepth 20000 in
theorem ggX0_isNamePart_X0_isDigit : GoodIn wsX0_isNamePart wsX0_isDigit := goodIn_r _ [7] (by decide +kernel) (by decide +kernel)
set_option maxRecDepth 20000 in
theorem gX0_isNamePart_X0_isDigit : GoodIn wsX0_isNamePart (va_wsS RX0 102 yX0_isDigit wsX0_isDigit) := goodIn_app (goodIn_of _ (by decide +kernel)) ggX0_isNamePart_X0_isDigit
theorem dX0_isNamePart_0 : decode cX0_isNamePart 0 = .ok (.iload_n 0, 1) := by decide +kernel
theorem dX0_isNamePart_1 : decode cX0_isNamePart 1 = .ok (.invokestatic 96, 3) := by decide +kernel
theorem dX0_isNamePart_4 : decode cX0_isNamePart 4 = .ok (.ifCond .ne 10, 3) := by decide +kernel
theorem dX0_isNamePart_7 : decode cX0_isNamePart 7 = .ok (.iload_n 0, 1) := by decide +kernel
theorem dX0_isNamePart_8 : decode cX0_isNamePart 8 = .ok (.invokestatic 102, 3) := by decide +kernel
theorem dX0_isNamePart_11 : decode cX0_isNamePart 11 = .ok (.ifCond .eq 7, 3) := by decide +kernel
theorem dX0_isNamePart_14 : decode cX0_isNamePart 14 = .ok (.iconst 1, 1) := by decide +kernel
theorem dX0_isNamePart_15 : decode cX0_isNamePart 15 = .ok (.goto 4, 3) := by decide +kernel
theorem dX0_isNamePart_18 : decode cX0_isNamePart 18 = .ok (.iconst 0, 1) := by decide +kernel
theorem dX0_isNamePart_19 : decode cX0_isNamePart 19 = .ok (.ireturn, 1) := by decide +kernel
set_option maxRecDepth 20000 in
theorem ggX0_hexDigit_X0_isDigit : GoodIn wsX0_hexDigit wsX0_isDigit := goodIn_r _ [4] (by decide +kernel) (by decide +kernel)
set_option maxRecDepth 20000 in
theorem gX0_hexDigit_X0_isDigit : GoodIn wsX0_hexDigit (va_wsS RX0 102 yX0_isDigit wsX0_isDigit) := goodIn_app (goodIn_of _ (by decide +kernel)) ggX0_hexDigit_X0_isDigit
theorem dX0_hexDigit_0 : decode cX0_hexDigit 0 = .ok (.iload_n 0, 1) := by decide +kernel
theorem dX0_hexDigit_1 : decode cX0_hexDigit 1 = .ok (.invokestatic 102, 3) := by decide +kernel
theorem dX0_hexDigit_4 : decode cX0_hexDigit 4 = .ok (.ifCond .eq 8, 3) := by decide +kernel
theorem dX0_hexDigit_7 : decode cX0_hexDigit 7 = .ok (.iload_n 0, 1) := by decide +kernel
theorem dX0_hexDigit_8 : decode cX0_hexDigit 8 = .ok (.bipush 48, 2) := by decide +kernel
theorem dX0_hexDigit_10 : decode cX0_hexDigit 10 = .ok (.isub, 1) := by decide +kernel
theorem dX0_hexDigit_11 : decode cX0_hexDigit 11 = .ok (.ireturn, 1) := by decide +kernel
theorem dX0_hexDigit_12 : decode cX0_hexDigit 12 = .ok (.iload_n 0, 1) := by decide +kernel
theorem dX0_hexDigit_13 : decode cX0_hexDigit 13 = .ok (.bipush 97, 2) := by decide +kernel
theorem dX0_hexDigit_15 : decode cX0_hexDigit 15 = .ok (.if_icmp .lt 17, 3) := by decide +kernel
theorem dX0_hexDigit_18 : decode cX0_hexDigit 18 = .ok (.iload_n 0, 1) := by decide +kernel
theorem dX0_hexDigit_19 : decode cX0_hexDigit 19 = .ok (.bipush 102, 2) := by decide +kernel
theorem dX0_hexDigit_21 : decode cX0_hexDigit 21 = .ok (.if_icmp .gt 11, 3) := by decide +kernel
theorem dX0_hexDigit_24 : decode cX0_hexDigit 24 = .ok (.iload_n 0, 1) := by decide +kernel
theorem dX0_hexDigit_25 : decode cX0_hexDigit 25 = .ok (.bipush 97, 2) := by decide +kernel
theorem dX0_hexDigit_27 : decode cX0_hexDigit 27 = .ok (.isub, 1) := by decide +kernel
theorem dX0_hexDigit_28 : decode cX0_hexDigit 28 = .ok (.bipush 10, 2) := by decide +kernel
theorem dX0_hexDigit_30 : decode cX0_hexDigit 30 = .ok (.iadd, 1) := by decide +kernel
theorem dX0_hexDigit_31 : decode cX0_hexDigit 31 = .ok (.ireturn, 1) := by decide +kernel
theorem dX0_hexDigit_32 : decode cX0_hexDigit 32 = .ok (.iload_n 0, 1) := by decide +kernel
theorem dX0_hexDigit_33 : decode cX0_hexDigit 33 = .ok (.bipush 65, 2) := by decide +kernel
theorem dX0_hexDigit_35 : decode cX0_hexDigit 35 = .ok (.if_icmp .lt 19, 3) := by decide +kernel
theorem dX0_hexDigit_38 : decode cX0_hexDigit 38 = .ok (.iload_n 0, 1) := by decide +kernel
theorem dX0_hexDigit_39 : decode cX0_hexDigit 39 = .ok (.bipush 70, 2) := by decide +kernel
theorem dX0_hexDigit_41 : decode cX0_hexDigit 41 = .ok (.if_icmp .gt 13, 3) := by decide +kernel
theorem dX0_hexDigit_44 : decode cX0_hexDigit 44 = .ok (.iload_n 0, 1) := by decide +kernel
theorem dX0_hexDigit_45 : decode cX0_hexDigit 45 = .ok (.bipush 65, 2) := by decide +kernel
theorem dX0_hexDigit_47 : decode cX0_hexDigit 47 = .ok (.isub, 1) := by decide +kernel
theorem dX0_hexDigit_48 : decode cX0_hexDigit 48 = .ok (.bipush 10, 2) := by decide +kernel
theorem dX0_hexDigit_50 : decode cX0_hexDigit 50 = .ok (.iadd, 1) := by decide +kernel
theorem dX0_hexDigit_51 : decode cX0_hexDigit 51 = .ok (.goto 4, 3) := by decide +kernel
theorem dX0_hexDigit_54 : decode cX0_hexDigit 54 = .ok (.iconst (-1), 1) := by decide +kernel
theorem dX0_hexDigit_55 : decode cX0_hexDigit 55 = .ok (.ireturn, 1) := by decide +kernel
theorem dX0_escapedCode_0 : decode cX0_escapedCode 0 = .ok (.iload_n 0, 1) := by decide +kernel
theorem dX0_escapedCode_1 : decode cX0_escapedCode 1 = .ok (.lookupswitch 65 #[(34, 62), (39, 59), (48, 54), (92, 56), (110, 51)], 51) := by decide +kernel
theorem dX0_escapedCode_52 : decode cX0_escapedCode 52 = .ok (.bipush 10, 2) := by decide +kernel
theorem dX0_escapedCode_54 : decode cX0_escapedCode 54 = .ok (.ireturn, 1) := by decide +kernel
theorem dX0_escapedCode_55 : decode cX0_escapedCode 55 = .ok (.iconst 0, 1) := by decide +kernel
theorem dX0_escapedCode_56 : decode cX0_escapedCode 56 = .ok (.ireturn, 1) := by decide +kernel
theorem dX0_escapedCode_57 : decode cX0_escapedCode 57 = .ok (.bipush 92, 2) := by decide +kernel
theorem dX0_escapedCode_59 : decode cX0_escapedCode 59 = .ok (.ireturn, 1) := by decide +kernel
theorem dX0_escapedCode_60 : decode cX0_escapedCode 60 = .ok (.bipush 39, 2) := by decide +kernel
theorem dX0_escapedCode_62 : decode cX0_escapedCode 62 = .ok (.ireturn, 1) := by decide +kernel
theorem dX0_escapedCode_63 : decode cX0_escapedCode 63 = .ok (.bipush 34, 2) := by decide +kernel
theorem dX0_escapedCode_65 : decode cX0_escapedCode 65 = .ok (.ireturn, 1) := by decide +kernel
theorem dX0_escapedCode_66 : decode cX0_escapedCode 66 = .ok (.iconst (-1), 1) := by decide +kernel
theorem dX0_escapedCode_67 : decode cX0_escapedCode 67 = .ok (.ireturn, 1) := by decide +kernel
theorem dX0_signOfThree_0 : decode cX0_signOfThree 0 = .ok (.iload_n 0, 1) := by decide +kernel
theorem dX0_signOfThree_1 : decode cX0_signOfThree 1 = .ok (.iload_n 1, 1) := by decide +kernel
theorem dX0_signOfThree_2 : decode cX0_signOfThree 2 = .ok (.if_icmp .ne 9, 3) := by decide +kernel
theorem dX0_signOfThree_5 : decode cX0_signOfThree 5 = .ok (.iload_n 2, 1) := by decide +kernel
theorem dX0_signOfThree_6 : decode cX0_signOfThree 6 = .ok (.bipush 61, 2) := by decide +kernel
theorem dX0_signOfThree_8 : decode cX0_signOfThree 8 = .ok (.if_icmp .eq 5, 3) := by decide +kernel
theorem dX0_signOfThree_11 : decode cX0_signOfThree 11 = .ok (.iconst (-1), 1) := by decide +kernel
theorem dX0_signOfThree_12 : decode cX0_signOfThree 12 = .ok (.ireturn, 1) := by decide +kernel
theorem dX0_signOfThree_13 : decode cX0_signOfThree 13 = .ok (.iload_n 0, 1) := by decide +kernel
theorem dX0_signOfThree_14 : decode cX0_signOfThree 14 = .ok (.bipush 60, 2) := by decide +kernel
theorem dX0_signOfThree_16 : decode cX0_signOfThree 16 = .ok (.if_icmp .ne 8, 3) := by decide +kernel
theorem dX0_signOfThree_19 : decode cX0_signOfThree 19 = .ok (.bipush 19, 2) := by decide +kernel
theorem dX0_signOfThree_21 : decode cX0_signOfThree 21 = .ok (.goto 15, 3) := by decide +kernel
theorem dX0_signOfThree_24 : decode cX0_signOfThree 24 = .ok (.iload_n 0, 1) := by decide +kernel
theorem dX0_signOfThree_25 : decode cX0_signOfThree 25 = .ok (.bipush 62, 2) := by decide +kernel
theorem dX0_signOfThree_27 : decode cX0_signOfThree 27 = .ok (.if_icmp .ne 8, 3) := by decide +kernel
theorem dX0_signOfThree_30 : decode cX0_signOfThree 30 = .ok (.bipush 20, 2) := by decide +kernel
theorem dX0_signOfThree_32 : decode cX0_signOfThree 32 = .ok (.goto 4, 3) := by decide +kernel
theorem dX0_signOfThree_35 : decode cX0_signOfThree 35 = .ok (.iconst (-1), 1) := by decide +kernel
theorem dX0_signOfThree_36 : decode cX0_signOfThree 36 = .ok (.ireturn, 1) := by decide +kernel
set_option maxRecDepth 20000 in
theorem ggX0_signOfTwo_X0_signWithEqual : GoodIn wsX0_signOfTwo wsX0_signWithEqual := goodIn_r _ [4] (by decide +kernel) (by decide +kernel)
set_option maxRecDepth 20000 in
theorem gX0_signOfTwo_X0_signWithEqual : GoodIn wsX0_signOfTwo (va_wsS RX0 171 yX0_signWithEqual wsX0_signWithEqual) := goodIn_app (goodIn_of _ (by decide +kernel)) ggX0_signOfTwo_X0_signWithEqual
set_option maxRecDepth 20000 in
theorem ggX0_signOfTwo_X0_signOfTwins : GoodIn wsX0_signOfTwo wsX0_signOfTwins := goodIn_r _ [7] (by decide +kernel) (by decide +kernel)
set_option maxRecDepth 20000 in
theorem gX0_signOfTwo_X0_signOfTwins : GoodIn wsX0_signOfTwo (va_wsS RX0 174 yX0_signOfTwins wsX0_signOfTwins) := goodIn_app (goodIn_of _ (by decide +kernel)) ggX0_signOfTwo_X0_signOfTwins
theorem dX0_signOfTwo_0 : decode cX0_signOfTwo 0 = .ok (.iload_n 1, 1) := by decide +kernel
theorem dX0_signOfTwo_1 : decode cX0_signOfTwo 1 = .ok (.bipush 61, 2) := by decide +kernel
theorem dX0_signOfTwo_3 : decode cX0_signOfTwo 3 = .ok (.if_icmp .ne 8, 3) := by decide +kernel
theorem dX0_signOfTwo_6 : decode cX0_signOfTwo 6 = .ok (.iload_n 0, 1) := by decide +kernel
theorem dX0_signOfTwo_7 : decode cX0_signOfTwo 7 = .ok (.invokestatic 171, 3) := by decide +kernel
theorem dX0_signOfTwo_10 : decode cX0_signOfTwo 10 = .ok (.ireturn, 1) := by decide +kernel
theorem dX0_signOfTwo_11 : decode cX0_signOfTwo 11 = .ok (.iload_n 1, 1) := by decide +kernel
theorem dX0_signOfTwo_12 : decode cX0_signOfTwo 12 = .ok (.iload_n 0, 1) := by decide +kernel
theorem dX0_signOfTwo_13 : decode cX0_signOfTwo 13 = .ok (.if_icmp .ne 10, 3) := by decide +kernel
theorem dX0_signOfTwo_16 : decode cX0_signOfTwo 16 = .ok (.iload_n 0, 1) := by decide +kernel
theorem dX0_signOfTwo_17 : decode cX0_signOfTwo 17 = .ok (.invokestatic 174, 3) := by decide +kernel
theorem dX0_signOfTwo_20 : decode cX0_signOfTwo 20 = .ok (.goto 4, 3) := by decide +kernel
theorem dX0_signOfTwo_23 : decode cX0_signOfTwo 23 = .ok (.iconst (-1), 1) := by decide +kernel
theorem dX0_signOfTwo_24 : decode cX0_signOfTwo 24 = .ok (.ireturn, 1) := by decide +kernel
theorem dX0_signWithEqual_0 : decode cX0_signWithEqual 0 = .ok (.iload_n 0, 1) := by decide +kernel
theorem dX0_signWithEqual_1 : decode cX0_signWithEqual 1 = .ok (.lookupswitch 143 #[(33, 134), (37, 119), (38, 122), (42, 113), (43, 107), (45, 110), (47, 116), (60, 137), (61, 131), (62, 140), (94, 128), (124, 125)], 107) := by decide +kernel
theorem dX0_signWithEqual_108 : decode cX0_signWithEqual 108 = .ok (.bipush 11, 2) := by decide +kernel
theorem dX0_signWithEqual_110 : decode cX0_signWithEqual 110 = .ok (.ireturn, 1) := by decide +kernel
theorem dX0_signWithEqual_111 : decode cX0_signWithEqual 111 = .ok (.bipush 12, 2) := by decide +kernel
theorem dX0_signWithEqual_113 : decode cX0_signWithEqual 113 = .ok (.ireturn, 1) := by decide +kernel
theorem dX0_signWithEqual_114 : decode cX0_signWithEqual 114 = .ok (.bipush 13, 2) := by decide +kernel
theorem dX0_signWithEqual_116 : decode cX0_signWithEqual 116 = .ok (.ireturn, 1) := by decide +kernel
theorem dX0_signWithEqual_117 : decode cX0_signWithEqual 117 = .ok (.bipush 14, 2) := by decide +kernel
theorem dX0_signWithEqual_119 : decode cX0_signWithEqual 119 = .ok (.ireturn, 1) := by decide +kernel
theorem dX0_signWithEqual_120 : decode cX0_signWithEqual 120 = .ok (.bipush 15, 2) := by decide +kernel
theorem dX0_signWithEqual_122 : decode cX0_signWithEqual 122 = .ok (.ireturn, 1) := by decide +kernel
theorem dX0_signWithEqual_123 : decode cX0_signWithEqual 123 = .ok (.bipush 16, 2) := by decide +kernel
theorem dX0_signWithEqual_125 : decode cX0_signWithEqual 125 = .ok (.ireturn, 1) := by decide +kernel
theorem dX0_signWithEqual_126 : decode cX0_signWithEqual 126 = .ok (.bipush 17, 2) := by decide +kernel
theorem dX0_signWithEqual_128 : decode cX0_signWithEqual 128 = .ok (.ireturn, 1) := by decide +kernel
theorem dX0_signWithEqual_129 : decode cX0_signWithEqual 129 = .ok (.bipush 18, 2) := by decide +kernel
theorem dX0_signWithEqual_131 : decode cX0_signWithEqual 131 = .ok (.ireturn, 1) := by decide +kernel
theorem dX0_signWithEqual_132 : decode cX0_signWithEqual 132 = .ok (.bipush 26, 2) := by decide +kernel
theorem dX0_signWithEqual_134 : decode cX0_signWithEqual 134 = .ok (.ireturn, 1) := by decide +kernel
theorem dX0_signWithEqual_135 : decode cX0_signWithEqual 135 = .ok (.bipush 27, 2) := by decide +kernel
theorem dX0_signWithEqual_137 : decode cX0_signWithEqual 137 = .ok (.ireturn, 1) := by decide +kernel
theorem dX0_signWithEqual_138 : decode cX0_signWithEqual 138 = .ok (.bipush 30, 2) := by decide +kernel
theorem dX0_signWithEqual_140 : decode cX0_signWithEqual 140 = .ok (.ireturn, 1) := by decide +kernel
theorem dX0_signWithEqual_141 : decode cX0_signWithEqual 141 = .ok (.bipush 31, 2) := by decide +kernel
theorem dX0_signWithEqual_143 : decode cX0_signWithEqual 143 = .ok (.ireturn, 1) := by decide +kernel
theorem dX0_signWithEqual_144 : decode cX0_signWithEqual 144 = .ok (.iconst (-1), 1) := by decide +kernel
theorem dX0_signWithEqual_145 : decode cX0_signWithEqual 145 = .ok (.ireturn, 1) := by decide +kernel
theorem dX0_signOfTwins_0 : decode cX0_signOfTwins 0 = .ok (.iload_n 0, 1) := by decide +kernel
theorem dX0_signOfTwins_1 : decode cX0_signOfTwins 1 = .ok (.lookupswitch 77 #[(38, 62), (43, 71), (45, 74), (60, 65), (62, 68), (124, 59)], 59) := by decide +kernel
theorem dX0_signOfTwins_60 : decode cX0_signOfTwins 60 = .ok (.bipush 21, 2) := by decide +kernel
theorem dX0_signOfTwins_62 : decode cX0_signOfTwins 62 = .ok (.ireturn, 1) := by decide +kernel
theorem dX0_signOfTwins_63 : decode cX0_signOfTwins 63 = .ok (.bipush 22, 2) := by decide +kernel
theorem dX0_signOfTwins_65 : decode cX0_signOfTwins 65 = .ok (.ireturn, 1) := by decide +kernel
theorem dX0_signOfTwins_66 : decode cX0_signOfTwins 66 = .ok (.bipush 32, 2) := by decide +kernel
theorem dX0_signOfTwins_68 : decode cX0_signOfTwins 68 = .ok (.ireturn, 1) := by decide +kernel
theorem dX0_signOfTwins_69 : decode cX0_signOfTwins 69 = .ok (.bipush 33, 2) := by decide +kernel
theorem dX0_signOfTwins_71 : decode cX0_signOfTwins 71 = .ok (.ireturn, 1) := by decide +kernel
theorem dX0_signOfTwins_72 : decode cX0_signOfTwins 72 = .ok (.bipush 41, 2) := by decide +kernel
theorem dX0_signOfTwins_74 : decode cX0_signOfTwins 74 = .ok (.ireturn, 1) := by decide +kernel
theorem dX0_signOfTwins_75 : decode cX0_signOfTwins 75 = .ok (.bipush 42, 2) := by decide +kernel
theorem dX0_signOfTwins_77 : decode cX0_signOfTwins 77 = .ok (.ireturn, 1) := by decide +kernel
theorem dX0_signOfTwins_78 : decode cX0_signOfTwins 78 = .ok (.iconst (-1), 1) := by decide +kernel
theorem dX0_signOfTwins_79 : decode cX0_signOfTwins 79 = .ok (.ireturn, 1) := by decide +kernel
theorem dX0_signOfOne_0 : decode cX0_signOfOne 0 = .ok (.iload_n 0, 1) := by decide +kernel
theorem dX0_signOfOne_1 : decode cX0_signOfOne 1 = .ok (.tableswitch 454 33 126 #[448, 454, 454, 454, 445, 424, 454, 391, 393, 439, 433, 403, 436, 454, 442, 454, 454, 454, 454, 454, 454, 454, 454, 454, 454, 412, 406, 427, 415, 430, 409, 454, 454, 454, 454, 454, 454, 454, 454, 454, 454, 454, 454, 454, 454, 454, 454, 454, 454, 454, 454, 454, 454, 454, 454, 454, 454, 454, 399, 454, 401, 421, 454, 454, 454, 454, 454, 454, 454, 454, 454, 454, 454, 454, 454, 454, 454, 454, 454, 454, 454, 454, 454, 454, 454, 454, 454, 454, 454, 454, 395, 418, 397, 451], 391) := by decide +kernel
theorem dX0_signOfOne_392 : decode cX0_signOfOne 392 = .ok (.iconst 0, 1) := by decide +kernel
theorem dX0_signOfOne_393 : decode cX0_signOfOne 393 = .ok (.ireturn, 1) := by decide +kernel
theorem dX0_signOfOne_394 : decode cX0_signOfOne 394 = .ok (.iconst 1, 1) := by decide +kernel
theorem dX0_signOfOne_395 : decode cX0_signOfOne 395 = .ok (.ireturn, 1) := by decide +kernel
theorem dX0_signOfOne_396 : decode cX0_signOfOne 396 = .ok (.iconst 2, 1) := by decide +kernel
theorem dX0_signOfOne_397 : decode cX0_signOfOne 397 = .ok (.ireturn, 1) := by decide +kernel
theorem dX0_signOfOne_398 : decode cX0_signOfOne 398 = .ok (.iconst 3, 1) := by decide +kernel
theorem dX0_signOfOne_399 : decode cX0_signOfOne 399 = .ok (.ireturn, 1) := by decide +kernel
theorem dX0_signOfOne_400 : decode cX0_signOfOne 400 = .ok (.iconst 4, 1) := by decide +kernel
theorem dX0_signOfOne_401 : decode cX0_signOfOne 401 = .ok (.ireturn, 1) := by decide +kernel
theorem dX0_signOfOne_402 : decode cX0_signOfOne 402 = .ok (.iconst 5, 1) := by decide +kernel
theorem dX0_signOfOne_403 : decode cX0_signOfOne 403 = .ok (.ireturn, 1) := by decide +kernel
theorem dX0_signOfOne_404 : decode cX0_signOfOne 404 = .ok (.bipush 6, 2) := by decide +kernel
theorem dX0_signOfOne_406 : decode cX0_signOfOne 406 = .ok (.ireturn, 1) := by decide +kernel
theorem dX0_signOfOne_407 : decode cX0_signOfOne 407 = .ok (.bipush 7, 2) := by decide +kernel
theorem dX0_signOfOne_409 : decode cX0_signOfOne 409 = .ok (.ireturn, 1) := by decide +kernel
theorem dX0_signOfOne_410 : decode cX0_signOfOne 410 = .ok (.bipush 8, 2) := by decide +kernel
theorem dX0_signOfOne_412 : decode cX0_signOfOne 412 = .ok (.ireturn, 1) := by decide +kernel
theorem dX0_signOfOne_413 : decode cX0_signOfOne 413 = .ok (.bipush 9, 2) := by decide +kernel
theorem dX0_signOfOne_415 : decode cX0_signOfOne 415 = .ok (.ireturn, 1) := by decide +kernel
theorem dX0_signOfOne_416 : decode cX0_signOfOne 416 = .ok (.bipush 10, 2) := by decide +kernel
theorem dX0_signOfOne_418 : decode cX0_signOfOne 418 = .ok (.ireturn, 1) := by decide +kernel
theorem dX0_signOfOne_419 : decode cX0_signOfOne 419 = .ok (.bipush 23, 2) := by decide +kernel
theorem dX0_signOfOne_421 : decode cX0_signOfOne 421 = .ok (.ireturn, 1) := by decide +kernel
theorem dX0_signOfOne_422 : decode cX0_signOfOne 422 = .ok (.bipush 24, 2) := by decide +kernel
theorem dX0_signOfOne_424 : decode cX0_signOfOne 424 = .ok (.ireturn, 1) := by decide +kernel
theorem dX0_signOfOne_425 : decode cX0_signOfOne 425 = .ok (.bipush 25, 2) := by decide +kernel
theorem dX0_signOfOne_427 : decode cX0_signOfOne 427 = .ok (.ireturn, 1) := by decide +kernel
theorem dX0_signOfOne_428 : decode cX0_signOfOne 428 = .ok (.bipush 28, 2) := by decide +kernel
theorem dX0_signOfOne_430 : decode cX0_signOfOne 430 = .ok (.ireturn, 1) := by decide +kernel
theorem dX0_signOfOne_431 : decode cX0_signOfOne 431 = .ok (.bipush 29, 2) := by decide +kernel
theorem dX0_signOfOne_433 : decode cX0_signOfOne 433 = .ok (.ireturn, 1) := by decide +kernel
theorem dX0_signOfOne_434 : decode cX0_signOfOne 434 = .ok (.bipush 34, 2) := by decide +kernel
theorem dX0_signOfOne_436 : decode cX0_signOfOne 436 = .ok (.ireturn, 1) := by decide +kernel
theorem dX0_signOfOne_437 : decode cX0_signOfOne 437 = .ok (.bipush 35, 2) := by decide +kernel
theorem dX0_signOfOne_439 : decode cX0_signOfOne 439 = .ok (.ireturn, 1) := by decide +kernel
theorem dX0_signOfOne_440 : decode cX0_signOfOne 440 = .ok (.bipush 36, 2) := by decide +kernel
theorem dX0_signOfOne_442 : decode cX0_signOfOne 442 = .ok (.ireturn, 1) := by decide +kernel
theorem dX0_signOfOne_443 : decode cX0_signOfOne 443 = .ok (.bipush 37, 2) := by decide +kernel
theorem dX0_signOfOne_445 : decode cX0_signOfOne 445 = .ok (.ireturn, 1) := by decide +kernel
theorem dX0_signOfOne_446 : decode cX0_signOfOne 446 = .ok (.bipush 38, 2) := by decide +kernel
theorem dX0_signOfOne_448 : decode cX0_signOfOne 448 = .ok (.ireturn, 1) := by decide +kernel
theorem dX0_signOfOne_449 : decode cX0_signOfOne 449 = .ok (.bipush 39, 2) := by decide +kernel
theorem dX0_signOfOne_451 : decode cX0_signOfOne 451 = .ok (.ireturn, 1) := by decide +kernel
theorem dX0_signOfOne_452 : decode cX0_signOfOne 452 = .ok (.bipush 40, 2) := by decide +kernel
theorem dX0_signOfOne_454 : decode cX0_signOfOne 454 = .ok (.ireturn, 1) := by decide +kernel
theorem dX0_signOfOne_455 : decode cX0_signOfOne 455 = .ok (.iconst (-1), 1) := by decide +kernel
theorem dX0_signOfOne_456 : decode cX0_signOfOne 456 = .ok (.ireturn, 1) := by decide +kernel
end
section
theorem dX1_init_0 : decode cX1_init 0 = .ok (.aload_n 0, 1) := by decide +kernel
theorem dX1_init_1 : decode cX1_init 1 = .ok (.invokespecial 1, 3) := by decide +kernel
theorem dX1_init_4 : decode cX1_init 4 = .ok (.aload_n 0, 1) := by decide +kernel
theorem dX1_init_5 : decode cX1_init 5 = .ok (.sipush 16000, 3) := by decide +kernel
theorem dX1_init_8 : decode cX1_init 8 = .ok (.newarray .byte, 2) := by decide +kernel
theorem dX1_init_10 : decode cX1_init 10 = .ok (.putfield 9, 3) := by decide +kernel
theorem dX1_init_13 : decode cX1_init 13 = .ok (.aload_n 0, 1) := by decide +kernel
theorem dX1_init_14 : decode cX1_init 14 = .ok (.sipush 16000, 3) := by decide +kernel
theorem dX1_init_17 : decode cX1_init 17 = .ok (.newarray .byte, 2) := by decide +kernel
theorem dX1_init_19 : decode cX1_init 19 = .ok (.putfield 13, 3) := by decide +kernel
theorem dX1_init_22 : decode cX1_init 22 = .ok (.aload_n 0, 1) := by decide +kernel
theorem dX1_init_23 : decode cX1_init 23 = .ok (.sipush 16000, 3) := by decide +kernel
theorem dX1_init_26 : decode cX1_init 26 = .ok (.newarray .int, 2) := by decide +kernel
theorem dX1_init_28 : decode cX1_init 28 = .ok (.putfield 16, 3) := by decide +kernel
theorem dX1_init_31 : decode cX1_init 31 = .ok (.aload_n 0, 1) := by decide +kernel
theorem dX1_init_32 : decode cX1_init 32 = .ok (.sipush 16000, 3) := by decide +kernel
theorem dX1_init_35 : decode cX1_init 35 = .ok (.newarray .int, 2) := by decide +kernel
theorem dX1_init_37 : decode cX1_init 37 = .ok (.putfield 20, 3) := by decide +kernel
theorem dX1_init_40 : decode cX1_init 40 = .ok (.aload_n 0, 1) := by decide +kernel
theorem dX1_init_41 : decode cX1_init 41 = .ok (.sipush 16000, 3) := by decide +kernel
theorem dX1_init_44 : decode cX1_init 44 = .ok (.newarray .int, 2) := by decide +kernel
theorem dX1_init_46 : decode cX1_init 46 = .ok (.putfield 23, 3) := by decide +kernel
theorem dX1_init_49 : decode cX1_init 49 = .ok (.aload_n 0, 1) := by decide +kernel
theorem dX1_init_50 : decode cX1_init 50 = .ok (.iconst (-1), 1) := by decide +kernel
theorem dX1_init_51 : decode cX1_init 51 = .ok (.putfield 26, 3) := by decide +kernel
theorem dX1_init_54 : decode cX1_init 54 = .ok (.return_, 1) := by decide +kernel
theorem dX1_four_0 : decode cX1_four 0 = .ok (.iconst 0, 1) := by decide +kernel
theorem dX1_four_1 : decode cX1_four 1 = .ok (.istore_n 2, 1) := by decide +kernel
theorem dX1_four_2 : decode cX1_four 2 = .ok (.iload_n 2, 1) := by decide +kernel
theorem dX1_four_3 : decode cX1_four 3 = .ok (.iconst 4, 1) := by decide +kernel
theorem dX1_four_4 : decode cX1_four 4 = .ok (.if_icmp .ge 38, 3) := by decide +kernel
theorem dX1_four_7 : decode cX1_four 7 = .ok (.aload_n 0, 1) := by decide +kernel
theorem dX1_four_8 : decode cX1_four 8 = .ok (.getfield 9, 3) := by decide +kernel
theorem dX1_four_11 : decode cX1_four 11 = .ok (.aload_n 0, 1) := by decide +kernel
theorem dX1_four_12 : decode cX1_four 12 = .ok (.getfield 30, 3) := by decide +kernel
theorem dX1_four_15 : decode cX1_four 15 = .ok (.iload_n 1, 1) := by decide +kernel
theorem dX1_four_16 : decode cX1_four 16 = .ok (.bipush 24, 2) := by decide +kernel
theorem dX1_four_18 : decode cX1_four 18 = .ok (.bipush 8, 2) := by decide +kernel
theorem dX1_four_20 : decode cX1_four 20 = .ok (.iload_n 2, 1) := by decide +kernel
theorem dX1_four_21 : decode cX1_four 21 = .ok (.imul, 1) := by decide +kernel
theorem dX1_four_22 : decode cX1_four 22 = .ok (.isub, 1) := by decide +kernel
theorem dX1_four_23 : decode cX1_four 23 = .ok (.ishr, 1) := by decide +kernel
theorem dX1_four_24 : decode cX1_four 24 = .ok (.i2b, 1) := by decide +kernel
theorem dX1_four_25 : decode cX1_four 25 = .ok (.bastore, 1) := by decide +kernel
theorem dX1_four_26 : decode cX1_four 26 = .ok (.aload_n 0, 1) := by decide +kernel
theorem dX1_four_27 : decode cX1_four 27 = .ok (.dup, 1) := by decide +kernel
theorem dX1_four_28 : decode cX1_four 28 = .ok (.getfield 30, 3) := by decide +kernel
theorem dX1_four_31 : decode cX1_four 31 = .ok (.iconst 1, 1) := by decide +kernel
theorem dX1_four_32 : decode cX1_four 32 = .ok (.iadd, 1) := by decide +kernel
theorem dX1_four_33 : decode cX1_four 33 = .ok (.putfield 30, 3) := by decide +kernel
theorem dX1_four_36 : decode cX1_four 36 = .ok (.iinc 2 1, 3) := by decide +kernel
theorem dX1_four_39 : decode cX1_four 39 = .ok (.goto (-37), 3) := by decide +kernel
theorem dX1_four_42 : decode cX1_four 42 = .ok (.return_, 1) := by decide +kernel
set_option maxRecDepth 20000 in
theorem ggX1_feed_X1_four : GoodIn wsX1_feed wsX1_four := goodIn_r _ [8, 9, 1, 10, 11, 12, 13, 14, 15, 16, 17, 18, 19] (by decide +kernel) (by decide +kernel)
set_option maxRecDepth 20000 in
theorem gX1_feed_X1_four : GoodIn wsX1_feed (wsV RX1 37 RX1 yX1_four wsX1_four) := goodIn_app (goodIn_of _ (by decide +kernel)) ggX1_feed_X1_four
theorem dX1_feed_0 : decode cX1_feed 0 = .ok (.aload_n 0, 1) := by decide +kernel
theorem dX1_feed_1 : decode cX1_feed 1 = .ok (.getfield 30, 3) := by decide +kernel
theorem dX1_feed_4 : decode cX1_feed 4 = .ok (.bipush 20, 2) := by decide +kernel
theorem dX1_feed_6 : decode cX1_feed 6 = .ok (.iadd, 1) := by decide +kernel
theorem dX1_feed_7 : decode cX1_feed 7 = .ok (.sipush 16000, 3) := by decide +kernel
theorem dX1_feed_10 : decode cX1_feed 10 = .ok (.if_icmp .gt 15, 3) := by decide +kernel
theorem dX1_feed_13 : decode cX1_feed 13 = .ok (.aload_n 0, 1) := by decide +kernel
theorem dX1_feed_14 : decode cX1_feed 14 = .ok (.getfield 33, 3) := by decide +kernel
theorem dX1_feed_17 : decode cX1_feed 17 = .ok (.bipush 20, 2) := by decide +kernel
theorem dX1_feed_19 : decode cX1_feed 19 = .ok (.iadd, 1) := by decide +kernel
theorem dX1_feed_20 : decode cX1_feed 20 = .ok (.ldc 36, 2) := by decide +kernel
theorem dX1_feed_22 : decode cX1_feed 22 = .ok (.if_icmp .le 5, 3) := by decide +kernel
theorem dX1_feed_25 : decode cX1_feed 25 = .ok (.iconst (-1), 1) := by decide +kernel
theorem dX1_feed_26 : decode cX1_feed 26 = .ok (.ireturn, 1) := by decide +kernel
theorem dX1_feed_27 : decode cX1_feed 27 = .ok (.aload_n 0, 1) := by decide +kernel
theorem dX1_feed_28 : decode cX1_feed 28 = .ok (.iload_n 1, 1) := by decide +kernel
theorem dX1_feed_29 : decode cX1_feed 29 = .ok (.invokevirtual 37, 3) := by decide +kernel
theorem dX1_feed_32 : decode cX1_feed 32 = .ok (.aload_n 0, 1) := by decide +kernel
theorem dX1_feed_33 : decode cX1_feed 33 = .ok (.iload_n 2, 1) := by decide +kernel
theorem dX1_feed_34 : decode cX1_feed 34 = .ok (.invokevirtual 37, 3) := by decide +kernel
theorem dX1_feed_37 : decode cX1_feed 37 = .ok (.aload_n 0, 1) := by decide +kernel
theorem dX1_feed_38 : decode cX1_feed 38 = .ok (.iload_n 3, 1) := by decide +kernel
theorem dX1_feed_39 : decode cX1_feed 39 = .ok (.invokevirtual 37, 3) := by decide +kernel
theorem dX1_feed_42 : decode cX1_feed 42 = .ok (.aload_n 0, 1) := by decide +kernel
theorem dX1_feed_43 : decode cX1_feed 43 = .ok (.iload 4, 2) := by decide +kernel
theorem dX1_feed_45 : decode cX1_feed 45 = .ok (.invokevirtual 37, 3) := by decide +kernel
theorem dX1_feed_48 : decode cX1_feed 48 = .ok (.aload_n 0, 1) := by decide +kernel
theorem dX1_feed_49 : decode cX1_feed 49 = .ok (.iload 5, 2) := by decide +kernel
theorem dX1_feed_51 : decode cX1_feed 51 = .ok (.invokevirtual 37, 3) := by decide +kernel
theorem dX1_feed_54 : decode cX1_feed 54 = .ok (.aload_n 0, 1) := by decide +kernel
theorem dX1_feed_55 : decode cX1_feed 55 = .ok (.dup, 1) := by decide +kernel
theorem dX1_feed_56 : decode cX1_feed 56 = .ok (.getfield 33, 3) := by decide +kernel
theorem dX1_feed_59 : decode cX1_feed 59 = .ok (.bipush 20, 2) := by decide +kernel
theorem dX1_feed_61 : decode cX1_feed 61 = .ok (.iadd, 1) := by decide +kernel
theorem dX1_feed_62 : decode cX1_feed 62 = .ok (.putfield 33, 3) := by decide +kernel
theorem dX1_feed_65 : decode cX1_feed 65 = .ok (.aload_n 0, 1) := by decide +kernel
theorem dX1_feed_66 : decode cX1_feed 66 = .ok (.getfield 30, 3) := by decide +kernel
theorem dX1_feed_69 : decode cX1_feed 69 = .ok (.ireturn, 1) := by decide +kernel
theorem dX1_end_0 : decode cX1_end 0 = .ok (.iload_n 1, 1) := by decide +kernel
theorem dX1_end_1 : decode cX1_end 1 = .ok (.ifCond .lt 11, 3) := by decide +kernel
theorem dX1_end_4 : decode cX1_end 4 = .ok (.iload_n 1, 1) := by decide +kernel
theorem dX1_end_5 : decode cX1_end 5 = .ok (.aload_n 0, 1) := by decide +kernel
theorem dX1_end_6 : decode cX1_end 6 = .ok (.getfield 30, 3) := by decide +kernel
theorem dX1_end_9 : decode cX1_end 9 = .ok (.if_icmp .le 5, 3) := by decide +kernel
theorem dX1_end_12 : decode cX1_end 12 = .ok (.iconst (-1), 1) := by decide +kernel
theorem dX1_end_13 : decode cX1_end 13 = .ok (.ireturn, 1) := by decide +kernel
theorem dX1_end_14 : decode cX1_end 14 = .ok (.aload_n 0, 1) := by decide +kernel
theorem dX1_end_15 : decode cX1_end 15 = .ok (.iload_n 1, 1) := by decide +kernel
theorem dX1_end_16 : decode cX1_end 16 = .ok (.putfield 30, 3) := by decide +kernel
theorem dX1_end_19 : decode cX1_end 19 = .ok (.iload_n 1, 1) := by decide +kernel
theorem dX1_end_20 : decode cX1_end 20 = .ok (.ireturn, 1) := by decide +kernel
theorem dX1_look_0 : decode cX1_look 0 = .ok (.iload_n 1, 1) := by decide +kernel
theorem dX1_look_1 : decode cX1_look 1 = .ok (.ifCond .lt 24, 3) := by decide +kernel
theorem dX1_look_4 : decode cX1_look 4 = .ok (.iload_n 1, 1) := by decide +kernel
theorem dX1_look_5 : decode cX1_look 5 = .ok (.aload_n 0, 1) := by decide +kernel
theorem dX1_look_6 : decode cX1_look 6 = .ok (.getfield 41, 3) := by decide +kernel
theorem dX1_look_9 : decode cX1_look 9 = .ok (.if_icmp .ge 16, 3) := by decide +kernel
theorem dX1_look_12 : decode cX1_look 12 = .ok (.aload_n 0, 1) := by decide +kernel
theorem dX1_look_13 : decode cX1_look 13 = .ok (.getfield 13, 3) := by decide +kernel
theorem dX1_look_16 : decode cX1_look 16 = .ok (.iload_n 1, 1) := by decide +kernel
theorem dX1_look_17 : decode cX1_look 17 = .ok (.baload, 1) := by decide +kernel
theorem dX1_look_18 : decode cX1_look 18 = .ok (.sipush 255, 3) := by decide +kernel
theorem dX1_look_21 : decode cX1_look 21 = .ok (.iand, 1) := by decide +kernel
theorem dX1_look_22 : decode cX1_look 22 = .ok (.goto 4, 3) := by decide +kernel
theorem dX1_look_25 : decode cX1_look 25 = .ok (.iconst (-1), 1) := by decide +kernel
theorem dX1_look_26 : decode cX1_look 26 = .ok (.ireturn, 1) := by decide +kernel
theorem dX1_isDigit_0 : decode cX1_isDigit 0 = .ok (.iload_n 0, 1) := by decide +kernel
theorem dX1_isDigit_1 : decode cX1_isDigit 1 = .ok (.bipush 48, 2) := by decide +kernel
theorem dX1_isDigit_3 : decode cX1_isDigit 3 = .ok (.if_icmp .lt 13, 3) := by decide +kernel
theorem dX1_isDigit_6 : decode cX1_isDigit 6 = .ok (.iload_n 0, 1) := by decide +kernel
theorem dX1_isDigit_7 : decode cX1_isDigit 7 = .ok (.bipush 57, 2) := by decide +kernel
theorem dX1_isDigit_9 : decode cX1_isDigit 9 = .ok (.if_icmp .gt 7, 3) := by decide +kernel
theorem dX1_isDigit_12 : decode cX1_isDigit 12 = .ok (.iconst 1, 1) := by decide +kernel
theorem dX1_isDigit_13 : decode cX1_isDigit 13 = .ok (.goto 4, 3) := by decide +kernel
theorem dX1_isDigit_16 : decode cX1_isDigit 16 = .ok (.iconst 0, 1) := by decide +kernel
theorem dX1_isDigit_17 : decode cX1_isDigit 17 = .ok (.ireturn, 1) := by decide +kernel
set_option maxRecDepth 20000 in
theorem ggX1_isInName_X1_isDigit : GoodIn wsX1_isInName wsX1_isDigit := goodIn_r _ [4] (by decide +kernel) (by decide +kernel)
set_option maxRecDepth 20000 in
theorem gX1_isInName_X1_isDigit : GoodIn wsX1_isInName (va_wsS RX1 44 yX1_isDigit wsX1_isDigit) := goodIn_app (goodIn_of _ (by decide +kernel)) ggX1_isInName_X1_isDigit
theorem dX1_isInName_0 : decode cX1_isInName 0 = .ok (.iload_n 0, 1) := by decide +kernel
theorem dX1_isInName_1 : decode cX1_isInName 1 = .ok (.invokestatic 44, 3) := by decide +kernel
theorem dX1_isInName_4 : decode cX1_isInName 4 = .ok (.ifCond .ne 33, 3) := by decide +kernel
theorem dX1_isInName_7 : decode cX1_isInName 7 = .ok (.iload_n 0, 1) := by decide +kernel
theorem dX1_isInName_8 : decode cX1_isInName 8 = .ok (.bipush 95, 2) := by decide +kernel
theorem dX1_isInName_10 : decode cX1_isInName 10 = .ok (.if_icmp .eq 27, 3) := by decide +kernel
theorem dX1_isInName_13 : decode cX1_isInName 13 = .ok (.iload_n 0, 1) := by decide +kernel
theorem dX1_isInName_14 : decode cX1_isInName 14 = .ok (.bipush 97, 2) := by decide +kernel
theorem dX1_isInName_16 : decode cX1_isInName 16 = .ok (.if_icmp .lt 9, 3) := by decide +kernel
theorem dX1_isInName_19 : decode cX1_isInName 19 = .ok (.iload_n 0, 1) := by decide +kernel
theorem dX1_isInName_20 : decode cX1_isInName 20 = .ok (.bipush 122, 2) := by decide +kernel
theorem dX1_isInName_22 : decode cX1_isInName 22 = .ok (.if_icmp .le 15, 3) := by decide +kernel
theorem dX1_isInName_25 : decode cX1_isInName 25 = .ok (.iload_n 0, 1) := by decide +kernel
theorem dX1_isInName_26 : decode cX1_isInName 26 = .ok (.bipush 65, 2) := by decide +kernel
theorem dX1_isInName_28 : decode cX1_isInName 28 = .ok (.if_icmp .lt 13, 3) := by decide +kernel
theorem dX1_isInName_31 : decode cX1_isInName 31 = .ok (.iload_n 0, 1) := by decide +kernel
theorem dX1_isInName_32 : decode cX1_isInName 32 = .ok (.bipush 90, 2) := by decide +kernel
theorem dX1_isInName_34 : decode cX1_isInName 34 = .ok (.if_icmp .gt 7, 3) := by decide +kernel
theorem dX1_isInName_37 : decode cX1_isInName 37 = .ok (.iconst 1, 1) := by decide +kernel
theorem dX1_isInName_38 : decode cX1_isInName 38 = .ok (.goto 4, 3) := by decide +kernel
theorem dX1_isInName_41 : decode cX1_isInName 41 = .ok (.iconst 0, 1) := by decide +kernel
theorem dX1_isInName_42 : decode cX1_isInName 42 = .ok (.ireturn, 1) := by decide +kernel
set_option maxRecDepth 20000 in
theorem ggX1_sixteen_X1_isDigit : GoodIn wsX1_sixteen wsX1_isDigit := goodIn_r _ [4] (by decide +kernel) (by decide +kernel)
set_option maxRecDepth 20000 in
theorem gX1_sixteen_X1_isDigit : GoodIn wsX1_sixteen (va_wsS RX1 44 yX1_isDigit wsX1_isDigit) := goodIn_app (goodIn_of _ (by decide +kernel)) ggX1_sixteen_X1_isDigit
theorem dX1_sixteen_0 : decode cX1_sixteen 0 = .ok (.iload_n 0, 1) := by decide +kernel
theorem dX1_sixteen_1 : decode cX1_sixteen 1 = .ok (.invokestatic 44, 3) := by decide +kernel
theorem dX1_sixteen_4 : decode cX1_sixteen 4 = .ok (.ifCond .eq 10, 3) := by decide +kernel
theorem dX1_sixteen_7 : decode cX1_sixteen 7 = .ok (.iload_n 0, 1) := by decide +kernel
theorem dX1_sixteen_8 : decode cX1_sixteen 8 = .ok (.bipush 48, 2) := by decide +kernel
theorem dX1_sixteen_10 : decode cX1_sixteen 10 = .ok (.isub, 1) := by decide +kernel
theorem dX1_sixteen_11 : decode cX1_sixteen 11 = .ok (.goto 42, 3) := by decide +kernel
theorem dX1_sixteen_14 : decode cX1_sixteen 14 = .ok (.iload_n 0, 1) := by decide +kernel
theorem dX1_sixteen_15 : decode cX1_sixteen 15 = .ok (.bipush 97, 2) := by decide +kernel
theorem dX1_sixteen_17 : decode cX1_sixteen 17 = .ok (.if_icmp .lt 16, 3) := by decide +kernel
theorem dX1_sixteen_20 : decode cX1_sixteen 20 = .ok (.iload_n 0, 1) := by decide +kernel
theorem dX1_sixteen_21 : decode cX1_sixteen 21 = .ok (.bipush 102, 2) := by decide +kernel
theorem dX1_sixteen_23 : decode cX1_sixteen 23 = .ok (.if_icmp .gt 10, 3) := by decide +kernel
theorem dX1_sixteen_26 : decode cX1_sixteen 26 = .ok (.iload_n 0, 1) := by decide +kernel
theorem dX1_sixteen_27 : decode cX1_sixteen 27 = .ok (.bipush 87, 2) := by decide +kernel
theorem dX1_sixteen_29 : decode cX1_sixteen 29 = .ok (.isub, 1) := by decide +kernel
theorem dX1_sixteen_30 : decode cX1_sixteen 30 = .ok (.goto 23, 3) := by decide +kernel
theorem dX1_sixteen_33 : decode cX1_sixteen 33 = .ok (.iload_n 0, 1) := by decide +kernel
theorem dX1_sixteen_34 : decode cX1_sixteen 34 = .ok (.bipush 65, 2) := by decide +kernel
theorem dX1_sixteen_36 : decode cX1_sixteen 36 = .ok (.if_icmp .lt 16, 3) := by decide +kernel
theorem dX1_sixteen_39 : decode cX1_sixteen 39 = .ok (.iload_n 0, 1) := by decide +kernel
theorem dX1_sixteen_40 : decode cX1_sixteen 40 = .ok (.bipush 70, 2) := by decide +kernel
theorem dX1_sixteen_42 : decode cX1_sixteen 42 = .ok (.if_icmp .gt 10, 3) := by decide +kernel
theorem dX1_sixteen_45 : decode cX1_sixteen 45 = .ok (.iload_n 0, 1) := by decide +kernel
theorem dX1_sixteen_46 : decode cX1_sixteen 46 = .ok (.bipush 55, 2) := by decide +kernel
theorem dX1_sixteen_48 : decode cX1_sixteen 48 = .ok (.isub, 1) := by decide +kernel
theorem dX1_sixteen_49 : decode cX1_sixteen 49 = .ok (.goto 4, 3) := by decide +kernel
theorem dX1_sixteen_52 : decode cX1_sixteen 52 = .ok (.iconst (-1), 1) := by decide +kernel
theorem dX1_sixteen_53 : decode cX1_sixteen 53 = .ok (.ireturn, 1) := by decide +kernel
theorem dX1_isBlank_0 : decode cX1_isBlank 0 = .ok (.iload_n 0, 1) := by decide +kernel
theorem dX1_isBlank_1 : decode cX1_isBlank 1 = .ok (.bipush 9, 2) := by decide +kernel
theorem dX1_isBlank_3 : decode cX1_isBlank 3 = .ok (.if_icmp .eq 21, 3) := by decide +kernel
theorem dX1_isBlank_6 : decode cX1_isBlank 6 = .ok (.iload_n 0, 1) := by decide +kernel
theorem dX1_isBlank_7 : decode cX1_isBlank 7 = .ok (.bipush 10, 2) := by decide +kernel
theorem dX1_isBlank_9 : decode cX1_isBlank 9 = .ok (.if_icmp .eq 15, 3) := by decide +kernel
theorem dX1_isBlank_12 : decode cX1_isBlank 12 = .ok (.iload_n 0, 1) := by decide +kernel
theorem dX1_isBlank_13 : decode cX1_isBlank 13 = .ok (.bipush 13, 2) := by decide +kernel
theorem dX1_isBlank_15 : decode cX1_isBlank 15 = .ok (.if_icmp .eq 9, 3) := by decide +kernel
theorem dX1_isBlank_18 : decode cX1_isBlank 18 = .ok (.iload_n 0, 1) := by decide +kernel
theorem dX1_isBlank_19 : decode cX1_isBlank 19 = .ok (.bipush 32, 2) := by decide +kernel
theorem dX1_isBlank_21 : decode cX1_isBlank 21 = .ok (.if_icmp .ne 7, 3) := by decide +kernel
theorem dX1_isBlank_24 : decode cX1_isBlank 24 = .ok (.iconst 1, 1) := by decide +kernel
theorem dX1_isBlank_25 : decode cX1_isBlank 25 = .ok (.goto 4, 3) := by decide +kernel
theorem dX1_isBlank_28 : decode cX1_isBlank 28 = .ok (.iconst 0, 1) := by decide +kernel
theorem dX1_isBlank_29 : decode cX1_isBlank 29 = .ok (.ireturn, 1) := by decide +kernel
set_option maxRecDepth 20000 in
theorem ggX1_isAllowed_X1_isBlank : GoodIn wsX1_isAllowed wsX1_isBlank := goodIn_r _ [4] (by decide +kernel) (by decide +kernel)
set_option maxRecDepth 20000 in
theorem gX1_isAllowed_X1_isBlank : GoodIn wsX1_isAllowed (va_wsS RX1 48 yX1_isBlank wsX1_isBlank) := goodIn_app (goodIn_of _ (by decide +kernel)) ggX1_isAllowed_X1_isBlank
theorem dX1_isAllowed_0 : decode cX1_isAllowed 0 = .ok (.iload_n 0, 1) := by decide +kernel
theorem dX1_isAllowed_1 : decode cX1_isAllowed 1 = .ok (.invokestatic 48, 3) := by decide +kernel
theorem dX1_isAllowed_4 : decode cX1_isAllowed 4 = .ok (.ifCond .ne 15, 3) := by decide +kernel
theorem dX1_isAllowed_7 : decode cX1_isAllowed 7 = .ok (.iload_n 0, 1) := by decide +kernel
theorem dX1_isAllowed_8 : decode cX1_isAllowed 8 = .ok (.bipush 32, 2) := by decide +kernel
theorem dX1_isAllowed_10 : decode cX1_isAllowed 10 = .ok (.if_icmp .lt 13, 3) := by decide +kernel
theorem dX1_isAllowed_13 : decode cX1_isAllowed 13 = .ok (.iload_n 0, 1) := by decide +kernel
theorem dX1_isAllowed_14 : decode cX1_isAllowed 14 = .ok (.bipush 126, 2) := by decide +kernel
theorem dX1_isAllowed_16 : decode cX1_isAllowed 16 = .ok (.if_icmp .gt 7, 3) := by decide +kernel
theorem dX1_isAllowed_19 : decode cX1_isAllowed 19 = .ok (.iconst 1, 1) := by decide +kernel
theorem dX1_isAllowed_20 : decode cX1_isAllowed 20 = .ok (.goto 4, 3) := by decide +kernel
theorem dX1_isAllowed_23 : decode cX1_isAllowed 23 = .ok (.iconst 0, 1) := by decide +kernel
theorem dX1_isAllowed_24 : decode cX1_isAllowed 24 = .ok (.ireturn, 1) := by decide +kernel
set_option maxRecDepth 20000 in
theorem ggX1_blanks_X1_look : GoodIn wsX1_blanks wsX1_look := goodIn_r _ [6, 7, 8, 15, 16, 17, 18, 19, 20, 21, 22, 23, 24] (by decide +kernel) (by decide +kernel)
set_option maxRecDepth 20000 in
theorem gX1_blanks_X1_look : GoodIn wsX1_blanks (wsV RX1 51 RX1 yX1_look wsX1_look) := goodIn_app (goodIn_of _ (by decide +kernel)) ggX1_blanks_X1_look
set_option maxRecDepth 20000 in
theorem ggX1_blanks_X1_isBlank : GoodIn wsX1_blanks wsX1_isBlank := goodIn_r _ [11] (by decide +kernel) (by decide +kernel)
set_option maxRecDepth 20000 in
theorem gX1_blanks_X1_isBlank : GoodIn wsX1_blanks (va_wsS RX1 48 yX1_isBlank wsX1_isBlank) := goodIn_app (goodIn_of _ (by decide +kernel)) ggX1_blanks_X1_isBlank
set_option maxRecDepth 20000 in
theorem ggX1_blanks_X1_isAllowed : GoodIn wsX1_blanks wsX1_isAllowed := goodIn_r _ [14, 9, 10, 5, 11] (by decide +kernel) (by decide +kernel)
set_option maxRecDepth 20000 in
theorem gX1_blanks_X1_isAllowed : GoodIn wsX1_blanks (va_wsS RX1 55 yX1_isAllowed wsX1_isAllowed) := goodIn_app (goodIn_of _ (by decide +kernel)) ggX1_blanks_X1_isAllowed
theorem dX1_blanks_0 : decode cX1_blanks 0 = .ok (.iload_n 1, 1) := by decide +kernel
theorem dX1_blanks_1 : decode cX1_blanks 1 = .ok (.istore_n 2, 1) := by decide +kernel
theorem dX1_blanks_2 : decode cX1_blanks 2 = .ok (.iconst 1, 1) := by decide +kernel
theorem dX1_blanks_3 : decode cX1_blanks 3 = .ok (.istore_n 3, 1) := by decide +kernel
theorem dX1_blanks_4 : decode cX1_blanks 4 = .ok (.iload_n 3, 1) := by decide +kernel
theorem dX1_blanks_5 : decode cX1_blanks 5 = .ok (.ifCond .eq 251, 3) := by decide +kernel
theorem dX1_blanks_8 : decode cX1_blanks 8 = .ok (.aload_n 0, 1) := by decide +kernel
theorem dX1_blanks_9 : decode cX1_blanks 9 = .ok (.iload_n 2, 1) := by decide +kernel
theorem dX1_blanks_10 : decode cX1_blanks 10 = .ok (.invokevirtual 51, 3) := by decide +kernel
theorem dX1_blanks_13 : decode cX1_blanks 13 = .ok (.invokestatic 48, 3) := by decide +kernel
theorem dX1_blanks_16 : decode cX1_blanks 16 = .ok (.ifCond .eq 9, 3) := by decide +kernel
theorem dX1_blanks_19 : decode cX1_blanks 19 = .ok (.iinc 2 1, 3) := by decide +kernel
theorem dX1_blanks_22 : decode cX1_blanks 22 = .ok (.goto (-14), 3) := by decide +kernel
theorem dX1_blanks_25 : decode cX1_blanks 25 = .ok (.aload_n 0, 1) := by decide +kernel
theorem dX1_blanks_26 : decode cX1_blanks 26 = .ok (.iload_n 2, 1) := by decide +kernel
theorem dX1_blanks_27 : decode cX1_blanks 27 = .ok (.invokevirtual 51, 3) := by decide +kernel
theorem dX1_blanks_30 : decode cX1_blanks 30 = .ok (.bipush 47, 2) := by decide +kernel
theorem dX1_blanks_32 : decode cX1_blanks 32 = .ok (.if_icmp .ne 19, 3) := by decide +kernel
theorem dX1_blanks_35 : decode cX1_blanks 35 = .ok (.aload_n 0, 1) := by decide +kernel
theorem dX1_blanks_36 : decode cX1_blanks 36 = .ok (.iload_n 2, 1) := by decide +kernel
theorem dX1_blanks_37 : decode cX1_blanks 37 = .ok (.iconst 1, 1) := by decide +kernel
theorem dX1_blanks_38 : decode cX1_blanks 38 = .ok (.iadd, 1) := by decide +kernel
theorem dX1_blanks_39 : decode cX1_blanks 39 = .ok (.invokevirtual 51, 3) := by decide +kernel
theorem dX1_blanks_42 : decode cX1_blanks 42 = .ok (.bipush 47, 2) := by decide +kernel
theorem dX1_blanks_44 : decode cX1_blanks 44 = .ok (.if_icmp .ne 7, 3) := by decide +kernel
theorem dX1_blanks_47 : decode cX1_blanks 47 = .ok (.iconst 1, 1) := by decide +kernel
theorem dX1_blanks_48 : decode cX1_blanks 48 = .ok (.goto 4, 3) := by decide +kernel
theorem dX1_blanks_51 : decode cX1_blanks 51 = .ok (.iconst 0, 1) := by decide +kernel
theorem dX1_blanks_52 : decode cX1_blanks 52 = .ok (.istore 4, 2) := by decide +kernel
theorem dX1_blanks_54 : decode cX1_blanks 54 = .ok (.aload_n 0, 1) := by decide +kernel
theorem dX1_blanks_55 : decode cX1_blanks 55 = .ok (.iload_n 2, 1) := by decide +kernel
theorem dX1_blanks_56 : decode cX1_blanks 56 = .ok (.invokevirtual 51, 3) := by decide +kernel
theorem dX1_blanks_59 : decode cX1_blanks 59 = .ok (.bipush 47, 2) := by decide +kernel
theorem dX1_blanks_61 : decode cX1_blanks 61 = .ok (.if_icmp .ne 19, 3) := by decide +kernel
theorem dX1_blanks_64 : decode cX1_blanks 64 = .ok (.aload_n 0, 1) := by decide +kernel
theorem dX1_blanks_65 : decode cX1_blanks 65 = .ok (.iload_n 2, 1) := by decide +kernel
theorem dX1_blanks_66 : decode cX1_blanks 66 = .ok (.iconst 1, 1) := by decide +kernel
theorem dX1_blanks_67 : decode cX1_blanks 67 = .ok (.iadd, 1) := by decide +kernel
theorem dX1_blanks_68 : decode cX1_blanks 68 = .ok (.invokevirtual 51, 3) := by decide +kernel
theorem dX1_blanks_71 : decode cX1_blanks 71 = .ok (.bipush 42, 2) := by decide +kernel
theorem dX1_blanks_73 : decode cX1_blanks 73 = .ok (.if_icmp .ne 7, 3) := by decide +kernel
theorem dX1_blanks_76 : decode cX1_blanks 76 = .ok (.iconst 1, 1) := by decide +kernel
theorem dX1_blanks_77 : decode cX1_blanks 77 = .ok (.goto 4, 3) := by decide +kernel
theorem dX1_blanks_80 : decode cX1_blanks 80 = .ok (.iconst 0, 1) := by decide +kernel
theorem dX1_blanks_81 : decode cX1_blanks 81 = .ok (.istore 5, 2) := by decide +kernel
theorem dX1_blanks_83 : decode cX1_blanks 83 = .ok (.iload 4, 2) := by decide +kernel
theorem dX1_blanks_85 : decode cX1_blanks 85 = .ok (.ifCond .ne 8, 3) := by decide +kernel
theorem dX1_blanks_88 : decode cX1_blanks 88 = .ok (.iload 5, 2) := by decide +kernel
theorem dX1_blanks_90 : decode cX1_blanks 90 = .ok (.ifCond .eq 7, 3) := by decide +kernel
theorem dX1_blanks_93 : decode cX1_blanks 93 = .ok (.iconst 1, 1) := by decide +kernel
theorem dX1_blanks_94 : decode cX1_blanks 94 = .ok (.goto 4, 3) := by decide +kernel
theorem dX1_blanks_97 : decode cX1_blanks 97 = .ok (.iconst 0, 1) := by decide +kernel
theorem dX1_blanks_98 : decode cX1_blanks 98 = .ok (.istore_n 3, 1) := by decide +kernel
theorem dX1_blanks_99 : decode cX1_blanks 99 = .ok (.iload_n 3, 1) := by decide +kernel
theorem dX1_blanks_100 : decode cX1_blanks 100 = .ok (.ifCond .ne 5, 3) := by decide +kernel
theorem dX1_blanks_103 : decode cX1_blanks 103 = .ok (.iload_n 2, 1) := by decide +kernel
theorem dX1_blanks_104 : decode cX1_blanks 104 = .ok (.ireturn, 1) := by decide +kernel
theorem dX1_blanks_105 : decode cX1_blanks 105 = .ok (.iload_n 2, 1) := by decide +kernel
theorem dX1_blanks_106 : decode cX1_blanks 106 = .ok (.iconst 2, 1) := by decide +kernel
theorem dX1_blanks_107 : decode cX1_blanks 107 = .ok (.iadd, 1) := by decide +kernel
theorem dX1_blanks_108 : decode cX1_blanks 108 = .ok (.istore 6, 2) := by decide +kernel
theorem dX1_blanks_110 : decode cX1_blanks 110 = .ok (.aload_n 0, 1) := by decide +kernel
theorem dX1_blanks_111 : decode cX1_blanks 111 = .ok (.iload 6, 2) := by decide +kernel
theorem dX1_blanks_113 : decode cX1_blanks 113 = .ok (.invokevirtual 51, 3) := by decide +kernel
theorem dX1_blanks_116 : decode cX1_blanks 116 = .ok (.ifCond .lt 64, 3) := by decide +kernel
theorem dX1_blanks_119 : decode cX1_blanks 119 = .ok (.aload_n 0, 1) := by decide +kernel
theorem dX1_blanks_120 : decode cX1_blanks 120 = .ok (.iload 6, 2) := by decide +kernel
theorem dX1_blanks_122 : decode cX1_blanks 122 = .ok (.invokevirtual 51, 3) := by decide +kernel
theorem dX1_blanks_125 : decode cX1_blanks 125 = .ok (.invokestatic 55, 3) := by decide +kernel
theorem dX1_blanks_128 : decode cX1_blanks 128 = .ok (.ifCond .eq 52, 3) := by decide +kernel
theorem dX1_blanks_131 : decode cX1_blanks 131 = .ok (.iload 4, 2) := by decide +kernel
theorem dX1_blanks_133 : decode cX1_blanks 133 = .ok (.ifCond .eq 17, 3) := by decide +kernel
theorem dX1_blanks_136 : decode cX1_blanks 136 = .ok (.aload_n 0, 1) := by decide +kernel
theorem dX1_blanks_137 : decode cX1_blanks 137 = .ok (.iload 6, 2) := by decide +kernel
theorem dX1_blanks_139 : decode cX1_blanks 139 = .ok (.invokevirtual 51, 3) := by decide +kernel
theorem dX1_blanks_142 : decode cX1_blanks 142 = .ok (.bipush 10, 2) := by decide +kernel
theorem dX1_blanks_144 : decode cX1_blanks 144 = .ok (.if_icmp .ne 30, 3) := by decide +kernel
theorem dX1_blanks_147 : decode cX1_blanks 147 = .ok (.goto 33, 3) := by decide +kernel
theorem dX1_blanks_150 : decode cX1_blanks 150 = .ok (.aload_n 0, 1) := by decide +kernel
theorem dX1_blanks_151 : decode cX1_blanks 151 = .ok (.iload 6, 2) := by decide +kernel
theorem dX1_blanks_153 : decode cX1_blanks 153 = .ok (.invokevirtual 51, 3) := by decide +kernel
theorem dX1_blanks_156 : decode cX1_blanks 156 = .ok (.bipush 42, 2) := by decide +kernel
theorem dX1_blanks_158 : decode cX1_blanks 158 = .ok (.if_icmp .ne 16, 3) := by decide +kernel
theorem dX1_blanks_161 : decode cX1_blanks 161 = .ok (.aload_n 0, 1) := by decide +kernel
theorem dX1_blanks_162 : decode cX1_blanks 162 = .ok (.iload 6, 2) := by decide +kernel
theorem dX1_blanks_164 : decode cX1_blanks 164 = .ok (.iconst 1, 1) := by decide +kernel
theorem dX1_blanks_165 : decode cX1_blanks 165 = .ok (.iadd, 1) := by decide +kernel
theorem dX1_blanks_166 : decode cX1_blanks 166 = .ok (.invokevirtual 51, 3) := by decide +kernel
theorem dX1_blanks_169 : decode cX1_blanks 169 = .ok (.bipush 47, 2) := by decide +kernel
theorem dX1_blanks_171 : decode cX1_blanks 171 = .ok (.if_icmp .eq 9, 3) := by decide +kernel
theorem dX1_blanks_174 : decode cX1_blanks 174 = .ok (.iinc 6 1, 3) := by decide +kernel
theorem dX1_blanks_177 : decode cX1_blanks 177 = .ok (.goto (-67), 3) := by decide +kernel
theorem dX1_blanks_180 : decode cX1_blanks 180 = .ok (.aload_n 0, 1) := by decide +kernel
theorem dX1_blanks_181 : decode cX1_blanks 181 = .ok (.iload 6, 2) := by decide +kernel
theorem dX1_blanks_183 : decode cX1_blanks 183 = .ok (.invokevirtual 51, 3) := by decide +kernel
theorem dX1_blanks_186 : decode cX1_blanks 186 = .ok (.ifCond .lt 24, 3) := by decide +kernel
theorem dX1_blanks_189 : decode cX1_blanks 189 = .ok (.aload_n 0, 1) := by decide +kernel
theorem dX1_blanks_190 : decode cX1_blanks 190 = .ok (.iload 6, 2) := by decide +kernel
theorem dX1_blanks_192 : decode cX1_blanks 192 = .ok (.invokevirtual 51, 3) := by decide +kernel
theorem dX1_blanks_195 : decode cX1_blanks 195 = .ok (.invokestatic 55, 3) := by decide +kernel
theorem dX1_blanks_198 : decode cX1_blanks 198 = .ok (.ifCond .ne 12, 3) := by decide +kernel
theorem dX1_blanks_201 : decode cX1_blanks 201 = .ok (.aload_n 0, 1) := by decide +kernel
theorem dX1_blanks_202 : decode cX1_blanks 202 = .ok (.iload 6, 2) := by decide +kernel
theorem dX1_blanks_204 : decode cX1_blanks 204 = .ok (.putfield 26, 3) := by decide +kernel
theorem dX1_blanks_207 : decode cX1_blanks 207 = .ok (.goto 22, 3) := by decide +kernel
theorem dX1_blanks_210 : decode cX1_blanks 210 = .ok (.iload 5, 2) := by decide +kernel
theorem dX1_blanks_212 : decode cX1_blanks 212 = .ok (.ifCond .eq 17, 3) := by decide +kernel
theorem dX1_blanks_215 : decode cX1_blanks 215 = .ok (.aload_n 0, 1) := by decide +kernel
theorem dX1_blanks_216 : decode cX1_blanks 216 = .ok (.iload 6, 2) := by decide +kernel
theorem dX1_blanks_218 : decode cX1_blanks 218 = .ok (.invokevirtual 51, 3) := by decide +kernel
theorem dX1_blanks_221 : decode cX1_blanks 221 = .ok (.ifCond .ge 8, 3) := by decide +kernel
theorem dX1_blanks_224 : decode cX1_blanks 224 = .ok (.aload_n 0, 1) := by decide +kernel
theorem dX1_blanks_225 : decode cX1_blanks 225 = .ok (.iload_n 2, 1) := by decide +kernel
theorem dX1_blanks_226 : decode cX1_blanks 226 = .ok (.putfield 26, 3) := by decide +kernel
theorem dX1_blanks_229 : decode cX1_blanks 229 = .ok (.aload_n 0, 1) := by decide +kernel
theorem dX1_blanks_230 : decode cX1_blanks 230 = .ok (.getfield 26, 3) := by decide +kernel
theorem dX1_blanks_233 : decode cX1_blanks 233 = .ok (.ifCond .lt 5, 3) := by decide +kernel
theorem dX1_blanks_236 : decode cX1_blanks 236 = .ok (.iload_n 2, 1) := by decide +kernel
theorem dX1_blanks_237 : decode cX1_blanks 237 = .ok (.ireturn, 1) := by decide +kernel
theorem dX1_blanks_238 : decode cX1_blanks 238 = .ok (.iload 4, 2) := by decide +kernel
theorem dX1_blanks_240 : decode cX1_blanks 240 = .ok (.ifCond .eq 8, 3) := by decide +kernel
theorem dX1_blanks_243 : decode cX1_blanks 243 = .ok (.iload 6, 2) := by decide +kernel
theorem dX1_blanks_245 : decode cX1_blanks 245 = .ok (.goto 7, 3) := by decide +kernel
theorem dX1_blanks_248 : decode cX1_blanks 248 = .ok (.iload 6, 2) := by decide +kernel
theorem dX1_blanks_250 : decode cX1_blanks 250 = .ok (.iconst 2, 1) := by decide +kernel
theorem dX1_blanks_251 : decode cX1_blanks 251 = .ok (.iadd, 1) := by decide +kernel
theorem dX1_blanks_252 : decode cX1_blanks 252 = .ok (.istore_n 2, 1) := by decide +kernel
theorem dX1_blanks_253 : decode cX1_blanks 253 = .ok (.goto (-249), 3) := by decide +kernel
theorem dX1_blanks_256 : decode cX1_blanks 256 = .ok (.iload_n 2, 1) := by decide +kernel
theorem dX1_blanks_257 : decode cX1_blanks 257 = .ok (.ireturn, 1) := by decide +kernel
set_option maxRecDepth 20000 in
theorem ggX1_cut_X1_blanks : GoodIn wsX1_cut wsX1_blanks := goodIn_r _ [14, 6, 15, 16, 17, 13, 18, 2, 3, 19, 20, 21, 22, 23, 24, 114, 115, 116, 117, 118, 119, 120, 121, 122, 123] (by decide +kernel) (by decide +kernel)
set_option maxRecDepth 20000 in
theorem gX1_cut_X1_blanks : GoodIn wsX1_cut (wsV RX1 61 RX1 yX1_blanks wsX1_blanks) := goodIn_app (goodIn_of _ (by decide +kernel)) ggX1_cut_X1_blanks
set_option maxRecDepth 20000 in
theorem ggX1_cut_X1_kindAt : GoodIn wsX1_cut wsX1_kindAt := goodIn_r _ [28, 15, 16, 17, 13, 18, 2, 3, 29, 30, 31, 32, 33, 34, 35, 36, 37, 38, 39, 40, 41, 42, 43, 44, 45, 46, 47, 48, 49, 50, 51, 52, 53, 54, 55, 56, 57, 58, 59, 60, 61, 62, 63, 64, 65, 66, 67, 68, 69, 70, 71, 72, 73, 74, 75, 76, 77, 78, 79, 80, 81, 82, 83, 84, 85, 86, 87, 88, 89, 90, 91, 114, 115, 116, 117, 118, 119, 120, 121, 122, 123] (by decide +kernel) (by decide +kernel)
set_option maxRecDepth 20000 in
theorem gX1_cut_X1_kindAt : GoodIn wsX1_cut (wsV RX1 64 RX1 yX1_kindAt wsX1_kindAt) := goodIn_app (goodIn_of _ (by decide +kernel)) ggX1_cut_X1_kindAt
set_option maxRecDepth 20000 in
theorem ggX1_cut_X1_endOf : GoodIn wsX1_cut wsX1_endOf := goodIn_r _ [95, 35, 36, 37, 13, 38, 39, 40, 41, 42, 43, 44, 45, 46, 47, 48, 49, 50, 51, 52, 53, 54, 55, 56, 57, 58, 59, 60, 61, 62, 63, 64, 65, 66, 67, 68, 69, 70, 71, 72, 73, 74, 75, 76, 77, 78, 79, 80, 81, 82, 83, 84, 85, 86, 87, 88, 89, 90, 91, 15, 16, 17, 18, 2, 3, 96, 97, 98, 99, 100, 101, 102, 103, 32, 33, 34, 29, 30, 31, 104, 105, 106, 107, 108, 109, 110, 111, 112, 113, 114, 115, 116, 117, 118, 119, 120, 121, 122, 123] (by decide +kernel) (by decide +kernel)
set_option maxRecDepth 20000 in
theorem gX1_cut_X1_endOf : GoodIn wsX1_cut (wsV RX1 67 RX1 yX1_endOf wsX1_endOf) := goodIn_app (goodIn_of _ (by decide +kernel)) ggX1_cut_X1_endOf
theorem dX1_cut_0 : decode cX1_cut 0 = .ok (.aload_n 0, 1) := by decide +kernel
theorem dX1_cut_1 : decode cX1_cut 1 = .ok (.aload_n 0, 1) := by decide +kernel
theorem dX1_cut_2 : decode cX1_cut 2 = .ok (.getfield 30, 3) := by decide +kernel
theorem dX1_cut_5 : decode cX1_cut 5 = .ok (.putfield 41, 3) := by decide +kernel
theorem dX1_cut_8 : decode cX1_cut 8 = .ok (.aload_n 0, 1) := by decide +kernel
theorem dX1_cut_9 : decode cX1_cut 9 = .ok (.iconst 0, 1) := by decide +kernel
theorem dX1_cut_10 : decode cX1_cut 10 = .ok (.putfield 30, 3) := by decide +kernel
theorem dX1_cut_13 : decode cX1_cut 13 = .ok (.iconst 0, 1) := by decide +kernel
theorem dX1_cut_14 : decode cX1_cut 14 = .ok (.istore_n 1, 1) := by decide +kernel
theorem dX1_cut_15 : decode cX1_cut 15 = .ok (.iload_n 1, 1) := by decide +kernel
theorem dX1_cut_16 : decode cX1_cut 16 = .ok (.aload_n 0, 1) := by decide +kernel
theorem dX1_cut_17 : decode cX1_cut 17 = .ok (.getfield 41, 3) := by decide +kernel
theorem dX1_cut_20 : decode cX1_cut 20 = .ok (.if_icmp .ge 21, 3) := by decide +kernel
theorem dX1_cut_23 : decode cX1_cut 23 = .ok (.aload_n 0, 1) := by decide +kernel
theorem dX1_cut_24 : decode cX1_cut 24 = .ok (.getfield 13, 3) := by decide +kernel
theorem dX1_cut_27 : decode cX1_cut 27 = .ok (.iload_n 1, 1) := by decide +kernel
theorem dX1_cut_28 : decode cX1_cut 28 = .ok (.aload_n 0, 1) := by decide +kernel
theorem dX1_cut_29 : decode cX1_cut 29 = .ok (.getfield 9, 3) := by decide +kernel
theorem dX1_cut_32 : decode cX1_cut 32 = .ok (.iload_n 1, 1) := by decide +kernel
theorem dX1_cut_33 : decode cX1_cut 33 = .ok (.baload, 1) := by decide +kernel
theorem dX1_cut_34 : decode cX1_cut 34 = .ok (.bastore, 1) := by decide +kernel
theorem dX1_cut_35 : decode cX1_cut 35 = .ok (.iinc 1 1, 3) := by decide +kernel
theorem dX1_cut_38 : decode cX1_cut 38 = .ok (.goto (-23), 3) := by decide +kernel
theorem dX1_cut_41 : decode cX1_cut 41 = .ok (.aload_n 0, 1) := by decide +kernel
theorem dX1_cut_42 : decode cX1_cut 42 = .ok (.iconst 0, 1) := by decide +kernel
theorem dX1_cut_43 : decode cX1_cut 43 = .ok (.putfield 58, 3) := by decide +kernel
theorem dX1_cut_46 : decode cX1_cut 46 = .ok (.aload_n 0, 1) := by decide +kernel
theorem dX1_cut_47 : decode cX1_cut 47 = .ok (.iconst (-1), 1) := by decide +kernel
theorem dX1_cut_48 : decode cX1_cut 48 = .ok (.putfield 26, 3) := by decide +kernel
theorem dX1_cut_51 : decode cX1_cut 51 = .ok (.aload_n 0, 1) := by decide +kernel
theorem dX1_cut_52 : decode cX1_cut 52 = .ok (.iconst 0, 1) := by decide +kernel
theorem dX1_cut_53 : decode cX1_cut 53 = .ok (.invokevirtual 61, 3) := by decide +kernel
theorem dX1_cut_56 : decode cX1_cut 56 = .ok (.istore_n 1, 1) := by decide +kernel
theorem dX1_cut_57 : decode cX1_cut 57 = .ok (.aload_n 0, 1) := by decide +kernel
theorem dX1_cut_58 : decode cX1_cut 58 = .ok (.getfield 26, 3) := by decide +kernel
theorem dX1_cut_61 : decode cX1_cut 61 = .ok (.ifCond .ge 93, 3) := by decide +kernel
theorem dX1_cut_64 : decode cX1_cut 64 = .ok (.iload_n 1, 1) := by decide +kernel
theorem dX1_cut_65 : decode cX1_cut 65 = .ok (.aload_n 0, 1) := by decide +kernel
theorem dX1_cut_66 : decode cX1_cut 66 = .ok (.getfield 41, 3) := by decide +kernel
theorem dX1_cut_69 : decode cX1_cut 69 = .ok (.if_icmp .ge 85, 3) := by decide +kernel
theorem dX1_cut_72 : decode cX1_cut 72 = .ok (.aload_n 0, 1) := by decide +kernel
theorem dX1_cut_73 : decode cX1_cut 73 = .ok (.iload_n 1, 1) := by decide +kernel
theorem dX1_cut_74 : decode cX1_cut 74 = .ok (.invokevirtual 64, 3) := by decide +kernel
theorem dX1_cut_77 : decode cX1_cut 77 = .ok (.istore_n 2, 1) := by decide +kernel
theorem dX1_cut_78 : decode cX1_cut 78 = .ok (.iload_n 2, 1) := by decide +kernel
theorem dX1_cut_79 : decode cX1_cut 79 = .ok (.ifCond .ne 7, 3) := by decide +kernel
theorem dX1_cut_82 : decode cX1_cut 82 = .ok (.iconst (-1), 1) := by decide +kernel
theorem dX1_cut_83 : decode cX1_cut 83 = .ok (.goto 9, 3) := by decide +kernel
theorem dX1_cut_86 : decode cX1_cut 86 = .ok (.aload_n 0, 1) := by decide +kernel
theorem dX1_cut_87 : decode cX1_cut 87 = .ok (.iload_n 2, 1) := by decide +kernel
theorem dX1_cut_88 : decode cX1_cut 88 = .ok (.iload_n 1, 1) := by decide +kernel
theorem dX1_cut_89 : decode cX1_cut 89 = .ok (.invokevirtual 67, 3) := by decide +kernel
theorem dX1_cut_92 : decode cX1_cut 92 = .ok (.istore_n 3, 1) := by decide +kernel
theorem dX1_cut_93 : decode cX1_cut 93 = .ok (.iload_n 3, 1) := by decide +kernel
theorem dX1_cut_94 : decode cX1_cut 94 = .ok (.ifCond .ge 11, 3) := by decide +kernel
theorem dX1_cut_97 : decode cX1_cut 97 = .ok (.aload_n 0, 1) := by decide +kernel
theorem dX1_cut_98 : decode cX1_cut 98 = .ok (.iload_n 1, 1) := by decide +kernel
theorem dX1_cut_99 : decode cX1_cut 99 = .ok (.putfield 26, 3) := by decide +kernel
theorem dX1_cut_102 : decode cX1_cut 102 = .ok (.goto 49, 3) := by decide +kernel
theorem dX1_cut_105 : decode cX1_cut 105 = .ok (.aload_n 0, 1) := by decide +kernel
theorem dX1_cut_106 : decode cX1_cut 106 = .ok (.getfield 16, 3) := by decide +kernel
theorem dX1_cut_109 : decode cX1_cut 109 = .ok (.aload_n 0, 1) := by decide +kernel
theorem dX1_cut_110 : decode cX1_cut 110 = .ok (.getfield 58, 3) := by decide +kernel
theorem dX1_cut_113 : decode cX1_cut 113 = .ok (.iload_n 2, 1) := by decide +kernel
theorem dX1_cut_114 : decode cX1_cut 114 = .ok (.iastore, 1) := by decide +kernel
theorem dX1_cut_115 : decode cX1_cut 115 = .ok (.aload_n 0, 1) := by decide +kernel
theorem dX1_cut_116 : decode cX1_cut 116 = .ok (.getfield 20, 3) := by decide +kernel
theorem dX1_cut_119 : decode cX1_cut 119 = .ok (.aload_n 0, 1) := by decide +kernel
theorem dX1_cut_120 : decode cX1_cut 120 = .ok (.getfield 58, 3) := by decide +kernel
theorem dX1_cut_123 : decode cX1_cut 123 = .ok (.iload_n 1, 1) := by decide +kernel
theorem dX1_cut_124 : decode cX1_cut 124 = .ok (.iastore, 1) := by decide +kernel
theorem dX1_cut_125 : decode cX1_cut 125 = .ok (.aload_n 0, 1) := by decide +kernel
theorem dX1_cut_126 : decode cX1_cut 126 = .ok (.getfield 23, 3) := by decide +kernel
theorem dX1_cut_129 : decode cX1_cut 129 = .ok (.aload_n 0, 1) := by decide +kernel
theorem dX1_cut_130 : decode cX1_cut 130 = .ok (.getfield 58, 3) := by decide +kernel
theorem dX1_cut_133 : decode cX1_cut 133 = .ok (.iload_n 3, 1) := by decide +kernel
theorem dX1_cut_134 : decode cX1_cut 134 = .ok (.iastore, 1) := by decide +kernel
theorem dX1_cut_135 : decode cX1_cut 135 = .ok (.aload_n 0, 1) := by decide +kernel
theorem dX1_cut_136 : decode cX1_cut 136 = .ok (.dup, 1) := by decide +kernel
theorem dX1_cut_137 : decode cX1_cut 137 = .ok (.getfield 58, 3) := by decide +kernel
theorem dX1_cut_140 : decode cX1_cut 140 = .ok (.iconst 1, 1) := by decide +kernel
theorem dX1_cut_141 : decode cX1_cut 141 = .ok (.iadd, 1) := by decide +kernel
theorem dX1_cut_142 : decode cX1_cut 142 = .ok (.putfield 58, 3) := by decide +kernel
theorem dX1_cut_145 : decode cX1_cut 145 = .ok (.aload_n 0, 1) := by decide +kernel
theorem dX1_cut_146 : decode cX1_cut 146 = .ok (.iload_n 3, 1) := by decide +kernel
theorem dX1_cut_147 : decode cX1_cut 147 = .ok (.invokevirtual 61, 3) := by decide +kernel
theorem dX1_cut_150 : decode cX1_cut 150 = .ok (.istore_n 1, 1) := by decide +kernel
theorem dX1_cut_151 : decode cX1_cut 151 = .ok (.goto (-94), 3) := by decide +kernel
theorem dX1_cut_154 : decode cX1_cut 154 = .ok (.aload_n 0, 1) := by decide +kernel
theorem dX1_cut_155 : decode cX1_cut 155 = .ok (.getfield 26, 3) := by decide +kernel
theorem dX1_cut_158 : decode cX1_cut 158 = .ok (.ifCond .ge 10, 3) := by decide +kernel
theorem dX1_cut_161 : decode cX1_cut 161 = .ok (.aload_n 0, 1) := by decide +kernel
theorem dX1_cut_162 : decode cX1_cut 162 = .ok (.getfield 58, 3) := by decide +kernel
theorem dX1_cut_165 : decode cX1_cut 165 = .ok (.goto 4, 3) := by decide +kernel
theorem dX1_cut_168 : decode cX1_cut 168 = .ok (.iconst (-1), 1) := by decide +kernel
theorem dX1_cut_169 : decode cX1_cut 169 = .ok (.ireturn, 1) := by decide +kernel
set_option maxRecDepth 20000 in
theorem ggX1_kindAt_X1_look : GoodIn wsX1_kindAt wsX1_look := goodIn_r _ [5, 6, 7, 71, 72, 73, 74, 75, 76, 77, 78, 79, 80] (by decide +kernel) (by decide +kernel)
set_option maxRecDepth 20000 in
theorem gX1_kindAt_X1_look : GoodIn wsX1_kindAt (wsV RX1 51 RX1 yX1_look wsX1_look) := goodIn_app (goodIn_of _ (by decide +kernel)) ggX1_kindAt_X1_look
set_option maxRecDepth 20000 in
theorem ggX1_kindAt_X1_isDigit : GoodIn wsX1_kindAt wsX1_isDigit := goodIn_r _ [10] (by decide +kernel) (by decide +kernel)
set_option maxRecDepth 20000 in
theorem gX1_kindAt_X1_isDigit : GoodIn wsX1_kindAt (va_wsS RX1 44 yX1_isDigit wsX1_isDigit) := goodIn_app (goodIn_of _ (by decide +kernel)) ggX1_kindAt_X1_isDigit
set_option maxRecDepth 20000 in
theorem ggX1_kindAt_X1_isInName : GoodIn wsX1_kindAt wsX1_isInName := goodIn_r _ [13, 8, 9, 4, 10] (by decide +kernel) (by decide +kernel)
set_option maxRecDepth 20000 in
theorem gX1_kindAt_X1_isInName : GoodIn wsX1_kindAt (va_wsS RX1 71 yX1_isInName wsX1_isInName) := goodIn_app (goodIn_of _ (by decide +kernel)) ggX1_kindAt_X1_isInName
set_option maxRecDepth 20000 in
theorem ggX1_kindAt_X1_signEnd : GoodIn wsX1_kindAt wsX1_signEnd := goodIn_r _ [17, 18, 19, 20, 21, 22, 23, 24, 25, 26, 27, 28, 29, 30, 31, 32, 33, 34, 35, 36, 37, 38, 39, 40, 41, 42, 43, 44, 45, 46, 47, 48, 49, 50, 51, 52, 53, 54, 55, 56, 57, 58, 59, 60, 61, 62, 63, 64, 65, 66, 67, 68, 69, 4, 70, 1, 2, 3, 5, 6, 7, 71, 72, 73, 74, 75, 76, 77, 78, 79, 80] (by decide +kernel) (by decide +kernel)
set_option maxRecDepth 20000 in
theorem gX1_kindAt_X1_signEnd : GoodIn wsX1_kindAt (wsV RX1 74 RX1 yX1_signEnd wsX1_signEnd) := goodIn_app (goodIn_of _ (by decide +kernel)) ggX1_kindAt_X1_signEnd
theorem dX1_kindAt_0 : decode cX1_kindAt 0 = .ok (.aload_n 0, 1) := by decide +kernel
theorem dX1_kindAt_1 : decode cX1_kindAt 1 = .ok (.iload_n 1, 1) := by decide +kernel
theorem dX1_kindAt_2 : decode cX1_kindAt 2 = .ok (.invokevirtual 51, 3) := by decide +kernel
theorem dX1_kindAt_5 : decode cX1_kindAt 5 = .ok (.istore_n 2, 1) := by decide +kernel
theorem dX1_kindAt_6 : decode cX1_kindAt 6 = .ok (.iload_n 2, 1) := by decide +kernel
theorem dX1_kindAt_7 : decode cX1_kindAt 7 = .ok (.invokestatic 44, 3) := by decide +kernel
theorem dX1_kindAt_10 : decode cX1_kindAt 10 = .ok (.ifCond .ne 9, 3) := by decide +kernel
theorem dX1_kindAt_13 : decode cX1_kindAt 13 = .ok (.iload_n 2, 1) := by decide +kernel
theorem dX1_kindAt_14 : decode cX1_kindAt 14 = .ok (.bipush 39, 2) := by decide +kernel
theorem dX1_kindAt_16 : decode cX1_kindAt 16 = .ok (.if_icmp .ne 5, 3) := by decide +kernel
theorem dX1_kindAt_19 : decode cX1_kindAt 19 = .ok (.iconst 2, 1) := by decide +kernel
theorem dX1_kindAt_20 : decode cX1_kindAt 20 = .ok (.ireturn, 1) := by decide +kernel
theorem dX1_kindAt_21 : decode cX1_kindAt 21 = .ok (.iload_n 2, 1) := by decide +kernel
theorem dX1_kindAt_22 : decode cX1_kindAt 22 = .ok (.invokestatic 71, 3) := by decide +kernel
theorem dX1_kindAt_25 : decode cX1_kindAt 25 = .ok (.ifCond .eq 5, 3) := by decide +kernel
theorem dX1_kindAt_28 : decode cX1_kindAt 28 = .ok (.iconst 1, 1) := by decide +kernel
theorem dX1_kindAt_29 : decode cX1_kindAt 29 = .ok (.ireturn, 1) := by decide +kernel
theorem dX1_kindAt_30 : decode cX1_kindAt 30 = .ok (.iload_n 2, 1) := by decide +kernel
theorem dX1_kindAt_31 : decode cX1_kindAt 31 = .ok (.bipush 34, 2) := by decide +kernel
theorem dX1_kindAt_33 : decode cX1_kindAt 33 = .ok (.if_icmp .ne 5, 3) := by decide +kernel
theorem dX1_kindAt_36 : decode cX1_kindAt 36 = .ok (.iconst 3, 1) := by decide +kernel
theorem dX1_kindAt_37 : decode cX1_kindAt 37 = .ok (.ireturn, 1) := by decide +kernel
theorem dX1_kindAt_38 : decode cX1_kindAt 38 = .ok (.aload_n 0, 1) := by decide +kernel
theorem dX1_kindAt_39 : decode cX1_kindAt 39 = .ok (.iload_n 1, 1) := by decide +kernel
theorem dX1_kindAt_40 : decode cX1_kindAt 40 = .ok (.invokevirtual 74, 3) := by decide +kernel
theorem dX1_kindAt_43 : decode cX1_kindAt 43 = .ok (.ifCond .le 7, 3) := by decide +kernel
theorem dX1_kindAt_46 : decode cX1_kindAt 46 = .ok (.iconst 5, 1) := by decide +kernel
theorem dX1_kindAt_47 : decode cX1_kindAt 47 = .ok (.goto 4, 3) := by decide +kernel
theorem dX1_kindAt_50 : decode cX1_kindAt 50 = .ok (.iconst 0, 1) := by decide +kernel
theorem dX1_kindAt_51 : decode cX1_kindAt 51 = .ok (.ireturn, 1) := by decide +kernel
set_option maxRecDepth 20000 in
theorem ggX1_endOf_X1_signEnd : GoodIn wsX1_endOf wsX1_signEnd := goodIn_r _ [5, 6, 7, 8, 9, 10, 11, 12, 13, 14, 15, 16, 17, 18, 19, 20, 21, 22, 23, 24, 25, 26, 27, 28, 29, 30, 31, 32, 33, 34, 35, 36, 37, 38, 39, 40, 41, 42, 43, 44, 45, 46, 47, 48, 49, 50, 51, 52, 53, 54, 55, 56, 57, 4, 58, 59, 60, 61, 62, 63, 64, 89, 90, 91, 92, 93, 94, 95, 96, 97, 98] (by decide +kernel) (by decide +kernel)
set_option maxRecDepth 20000 in
theorem gX1_endOf_X1_signEnd : GoodIn wsX1_endOf (wsV RX1 74 RX1 yX1_signEnd wsX1_signEnd) := goodIn_app (goodIn_of _ (by decide +kernel)) ggX1_endOf_X1_signEnd
set_option maxRecDepth 20000 in
theorem ggX1_endOf_X1_stringEnd : GoodIn wsX1_endOf wsX1_stringEnd := goodIn_r _ [68, 59, 60, 61, 4, 62, 63, 64, 69, 70, 71, 72, 89, 90, 91, 92, 93, 94, 95, 96, 97, 98] (by decide +kernel) (by decide +kernel)
set_option maxRecDepth 20000 in
theorem gX1_endOf_X1_stringEnd : GoodIn wsX1_endOf (wsV RX1 77 RX1 yX1_stringEnd wsX1_stringEnd) := goodIn_app (goodIn_of _ (by decide +kernel)) ggX1_endOf_X1_stringEnd
set_option maxRecDepth 20000 in
theorem ggX1_endOf_X1_look : GoodIn wsX1_endOf wsX1_look := goodIn_r _ [62, 63, 64, 89, 90, 91, 92, 93, 94, 95, 96, 97, 98] (by decide +kernel) (by decide +kernel)
set_option maxRecDepth 20000 in
theorem gX1_endOf_X1_look : GoodIn wsX1_endOf (wsV RX1 51 RX1 yX1_look wsX1_look) := goodIn_app (goodIn_of _ (by decide +kernel)) ggX1_endOf_X1_look
set_option maxRecDepth 20000 in
theorem ggX1_endOf_X1_isInName : GoodIn wsX1_endOf wsX1_isInName := goodIn_r _ [75, 76, 77, 4, 78] (by decide +kernel) (by decide +kernel)
set_option maxRecDepth 20000 in
theorem gX1_endOf_X1_isInName : GoodIn wsX1_endOf (va_wsS RX1 71 yX1_isInName wsX1_isInName) := goodIn_app (goodIn_of _ (by decide +kernel)) ggX1_endOf_X1_isInName
set_option maxRecDepth 20000 in
theorem ggX1_endOf_X1_behind : GoodIn wsX1_endOf wsX1_behind := goodIn_r _ [72, 59, 60, 61, 4, 62, 63, 64, 89, 90, 91, 92, 93, 94, 95, 96, 97, 98] (by decide +kernel) (by decide +kernel)
set_option maxRecDepth 20000 in
theorem gX1_endOf_X1_behind : GoodIn wsX1_endOf (wsV RX1 80 RX1 yX1_behind wsX1_behind) := goodIn_app (goodIn_of _ (by decide +kernel)) ggX1_endOf_X1_behind
set_option maxRecDepth 20000 in
theorem ggX1_endOf_X1_sixteen : GoodIn wsX1_endOf wsX1_sixteen := goodIn_r _ [81, 76, 77, 4, 78] (by decide +kernel) (by decide +kernel)
set_option maxRecDepth 20000 in
theorem gX1_endOf_X1_sixteen : GoodIn wsX1_endOf (va_wsS RX1 83 yX1_sixteen wsX1_sixteen) := goodIn_app (goodIn_of _ (by decide +kernel)) ggX1_endOf_X1_sixteen
set_option maxRecDepth 20000 in
theorem ggX1_endOf_X1_isDigit : GoodIn wsX1_endOf wsX1_isDigit := goodIn_r _ [78] (by decide +kernel) (by decide +kernel)
set_option maxRecDepth 20000 in
theorem gX1_endOf_X1_isDigit : GoodIn wsX1_endOf (va_wsS RX1 44 yX1_isDigit wsX1_isDigit) := goodIn_app (goodIn_of _ (by decide +kernel)) ggX1_endOf_X1_isDigit
set_option maxRecDepth 20000 in
theorem ggX1_endOf_X1_isInt : GoodIn wsX1_endOf wsX1_isInt := goodIn_r _ [85, 86, 87, 88, 59, 60, 61, 4, 62, 63, 64, 89, 90, 91, 92, 93, 94, 95, 96, 97, 98] (by decide +kernel) (by decide +kernel)
set_option maxRecDepth 20000 in
theorem gX1_endOf_X1_isInt : GoodIn wsX1_endOf (wsV RX1 86 RX1 yX1_isInt wsX1_isInt) := goodIn_app (goodIn_of _ (by decide +kernel)) ggX1_endOf_X1_isInt
theorem dX1_endOf_0 : decode cX1_endOf 0 = .ok (.iload_n 2, 1) := by decide +kernel
theorem dX1_endOf_1 : decode cX1_endOf 1 = .ok (.istore_n 3, 1) := by decide +kernel
theorem dX1_endOf_2 : decode cX1_endOf 2 = .ok (.iload_n 1, 1) := by decide +kernel
theorem dX1_endOf_3 : decode cX1_endOf 3 = .ok (.iconst 5, 1) := by decide +kernel
theorem dX1_endOf_4 : decode cX1_endOf 4 = .ok (.if_icmp .ne 9, 3) := by decide +kernel
theorem dX1_endOf_7 : decode cX1_endOf 7 = .ok (.aload_n 0, 1) := by decide +kernel
theorem dX1_endOf_8 : decode cX1_endOf 8 = .ok (.iload_n 2, 1) := by decide +kernel
theorem dX1_endOf_9 : decode cX1_endOf 9 = .ok (.invokevirtual 74, 3) := by decide +kernel
theorem dX1_endOf_12 : decode cX1_endOf 12 = .ok (.ireturn, 1) := by decide +kernel
theorem dX1_endOf_13 : decode cX1_endOf 13 = .ok (.iload_n 1, 1) := by decide +kernel
theorem dX1_endOf_14 : decode cX1_endOf 14 = .ok (.iconst 3, 1) := by decide +kernel
theorem dX1_endOf_15 : decode cX1_endOf 15 = .ok (.if_icmp .ne 9, 3) := by decide +kernel
theorem dX1_endOf_18 : decode cX1_endOf 18 = .ok (.aload_n 0, 1) := by decide +kernel
theorem dX1_endOf_19 : decode cX1_endOf 19 = .ok (.iload_n 2, 1) := by decide +kernel
theorem dX1_endOf_20 : decode cX1_endOf 20 = .ok (.invokevirtual 77, 3) := by decide +kernel
theorem dX1_endOf_23 : decode cX1_endOf 23 = .ok (.ireturn, 1) := by decide +kernel
theorem dX1_endOf_24 : decode cX1_endOf 24 = .ok (.iload_n 1, 1) := by decide +kernel
theorem dX1_endOf_25 : decode cX1_endOf 25 = .ok (.iconst 1, 1) := by decide +kernel
theorem dX1_endOf_26 : decode cX1_endOf 26 = .ok (.if_icmp .ne 34, 3) := by decide +kernel
theorem dX1_endOf_29 : decode cX1_endOf 29 = .ok (.aload_n 0, 1) := by decide +kernel
theorem dX1_endOf_30 : decode cX1_endOf 30 = .ok (.iload_n 3, 1) := by decide +kernel
theorem dX1_endOf_31 : decode cX1_endOf 31 = .ok (.invokevirtual 51, 3) := by decide +kernel
theorem dX1_endOf_34 : decode cX1_endOf 34 = .ok (.invokestatic 71, 3) := by decide +kernel
theorem dX1_endOf_37 : decode cX1_endOf 37 = .ok (.ifCond .eq 9, 3) := by decide +kernel
theorem dX1_endOf_40 : decode cX1_endOf 40 = .ok (.iinc 3 1, 3) := by decide +kernel
theorem dX1_endOf_43 : decode cX1_endOf 43 = .ok (.goto (-14), 3) := by decide +kernel
theorem dX1_endOf_46 : decode cX1_endOf 46 = .ok (.iload_n 3, 1) := by decide +kernel
theorem dX1_endOf_47 : decode cX1_endOf 47 = .ok (.iload_n 2, 1) := by decide +kernel
theorem dX1_endOf_48 : decode cX1_endOf 48 = .ok (.isub, 1) := by decide +kernel
theorem dX1_endOf_49 : decode cX1_endOf 49 = .ok (.bipush 24, 2) := by decide +kernel
theorem dX1_endOf_51 : decode cX1_endOf 51 = .ok (.if_icmp .gt 7, 3) := by decide +kernel
theorem dX1_endOf_54 : decode cX1_endOf 54 = .ok (.iload_n 3, 1) := by decide +kernel
theorem dX1_endOf_55 : decode cX1_endOf 55 = .ok (.goto 4, 3) := by decide +kernel
theorem dX1_endOf_58 : decode cX1_endOf 58 = .ok (.iconst (-1), 1) := by decide +kernel
theorem dX1_endOf_59 : decode cX1_endOf 59 = .ok (.ireturn, 1) := by decide +kernel
theorem dX1_endOf_60 : decode cX1_endOf 60 = .ok (.aload_n 0, 1) := by decide +kernel
theorem dX1_endOf_61 : decode cX1_endOf 61 = .ok (.iload_n 2, 1) := by decide +kernel
theorem dX1_endOf_62 : decode cX1_endOf 62 = .ok (.invokevirtual 51, 3) := by decide +kernel
theorem dX1_endOf_65 : decode cX1_endOf 65 = .ok (.bipush 39, 2) := by decide +kernel
theorem dX1_endOf_67 : decode cX1_endOf 67 = .ok (.if_icmp .ne 35, 3) := by decide +kernel
theorem dX1_endOf_70 : decode cX1_endOf 70 = .ok (.aload_n 0, 1) := by decide +kernel
theorem dX1_endOf_71 : decode cX1_endOf 71 = .ok (.iload_n 2, 1) := by decide +kernel
theorem dX1_endOf_72 : decode cX1_endOf 72 = .ok (.iconst 1, 1) := by decide +kernel
theorem dX1_endOf_73 : decode cX1_endOf 73 = .ok (.iadd, 1) := by decide +kernel
theorem dX1_endOf_74 : decode cX1_endOf 74 = .ok (.bipush 39, 2) := by decide +kernel
theorem dX1_endOf_76 : decode cX1_endOf 76 = .ok (.invokevirtual 80, 3) := by decide +kernel
theorem dX1_endOf_79 : decode cX1_endOf 79 = .ok (.istore_n 3, 1) := by decide +kernel
theorem dX1_endOf_80 : decode cX1_endOf 80 = .ok (.iload_n 3, 1) := by decide +kernel
theorem dX1_endOf_81 : decode cX1_endOf 81 = .ok (.ifCond .le 19, 3) := by decide +kernel
theorem dX1_endOf_84 : decode cX1_endOf 84 = .ok (.aload_n 0, 1) := by decide +kernel
theorem dX1_endOf_85 : decode cX1_endOf 85 = .ok (.iload_n 3, 1) := by decide +kernel
theorem dX1_endOf_86 : decode cX1_endOf 86 = .ok (.invokevirtual 51, 3) := by decide +kernel
theorem dX1_endOf_89 : decode cX1_endOf 89 = .ok (.bipush 39, 2) := by decide +kernel
theorem dX1_endOf_91 : decode cX1_endOf 91 = .ok (.if_icmp .ne 9, 3) := by decide +kernel
theorem dX1_endOf_94 : decode cX1_endOf 94 = .ok (.iload_n 3, 1) := by decide +kernel
theorem dX1_endOf_95 : decode cX1_endOf 95 = .ok (.iconst 1, 1) := by decide +kernel
theorem dX1_endOf_96 : decode cX1_endOf 96 = .ok (.iadd, 1) := by decide +kernel
theorem dX1_endOf_97 : decode cX1_endOf 97 = .ok (.goto 4, 3) := by decide +kernel
theorem dX1_endOf_100 : decode cX1_endOf 100 = .ok (.iconst (-1), 1) := by decide +kernel
theorem dX1_endOf_101 : decode cX1_endOf 101 = .ok (.ireturn, 1) := by decide +kernel
theorem dX1_endOf_102 : decode cX1_endOf 102 = .ok (.aload_n 0, 1) := by decide +kernel
theorem dX1_endOf_103 : decode cX1_endOf 103 = .ok (.iload_n 2, 1) := by decide +kernel
theorem dX1_endOf_104 : decode cX1_endOf 104 = .ok (.invokevirtual 51, 3) := by decide +kernel
theorem dX1_endOf_107 : decode cX1_endOf 107 = .ok (.bipush 48, 2) := by decide +kernel
theorem dX1_endOf_109 : decode cX1_endOf 109 = .ok (.if_icmp .ne 32, 3) := by decide +kernel
theorem dX1_endOf_112 : decode cX1_endOf 112 = .ok (.aload_n 0, 1) := by decide +kernel
theorem dX1_endOf_113 : decode cX1_endOf 113 = .ok (.iload_n 2, 1) := by decide +kernel
theorem dX1_endOf_114 : decode cX1_endOf 114 = .ok (.iconst 1, 1) := by decide +kernel
theorem dX1_endOf_115 : decode cX1_endOf 115 = .ok (.iadd, 1) := by decide +kernel
theorem dX1_endOf_116 : decode cX1_endOf 116 = .ok (.invokevirtual 51, 3) := by decide +kernel
theorem dX1_endOf_119 : decode cX1_endOf 119 = .ok (.bipush 120, 2) := by decide +kernel
theorem dX1_endOf_121 : decode cX1_endOf 121 = .ok (.if_icmp .ne 20, 3) := by decide +kernel
theorem dX1_endOf_124 : decode cX1_endOf 124 = .ok (.aload_n 0, 1) := by decide +kernel
theorem dX1_endOf_125 : decode cX1_endOf 125 = .ok (.iload_n 2, 1) := by decide +kernel
theorem dX1_endOf_126 : decode cX1_endOf 126 = .ok (.iconst 2, 1) := by decide +kernel
theorem dX1_endOf_127 : decode cX1_endOf 127 = .ok (.iadd, 1) := by decide +kernel
theorem dX1_endOf_128 : decode cX1_endOf 128 = .ok (.invokevirtual 51, 3) := by decide +kernel
theorem dX1_endOf_131 : decode cX1_endOf 131 = .ok (.invokestatic 83, 3) := by decide +kernel
theorem dX1_endOf_134 : decode cX1_endOf 134 = .ok (.ifCond .lt 7, 3) := by decide +kernel
theorem dX1_endOf_137 : decode cX1_endOf 137 = .ok (.iconst 1, 1) := by decide +kernel
theorem dX1_endOf_138 : decode cX1_endOf 138 = .ok (.goto 4, 3) := by decide +kernel
theorem dX1_endOf_141 : decode cX1_endOf 141 = .ok (.iconst 0, 1) := by decide +kernel
theorem dX1_endOf_142 : decode cX1_endOf 142 = .ok (.istore 4, 2) := by decide +kernel
theorem dX1_endOf_144 : decode cX1_endOf 144 = .ok (.iload 4, 2) := by decide +kernel
theorem dX1_endOf_146 : decode cX1_endOf 146 = .ok (.ifCond .eq 38, 3) := by decide +kernel
theorem dX1_endOf_149 : decode cX1_endOf 149 = .ok (.iload_n 2, 1) := by decide +kernel
theorem dX1_endOf_150 : decode cX1_endOf 150 = .ok (.iconst 2, 1) := by decide +kernel
theorem dX1_endOf_151 : decode cX1_endOf 151 = .ok (.iadd, 1) := by decide +kernel
theorem dX1_endOf_152 : decode cX1_endOf 152 = .ok (.istore_n 3, 1) := by decide +kernel
theorem dX1_endOf_153 : decode cX1_endOf 153 = .ok (.aload_n 0, 1) := by decide +kernel
theorem dX1_endOf_154 : decode cX1_endOf 154 = .ok (.iload_n 3, 1) := by decide +kernel
theorem dX1_endOf_155 : decode cX1_endOf 155 = .ok (.invokevirtual 51, 3) := by decide +kernel
theorem dX1_endOf_158 : decode cX1_endOf 158 = .ok (.invokestatic 83, 3) := by decide +kernel
theorem dX1_endOf_161 : decode cX1_endOf 161 = .ok (.ifCond .lt 9, 3) := by decide +kernel
theorem dX1_endOf_164 : decode cX1_endOf 164 = .ok (.iinc 3 1, 3) := by decide +kernel
theorem dX1_endOf_167 : decode cX1_endOf 167 = .ok (.goto (-14), 3) := by decide +kernel
theorem dX1_endOf_170 : decode cX1_endOf 170 = .ok (.iload_n 3, 1) := by decide +kernel
theorem dX1_endOf_171 : decode cX1_endOf 171 = .ok (.iload_n 2, 1) := by decide +kernel
theorem dX1_endOf_172 : decode cX1_endOf 172 = .ok (.isub, 1) := by decide +kernel
theorem dX1_endOf_173 : decode cX1_endOf 173 = .ok (.bipush 10, 2) := by decide +kernel
theorem dX1_endOf_175 : decode cX1_endOf 175 = .ok (.if_icmp .gt 7, 3) := by decide +kernel
theorem dX1_endOf_178 : decode cX1_endOf 178 = .ok (.iload_n 3, 1) := by decide +kernel
theorem dX1_endOf_179 : decode cX1_endOf 179 = .ok (.goto 4, 3) := by decide +kernel
theorem dX1_endOf_182 : decode cX1_endOf 182 = .ok (.iconst (-1), 1) := by decide +kernel
theorem dX1_endOf_183 : decode cX1_endOf 183 = .ok (.ireturn, 1) := by decide +kernel
theorem dX1_endOf_184 : decode cX1_endOf 184 = .ok (.aload_n 0, 1) := by decide +kernel
theorem dX1_endOf_185 : decode cX1_endOf 185 = .ok (.iload_n 3, 1) := by decide +kernel
theorem dX1_endOf_186 : decode cX1_endOf 186 = .ok (.invokevirtual 51, 3) := by decide +kernel
theorem dX1_endOf_189 : decode cX1_endOf 189 = .ok (.invokestatic 44, 3) := by decide +kernel
theorem dX1_endOf_192 : decode cX1_endOf 192 = .ok (.ifCond .eq 9, 3) := by decide +kernel
theorem dX1_endOf_195 : decode cX1_endOf 195 = .ok (.iinc 3 1, 3) := by decide +kernel
theorem dX1_endOf_198 : decode cX1_endOf 198 = .ok (.goto (-14), 3) := by decide +kernel
theorem dX1_endOf_201 : decode cX1_endOf 201 = .ok (.aload_n 0, 1) := by decide +kernel
theorem dX1_endOf_202 : decode cX1_endOf 202 = .ok (.iload_n 2, 1) := by decide +kernel
theorem dX1_endOf_203 : decode cX1_endOf 203 = .ok (.iload_n 3, 1) := by decide +kernel
theorem dX1_endOf_204 : decode cX1_endOf 204 = .ok (.invokevirtual 86, 3) := by decide +kernel
theorem dX1_endOf_207 : decode cX1_endOf 207 = .ok (.ifCond .eq 7, 3) := by decide +kernel
theorem dX1_endOf_210 : decode cX1_endOf 210 = .ok (.iload_n 3, 1) := by decide +kernel
theorem dX1_endOf_211 : decode cX1_endOf 211 = .ok (.goto 4, 3) := by decide +kernel
theorem dX1_endOf_214 : decode cX1_endOf 214 = .ok (.iconst (-1), 1) := by decide +kernel
theorem dX1_endOf_215 : decode cX1_endOf 215 = .ok (.ireturn, 1) := by decide +kernel
set_option maxRecDepth 20000 in
theorem ggX1_isInt_X1_look : GoodIn wsX1_isInt wsX1_look := goodIn_r _ [8, 9, 10, 11, 12, 13, 14, 15, 16, 17, 18, 19, 20] (by decide +kernel) (by decide +kernel)
set_option maxRecDepth 20000 in
theorem gX1_isInt_X1_look : GoodIn wsX1_isInt (wsV RX1 51 RX1 yX1_look wsX1_look) := goodIn_app (goodIn_of _ (by decide +kernel)) ggX1_isInt_X1_look
theorem dX1_isInt_0 : decode cX1_isInt 0 = .ok (.iload_n 1, 1) := by decide +kernel
theorem dX1_isInt_1 : decode cX1_isInt 1 = .ok (.istore_n 3, 1) := by decide +kernel
theorem dX1_isInt_2 : decode cX1_isInt 2 = .ok (.iload_n 3, 1) := by decide +kernel
theorem dX1_isInt_3 : decode cX1_isInt 3 = .ok (.iload_n 2, 1) := by decide +kernel
theorem dX1_isInt_4 : decode cX1_isInt 4 = .ok (.if_icmp .ge 19, 3) := by decide +kernel
theorem dX1_isInt_7 : decode cX1_isInt 7 = .ok (.aload_n 0, 1) := by decide +kernel
theorem dX1_isInt_8 : decode cX1_isInt 8 = .ok (.iload_n 3, 1) := by decide +kernel
theorem dX1_isInt_9 : decode cX1_isInt 9 = .ok (.invokevirtual 51, 3) := by decide +kernel
theorem dX1_isInt_12 : decode cX1_isInt 12 = .ok (.bipush 48, 2) := by decide +kernel
theorem dX1_isInt_14 : decode cX1_isInt 14 = .ok (.if_icmp .ne 9, 3) := by decide +kernel
theorem dX1_isInt_17 : decode cX1_isInt 17 = .ok (.iinc 3 1, 3) := by decide +kernel
theorem dX1_isInt_20 : decode cX1_isInt 20 = .ok (.goto (-18), 3) := by decide +kernel
theorem dX1_isInt_23 : decode cX1_isInt 23 = .ok (.iload_n 2, 1) := by decide +kernel
theorem dX1_isInt_24 : decode cX1_isInt 24 = .ok (.iload_n 3, 1) := by decide +kernel
theorem dX1_isInt_25 : decode cX1_isInt 25 = .ok (.isub, 1) := by decide +kernel
theorem dX1_isInt_26 : decode cX1_isInt 26 = .ok (.bipush 10, 2) := by decide +kernel
theorem dX1_isInt_28 : decode cX1_isInt 28 = .ok (.if_icmp .eq 17, 3) := by decide +kernel
theorem dX1_isInt_31 : decode cX1_isInt 31 = .ok (.iload_n 2, 1) := by decide +kernel
theorem dX1_isInt_32 : decode cX1_isInt 32 = .ok (.iload_n 3, 1) := by decide +kernel
theorem dX1_isInt_33 : decode cX1_isInt 33 = .ok (.isub, 1) := by decide +kernel
theorem dX1_isInt_34 : decode cX1_isInt 34 = .ok (.bipush 10, 2) := by decide +kernel
theorem dX1_isInt_36 : decode cX1_isInt 36 = .ok (.if_icmp .ge 7, 3) := by decide +kernel
theorem dX1_isInt_39 : decode cX1_isInt 39 = .ok (.iconst 1, 1) := by decide +kernel
theorem dX1_isInt_40 : decode cX1_isInt 40 = .ok (.goto 4, 3) := by decide +kernel
theorem dX1_isInt_43 : decode cX1_isInt 43 = .ok (.iconst 0, 1) := by decide +kernel
theorem dX1_isInt_44 : decode cX1_isInt 44 = .ok (.ireturn, 1) := by decide +kernel
theorem dX1_isInt_45 : decode cX1_isInt 45 = .ok (.lconst 0, 1) := by decide +kernel
theorem dX1_isInt_46 : decode cX1_isInt 46 = .ok (.lstore 4, 2) := by decide +kernel
theorem dX1_isInt_48 : decode cX1_isInt 48 = .ok (.iload_n 3, 1) := by decide +kernel
theorem dX1_isInt_49 : decode cX1_isInt 49 = .ok (.istore 6, 2) := by decide +kernel
theorem dX1_isInt_51 : decode cX1_isInt 51 = .ok (.iload 6, 2) := by decide +kernel
theorem dX1_isInt_53 : decode cX1_isInt 53 = .ok (.iload_n 2, 1) := by decide +kernel
theorem dX1_isInt_54 : decode cX1_isInt 54 = .ok (.if_icmp .ge 29, 3) := by decide +kernel
theorem dX1_isInt_57 : decode cX1_isInt 57 = .ok (.ldc2_w 90, 3) := by decide +kernel
theorem dX1_isInt_60 : decode cX1_isInt 60 = .ok (.lload 4, 2) := by decide +kernel
theorem dX1_isInt_62 : decode cX1_isInt 62 = .ok (.lmul, 1) := by decide +kernel
theorem dX1_isInt_63 : decode cX1_isInt 63 = .ok (.aload_n 0, 1) := by decide +kernel
theorem dX1_isInt_64 : decode cX1_isInt 64 = .ok (.iload 6, 2) := by decide +kernel
theorem dX1_isInt_66 : decode cX1_isInt 66 = .ok (.invokevirtual 51, 3) := by decide +kernel
theorem dX1_isInt_69 : decode cX1_isInt 69 = .ok (.i2l, 1) := by decide +kernel
theorem dX1_isInt_70 : decode cX1_isInt 70 = .ok (.ladd, 1) := by decide +kernel
theorem dX1_isInt_71 : decode cX1_isInt 71 = .ok (.ldc2_w 92, 3) := by decide +kernel
theorem dX1_isInt_74 : decode cX1_isInt 74 = .ok (.lsub, 1) := by decide +kernel
theorem dX1_isInt_75 : decode cX1_isInt 75 = .ok (.lstore 4, 2) := by decide +kernel
theorem dX1_isInt_77 : decode cX1_isInt 77 = .ok (.iinc 6 1, 3) := by decide +kernel
theorem dX1_isInt_80 : decode cX1_isInt 80 = .ok (.goto (-29), 3) := by decide +kernel
theorem dX1_isInt_83 : decode cX1_isInt 83 = .ok (.lload 4, 2) := by decide +kernel
theorem dX1_isInt_85 : decode cX1_isInt 85 = .ok (.ldc2_w 94, 3) := by decide +kernel
theorem dX1_isInt_88 : decode cX1_isInt 88 = .ok (.lcmp, 1) := by decide +kernel
theorem dX1_isInt_89 : decode cX1_isInt 89 = .ok (.ifCond .gt 7, 3) := by decide +kernel
theorem dX1_isInt_92 : decode cX1_isInt 92 = .ok (.iconst 1, 1) := by decide +kernel
theorem dX1_isInt_93 : decode cX1_isInt 93 = .ok (.goto 4, 3) := by decide +kernel
theorem dX1_isInt_96 : decode cX1_isInt 96 = .ok (.iconst 0, 1) := by decide +kernel
theorem dX1_isInt_97 : decode cX1_isInt 97 = .ok (.ireturn, 1) := by decide +kernel
set_option maxRecDepth 20000 in
theorem ggX1_behind_X1_look : GoodIn wsX1_behind wsX1_look := goodIn_r _ [5, 6, 7, 8, 9, 10, 11, 12, 13, 14, 15, 16, 17] (by decide +kernel) (by decide +kernel)
set_option maxRecDepth 20000 in
theorem gX1_behind_X1_look : GoodIn wsX1_behind (wsV RX1 51 RX1 yX1_look wsX1_look) := goodIn_app (goodIn_of _ (by decide +kernel)) ggX1_behind_X1_look
theorem dX1_behind_0 : decode cX1_behind 0 = .ok (.aload_n 0, 1) := by decide +kernel
theorem dX1_behind_1 : decode cX1_behind 1 = .ok (.iload_n 1, 1) := by decide +kernel
theorem dX1_behind_2 : decode cX1_behind 2 = .ok (.invokevirtual 51, 3) := by decide +kernel
theorem dX1_behind_5 : decode cX1_behind 5 = .ok (.istore_n 3, 1) := by decide +kernel
theorem dX1_behind_6 : decode cX1_behind 6 = .ok (.iload_n 3, 1) := by decide +kernel
theorem dX1_behind_7 : decode cX1_behind 7 = .ok (.bipush 92, 2) := by decide +kernel
theorem dX1_behind_9 : decode cX1_behind 9 = .ok (.if_icmp .ne 55, 3) := by decide +kernel
theorem dX1_behind_12 : decode cX1_behind 12 = .ok (.aload_n 0, 1) := by decide +kernel
theorem dX1_behind_13 : decode cX1_behind 13 = .ok (.iload_n 1, 1) := by decide +kernel
theorem dX1_behind_14 : decode cX1_behind 14 = .ok (.iconst 1, 1) := by decide +kernel
theorem dX1_behind_15 : decode cX1_behind 15 = .ok (.iadd, 1) := by decide +kernel
theorem dX1_behind_16 : decode cX1_behind 16 = .ok (.invokevirtual 51, 3) := by decide +kernel
theorem dX1_behind_19 : decode cX1_behind 19 = .ok (.istore 4, 2) := by decide +kernel
theorem dX1_behind_21 : decode cX1_behind 21 = .ok (.iload 4, 2) := by decide +kernel
theorem dX1_behind_23 : decode cX1_behind 23 = .ok (.bipush 110, 2) := by decide +kernel
theorem dX1_behind_25 : decode cX1_behind 25 = .ok (.if_icmp .eq 31, 3) := by decide +kernel
theorem dX1_behind_28 : decode cX1_behind 28 = .ok (.iload 4, 2) := by decide +kernel
theorem dX1_behind_30 : decode cX1_behind 30 = .ok (.bipush 48, 2) := by decide +kernel
theorem dX1_behind_32 : decode cX1_behind 32 = .ok (.if_icmp .eq 24, 3) := by decide +kernel
theorem dX1_behind_35 : decode cX1_behind 35 = .ok (.iload 4, 2) := by decide +kernel
theorem dX1_behind_37 : decode cX1_behind 37 = .ok (.bipush 92, 2) := by decide +kernel
theorem dX1_behind_39 : decode cX1_behind 39 = .ok (.if_icmp .eq 17, 3) := by decide +kernel
theorem dX1_behind_42 : decode cX1_behind 42 = .ok (.iload 4, 2) := by decide +kernel
theorem dX1_behind_44 : decode cX1_behind 44 = .ok (.bipush 39, 2) := by decide +kernel
theorem dX1_behind_46 : decode cX1_behind 46 = .ok (.if_icmp .eq 10, 3) := by decide +kernel
theorem dX1_behind_49 : decode cX1_behind 49 = .ok (.iload 4, 2) := by decide +kernel
theorem dX1_behind_51 : decode cX1_behind 51 = .ok (.bipush 34, 2) := by decide +kernel
theorem dX1_behind_53 : decode cX1_behind 53 = .ok (.if_icmp .ne 9, 3) := by decide +kernel
theorem dX1_behind_56 : decode cX1_behind 56 = .ok (.iload_n 1, 1) := by decide +kernel
theorem dX1_behind_57 : decode cX1_behind 57 = .ok (.iconst 2, 1) := by decide +kernel
theorem dX1_behind_58 : decode cX1_behind 58 = .ok (.iadd, 1) := by decide +kernel
theorem dX1_behind_59 : decode cX1_behind 59 = .ok (.goto 4, 3) := by decide +kernel
theorem dX1_behind_62 : decode cX1_behind 62 = .ok (.iconst (-1), 1) := by decide +kernel
theorem dX1_behind_63 : decode cX1_behind 63 = .ok (.ireturn, 1) := by decide +kernel
theorem dX1_behind_64 : decode cX1_behind 64 = .ok (.iload_n 3, 1) := by decide +kernel
theorem dX1_behind_65 : decode cX1_behind 65 = .ok (.bipush 32, 2) := by decide +kernel
theorem dX1_behind_67 : decode cX1_behind 67 = .ok (.if_icmp .lt 20, 3) := by decide +kernel
theorem dX1_behind_70 : decode cX1_behind 70 = .ok (.iload_n 3, 1) := by decide +kernel
theorem dX1_behind_71 : decode cX1_behind 71 = .ok (.bipush 126, 2) := by decide +kernel
theorem dX1_behind_73 : decode cX1_behind 73 = .ok (.if_icmp .gt 14, 3) := by decide +kernel
theorem dX1_behind_76 : decode cX1_behind 76 = .ok (.iload_n 3, 1) := by decide +kernel
theorem dX1_behind_77 : decode cX1_behind 77 = .ok (.iload_n 2, 1) := by decide +kernel
theorem dX1_behind_78 : decode cX1_behind 78 = .ok (.if_icmp .eq 9, 3) := by decide +kernel
theorem dX1_behind_81 : decode cX1_behind 81 = .ok (.iload_n 1, 1) := by decide +kernel
theorem dX1_behind_82 : decode cX1_behind 82 = .ok (.iconst 1, 1) := by decide +kernel
theorem dX1_behind_83 : decode cX1_behind 83 = .ok (.iadd, 1) := by decide +kernel
theorem dX1_behind_84 : decode cX1_behind 84 = .ok (.goto 4, 3) := by decide +kernel
theorem dX1_behind_87 : decode cX1_behind 87 = .ok (.iconst (-1), 1) := by decide +kernel
theorem dX1_behind_88 : decode cX1_behind 88 = .ok (.ireturn, 1) := by decide +kernel
set_option maxRecDepth 20000 in
theorem ggX1_stringEnd_X1_look : GoodIn wsX1_stringEnd wsX1_look := goodIn_r _ [5, 6, 7, 12, 13, 14, 15, 16, 17, 18, 19, 20, 21] (by decide +kernel) (by decide +kernel)
set_option maxRecDepth 20000 in
theorem gX1_stringEnd_X1_look : GoodIn wsX1_stringEnd (wsV RX1 51 RX1 yX1_look wsX1_look) := goodIn_app (goodIn_of _ (by decide +kernel)) ggX1_stringEnd_X1_look
set_option maxRecDepth 20000 in
theorem ggX1_stringEnd_X1_behind : GoodIn wsX1_stringEnd wsX1_behind := goodIn_r _ [11, 1, 2, 3, 4, 5, 6, 7, 12, 13, 14, 15, 16, 17, 18, 19, 20, 21] (by decide +kernel) (by decide +kernel)
set_option maxRecDepth 20000 in
theorem gX1_stringEnd_X1_behind : GoodIn wsX1_stringEnd (wsV RX1 80 RX1 yX1_behind wsX1_behind) := goodIn_app (goodIn_of _ (by decide +kernel)) ggX1_stringEnd_X1_behind
theorem dX1_stringEnd_0 : decode cX1_stringEnd 0 = .ok (.iload_n 1, 1) := by decide +kernel
theorem dX1_stringEnd_1 : decode cX1_stringEnd 1 = .ok (.iconst 1, 1) := by decide +kernel
theorem dX1_stringEnd_2 : decode cX1_stringEnd 2 = .ok (.iadd, 1) := by decide +kernel
theorem dX1_stringEnd_3 : decode cX1_stringEnd 3 = .ok (.istore_n 2, 1) := by decide +kernel
theorem dX1_stringEnd_4 : decode cX1_stringEnd 4 = .ok (.iconst 0, 1) := by decide +kernel
theorem dX1_stringEnd_5 : decode cX1_stringEnd 5 = .ok (.istore_n 3, 1) := by decide +kernel
theorem dX1_stringEnd_6 : decode cX1_stringEnd 6 = .ok (.iload_n 2, 1) := by decide +kernel
theorem dX1_stringEnd_7 : decode cX1_stringEnd 7 = .ok (.ifCond .le 38, 3) := by decide +kernel
theorem dX1_stringEnd_10 : decode cX1_stringEnd 10 = .ok (.aload_n 0, 1) := by decide +kernel
theorem dX1_stringEnd_11 : decode cX1_stringEnd 11 = .ok (.iload_n 2, 1) := by decide +kernel
theorem dX1_stringEnd_12 : decode cX1_stringEnd 12 = .ok (.invokevirtual 51, 3) := by decide +kernel
theorem dX1_stringEnd_15 : decode cX1_stringEnd 15 = .ok (.bipush 34, 2) := by decide +kernel
theorem dX1_stringEnd_17 : decode cX1_stringEnd 17 = .ok (.if_icmp .eq 28, 3) := by decide +kernel
theorem dX1_stringEnd_20 : decode cX1_stringEnd 20 = .ok (.iload_n 3, 1) := by decide +kernel
theorem dX1_stringEnd_21 : decode cX1_stringEnd 21 = .ok (.sipush 200, 3) := by decide +kernel
theorem dX1_stringEnd_24 : decode cX1_stringEnd 24 = .ok (.if_icmp .ne 7, 3) := by decide +kernel
theorem dX1_stringEnd_27 : decode cX1_stringEnd 27 = .ok (.iconst (-1), 1) := by decide +kernel
theorem dX1_stringEnd_28 : decode cX1_stringEnd 28 = .ok (.goto 10, 3) := by decide +kernel
theorem dX1_stringEnd_31 : decode cX1_stringEnd 31 = .ok (.aload_n 0, 1) := by decide +kernel
theorem dX1_stringEnd_32 : decode cX1_stringEnd 32 = .ok (.iload_n 2, 1) := by decide +kernel
theorem dX1_stringEnd_33 : decode cX1_stringEnd 33 = .ok (.bipush 34, 2) := by decide +kernel
theorem dX1_stringEnd_35 : decode cX1_stringEnd 35 = .ok (.invokevirtual 80, 3) := by decide +kernel
theorem dX1_stringEnd_38 : decode cX1_stringEnd 38 = .ok (.istore_n 2, 1) := by decide +kernel
theorem dX1_stringEnd_39 : decode cX1_stringEnd 39 = .ok (.iinc 3 1, 3) := by decide +kernel
theorem dX1_stringEnd_42 : decode cX1_stringEnd 42 = .ok (.goto (-36), 3) := by decide +kernel
theorem dX1_stringEnd_45 : decode cX1_stringEnd 45 = .ok (.iload_n 2, 1) := by decide +kernel
theorem dX1_stringEnd_46 : decode cX1_stringEnd 46 = .ok (.ifCond .le 9, 3) := by decide +kernel
theorem dX1_stringEnd_49 : decode cX1_stringEnd 49 = .ok (.iload_n 2, 1) := by decide +kernel
theorem dX1_stringEnd_50 : decode cX1_stringEnd 50 = .ok (.iconst 1, 1) := by decide +kernel
theorem dX1_stringEnd_51 : decode cX1_stringEnd 51 = .ok (.iadd, 1) := by decide +kernel
theorem dX1_stringEnd_52 : decode cX1_stringEnd 52 = .ok (.goto 4, 3) := by decide +kernel
theorem dX1_stringEnd_55 : decode cX1_stringEnd 55 = .ok (.iconst (-1), 1) := by decide +kernel
theorem dX1_stringEnd_56 : decode cX1_stringEnd 56 = .ok (.ireturn, 1) := by decide +kernel
set_option maxRecDepth 20000 in
theorem ggX1_isAt_X1_look : GoodIn wsX1_isAt wsX1_look := goodIn_r _ [5, 6, 7, 49, 50, 51, 52, 53, 54, 55, 56, 57, 58] (by decide +kernel) (by decide +kernel)
set_option maxRecDepth 20000 in
theorem gX1_isAt_X1_look : GoodIn wsX1_isAt (wsV RX1 51 RX1 yX1_look wsX1_look) := goodIn_app (goodIn_of _ (by decide +kernel)) ggX1_isAt_X1_look
set_option maxRecDepth 20000 in
theorem ggX1_isAt_J0_charAt_5068e : GoodIn wsX1_isAt wsJ0_charAt_5068e := goodIn_r _ [12, 13, 14, 15, 16, 11, 17, 18, 19, 20, 21, 22, 23, 24, 25, 26, 27, 28, 29, 30, 31, 32, 33, 34, 35, 36, 37, 38, 39, 40, 41, 42, 43, 44, 45, 46, 47, 48] (by decide +kernel) (by decide +kernel)
set_option maxRecDepth 20000 in
theorem gX1_isAt_J0_charAt_5068e : GoodIn wsX1_isAt (wsV RX1 96 RJ0 yJ0_charAt_5068e wsJ0_charAt_5068e) := goodIn_app (goodIn_of _ (by decide +kernel)) ggX1_isAt_J0_charAt_5068e
theorem dX1_isAt_0 : decode cX1_isAt 0 = .ok (.iload_n 3, 1) := by decide +kernel
theorem dX1_isAt_1 : decode cX1_isAt 1 = .ok (.istore 5, 2) := by decide +kernel
theorem dX1_isAt_3 : decode cX1_isAt 3 = .ok (.iload 5, 2) := by decide +kernel
theorem dX1_isAt_5 : decode cX1_isAt 5 = .ok (.iload 4, 2) := by decide +kernel
theorem dX1_isAt_7 : decode cX1_isAt 7 = .ok (.if_icmp .ge 30, 3) := by decide +kernel
theorem dX1_isAt_10 : decode cX1_isAt 10 = .ok (.aload_n 0, 1) := by decide +kernel
theorem dX1_isAt_11 : decode cX1_isAt 11 = .ok (.iload_n 1, 1) := by decide +kernel
theorem dX1_isAt_12 : decode cX1_isAt 12 = .ok (.iload 5, 2) := by decide +kernel
theorem dX1_isAt_14 : decode cX1_isAt 14 = .ok (.iadd, 1) := by decide +kernel
theorem dX1_isAt_15 : decode cX1_isAt 15 = .ok (.iload_n 3, 1) := by decide +kernel
theorem dX1_isAt_16 : decode cX1_isAt 16 = .ok (.isub, 1) := by decide +kernel
theorem dX1_isAt_17 : decode cX1_isAt 17 = .ok (.invokevirtual 51, 3) := by decide +kernel
theorem dX1_isAt_20 : decode cX1_isAt 20 = .ok (.aload_n 2, 1) := by decide +kernel
theorem dX1_isAt_21 : decode cX1_isAt 21 = .ok (.iload 5, 2) := by decide +kernel
theorem dX1_isAt_23 : decode cX1_isAt 23 = .ok (.invokevirtual 96, 3) := by decide +kernel
theorem dX1_isAt_26 : decode cX1_isAt 26 = .ok (.if_icmp .eq 5, 3) := by decide +kernel
theorem dX1_isAt_29 : decode cX1_isAt 29 = .ok (.iconst 0, 1) := by decide +kernel
theorem dX1_isAt_30 : decode cX1_isAt 30 = .ok (.ireturn, 1) := by decide +kernel
theorem dX1_isAt_31 : decode cX1_isAt 31 = .ok (.iinc 5 1, 3) := by decide +kernel
theorem dX1_isAt_34 : decode cX1_isAt 34 = .ok (.goto (-31), 3) := by decide +kernel
theorem dX1_isAt_37 : decode cX1_isAt 37 = .ok (.iconst 1, 1) := by decide +kernel
theorem dX1_isAt_38 : decode cX1_isAt 38 = .ok (.ireturn, 1) := by decide +kernel
set_option maxRecDepth 20000 in
theorem ggX1_signEnd_J0_length_8abf5 : GoodIn wsX1_signEnd wsJ0_length_8abf5 := goodIn_r _ [5, 6, 7, 8, 9, 4, 10, 11, 12] (by decide +kernel) (by decide +kernel)
set_option maxRecDepth 20000 in
theorem gX1_signEnd_J0_length_8abf5 : GoodIn wsX1_signEnd (wsV RX1 104 RJ0 yJ0_length_8abf5 wsJ0_length_8abf5) := goodIn_app (goodIn_of _ (by decide +kernel)) ggX1_signEnd_J0_length_8abf5
set_option maxRecDepth 20000 in
theorem ggX1_signEnd_J0_charAt_5068e : GoodIn wsX1_signEnd wsJ0_charAt_5068e := goodIn_r _ [16, 6, 17, 18, 19, 4, 20, 11, 12, 21, 22, 23, 24, 25, 26, 27, 28, 29, 30, 31, 32, 33, 34, 35, 36, 37, 38, 39, 40, 41, 42, 43, 44, 45, 46, 47, 48, 49] (by decide +kernel) (by decide +kernel)
set_option maxRecDepth 20000 in
theorem gX1_signEnd_J0_charAt_5068e : GoodIn wsX1_signEnd (wsV RX1 96 RJ0 yJ0_charAt_5068e wsJ0_charAt_5068e) := goodIn_app (goodIn_of _ (by decide +kernel)) ggX1_signEnd_J0_charAt_5068e
set_option maxRecDepth 20000 in
theorem ggX1_signEnd_X1_isAt : GoodIn wsX1_signEnd wsX1_isAt := goodIn_r _ [54, 55, 56, 57, 53, 58, 59, 60, 13, 14, 15, 4, 16, 6, 17, 18, 19, 20, 11, 12, 21, 22, 23, 24, 25, 26, 27, 28, 29, 30, 31, 32, 33, 34, 35, 36, 37, 38, 39, 40, 41, 42, 43, 44, 45, 46, 47, 48, 49, 61, 62, 63, 64, 65, 66, 67, 68, 69, 70] (by decide +kernel) (by decide +kernel)
set_option maxRecDepth 20000 in
theorem gX1_signEnd_X1_isAt : GoodIn wsX1_signEnd (wsV RX1 108 RX1 yX1_isAt wsX1_isAt) := goodIn_app (goodIn_of _ (by decide +kernel)) ggX1_signEnd_X1_isAt
theorem dX1_signEnd_0 : decode cX1_signEnd 0 = .ok (.iconst (-1), 1) := by decide +kernel
theorem dX1_signEnd_1 : decode cX1_signEnd 1 = .ok (.istore_n 2, 1) := by decide +kernel
theorem dX1_signEnd_2 : decode cX1_signEnd 2 = .ok (.iconst 1, 1) := by decide +kernel
theorem dX1_signEnd_3 : decode cX1_signEnd 3 = .ok (.istore_n 3, 1) := by decide +kernel
theorem dX1_signEnd_4 : decode cX1_signEnd 4 = .ok (.iload_n 3, 1) := by decide +kernel
theorem dX1_signEnd_5 : decode cX1_signEnd 5 = .ok (.ldc 102, 2) := by decide +kernel
theorem dX1_signEnd_7 : decode cX1_signEnd 7 = .ok (.invokevirtual 104, 3) := by decide +kernel
theorem dX1_signEnd_10 : decode cX1_signEnd 10 = .ok (.if_icmp .ge 62, 3) := by decide +kernel
theorem dX1_signEnd_13 : decode cX1_signEnd 13 = .ok (.iload_n 3, 1) := by decide +kernel
theorem dX1_signEnd_14 : decode cX1_signEnd 14 = .ok (.istore 4, 2) := by decide +kernel
theorem dX1_signEnd_16 : decode cX1_signEnd 16 = .ok (.ldc 102, 2) := by decide +kernel
theorem dX1_signEnd_18 : decode cX1_signEnd 18 = .ok (.iload 4, 2) := by decide +kernel
theorem dX1_signEnd_20 : decode cX1_signEnd 20 = .ok (.invokevirtual 96, 3) := by decide +kernel
theorem dX1_signEnd_23 : decode cX1_signEnd 23 = .ok (.bipush 32, 2) := by decide +kernel
theorem dX1_signEnd_25 : decode cX1_signEnd 25 = .ok (.if_icmp .eq 9, 3) := by decide +kernel
theorem dX1_signEnd_28 : decode cX1_signEnd 28 = .ok (.iinc 4 1, 3) := by decide +kernel
theorem dX1_signEnd_31 : decode cX1_signEnd 31 = .ok (.goto (-15), 3) := by decide +kernel
theorem dX1_signEnd_34 : decode cX1_signEnd 34 = .ok (.aload_n 0, 1) := by decide +kernel
theorem dX1_signEnd_35 : decode cX1_signEnd 35 = .ok (.iload_n 1, 1) := by decide +kernel
theorem dX1_signEnd_36 : decode cX1_signEnd 36 = .ok (.ldc 102, 2) := by decide +kernel
theorem dX1_signEnd_38 : decode cX1_signEnd 38 = .ok (.iload_n 3, 1) := by decide +kernel
theorem dX1_signEnd_39 : decode cX1_signEnd 39 = .ok (.iload 4, 2) := by decide +kernel
theorem dX1_signEnd_41 : decode cX1_signEnd 41 = .ok (.invokevirtual 108, 3) := by decide +kernel
theorem dX1_signEnd_44 : decode cX1_signEnd 44 = .ok (.ifCond .eq 20, 3) := by decide +kernel
theorem dX1_signEnd_47 : decode cX1_signEnd 47 = .ok (.iload_n 1, 1) := by decide +kernel
theorem dX1_signEnd_48 : decode cX1_signEnd 48 = .ok (.iload 4, 2) := by decide +kernel
theorem dX1_signEnd_50 : decode cX1_signEnd 50 = .ok (.iadd, 1) := by decide +kernel
theorem dX1_signEnd_51 : decode cX1_signEnd 51 = .ok (.iload_n 3, 1) := by decide +kernel
theorem dX1_signEnd_52 : decode cX1_signEnd 52 = .ok (.isub, 1) := by decide +kernel
theorem dX1_signEnd_53 : decode cX1_signEnd 53 = .ok (.iload_n 2, 1) := by decide +kernel
theorem dX1_signEnd_54 : decode cX1_signEnd 54 = .ok (.if_icmp .le 10, 3) := by decide +kernel
theorem dX1_signEnd_57 : decode cX1_signEnd 57 = .ok (.iload_n 1, 1) := by decide +kernel
theorem dX1_signEnd_58 : decode cX1_signEnd 58 = .ok (.iload 4, 2) := by decide +kernel
theorem dX1_signEnd_60 : decode cX1_signEnd 60 = .ok (.iadd, 1) := by decide +kernel
theorem dX1_signEnd_61 : decode cX1_signEnd 61 = .ok (.iload_n 3, 1) := by decide +kernel
theorem dX1_signEnd_62 : decode cX1_signEnd 62 = .ok (.isub, 1) := by decide +kernel
theorem dX1_signEnd_63 : decode cX1_signEnd 63 = .ok (.istore_n 2, 1) := by decide +kernel
theorem dX1_signEnd_64 : decode cX1_signEnd 64 = .ok (.iload 4, 2) := by decide +kernel
theorem dX1_signEnd_66 : decode cX1_signEnd 66 = .ok (.iconst 1, 1) := by decide +kernel
theorem dX1_signEnd_67 : decode cX1_signEnd 67 = .ok (.iadd, 1) := by decide +kernel
theorem dX1_signEnd_68 : decode cX1_signEnd 68 = .ok (.istore_n 3, 1) := by decide +kernel
theorem dX1_signEnd_69 : decode cX1_signEnd 69 = .ok (.goto (-65), 3) := by decide +kernel
theorem dX1_signEnd_72 : decode cX1_signEnd 72 = .ok (.iload_n 2, 1) := by decide +kernel
theorem dX1_signEnd_73 : decode cX1_signEnd 73 = .ok (.ireturn, 1) := by decide +kernel
theorem dX1_isToken_0 : decode cX1_isToken 0 = .ok (.iload_n 1, 1) := by decide +kernel
theorem dX1_isToken_1 : decode cX1_isToken 1 = .ok (.ifCond .lt 15, 3) := by decide +kernel
theorem dX1_isToken_4 : decode cX1_isToken 4 = .ok (.iload_n 1, 1) := by decide +kernel
theorem dX1_isToken_5 : decode cX1_isToken 5 = .ok (.aload_n 0, 1) := by decide +kernel
theorem dX1_isToken_6 : decode cX1_isToken 6 = .ok (.getfield 58, 3) := by decide +kernel
theorem dX1_isToken_9 : decode cX1_isToken 9 = .ok (.if_icmp .ge 7, 3) := by decide +kernel
theorem dX1_isToken_12 : decode cX1_isToken 12 = .ok (.iconst 1, 1) := by decide +kernel
theorem dX1_isToken_13 : decode cX1_isToken 13 = .ok (.goto 4, 3) := by decide +kernel
theorem dX1_isToken_16 : decode cX1_isToken 16 = .ok (.iconst 0, 1) := by decide +kernel
theorem dX1_isToken_17 : decode cX1_isToken 17 = .ok (.ireturn, 1) := by decide +kernel
set_option maxRecDepth 20000 in
theorem ggX1_among_J0_length_8abf5 : GoodIn wsX1_among wsJ0_length_8abf5 := goodIn_r _ [7, 8, 9, 10, 11, 6, 12, 13, 14] (by decide +kernel) (by decide +kernel)
set_option maxRecDepth 20000 in
theorem gX1_among_J0_length_8abf5 : GoodIn wsX1_among (wsV RX1 104 RJ0 yJ0_length_8abf5 wsJ0_length_8abf5) := goodIn_app (goodIn_of _ (by decide +kernel)) ggX1_among_J0_length_8abf5
set_option maxRecDepth 20000 in
theorem ggX1_among_J0_charAt_5068e : GoodIn wsX1_among wsJ0_charAt_5068e := goodIn_r _ [18, 8, 19, 20, 21, 6, 22, 13, 14, 23, 24, 25, 26, 27, 28, 29, 30, 31, 32, 33, 34, 35, 36, 37, 38, 39, 40, 41, 42, 43, 44, 45, 46, 47, 48, 49, 50, 51] (by decide +kernel) (by decide +kernel)
set_option maxRecDepth 20000 in
theorem gX1_among_J0_charAt_5068e : GoodIn wsX1_among (wsV RX1 96 RJ0 yJ0_charAt_5068e wsJ0_charAt_5068e) := goodIn_app (goodIn_of _ (by decide +kernel)) ggX1_among_J0_charAt_5068e
set_option maxRecDepth 20000 in
theorem ggX1_among_X1_isAt : GoodIn wsX1_among wsX1_isAt := goodIn_r _ [56, 57, 58, 59, 55, 60, 61, 62, 15, 16, 17, 6, 18, 8, 19, 20, 21, 22, 13, 14, 23, 24, 25, 26, 27, 28, 29, 30, 31, 32, 33, 34, 35, 36, 37, 38, 39, 40, 41, 42, 43, 44, 45, 46, 47, 48, 49, 50, 51, 63, 64, 65, 66, 67, 68, 69, 70, 71, 72] (by decide +kernel) (by decide +kernel)
set_option maxRecDepth 20000 in
theorem gX1_among_X1_isAt : GoodIn wsX1_among (wsV RX1 108 RX1 yX1_isAt wsX1_isAt) := goodIn_app (goodIn_of _ (by decide +kernel)) ggX1_among_X1_isAt
theorem dX1_among_0 : decode cX1_among 0 = .ok (.iconst 0, 1) := by decide +kernel
theorem dX1_among_1 : decode cX1_among 1 = .ok (.istore_n 3, 1) := by decide +kernel
theorem dX1_among_2 : decode cX1_among 2 = .ok (.iconst 1, 1) := by decide +kernel
theorem dX1_among_3 : decode cX1_among 3 = .ok (.istore 4, 2) := by decide +kernel
theorem dX1_among_5 : decode cX1_among 5 = .ok (.iload 4, 2) := by decide +kernel
theorem dX1_among_7 : decode cX1_among 7 = .ok (.aload_n 2, 1) := by decide +kernel
theorem dX1_among_8 : decode cX1_among 8 = .ok (.invokevirtual 104, 3) := by decide +kernel
theorem dX1_among_11 : decode cX1_among 11 = .ok (.if_icmp .ge 77, 3) := by decide +kernel
theorem dX1_among_14 : decode cX1_among 14 = .ok (.iload 4, 2) := by decide +kernel
theorem dX1_among_16 : decode cX1_among 16 = .ok (.istore 5, 2) := by decide +kernel
theorem dX1_among_18 : decode cX1_among 18 = .ok (.aload_n 2, 1) := by decide +kernel
theorem dX1_among_19 : decode cX1_among 19 = .ok (.iload 5, 2) := by decide +kernel
theorem dX1_among_21 : decode cX1_among 21 = .ok (.invokevirtual 96, 3) := by decide +kernel
theorem dX1_among_24 : decode cX1_among 24 = .ok (.bipush 32, 2) := by decide +kernel
theorem dX1_among_26 : decode cX1_among 26 = .ok (.if_icmp .eq 9, 3) := by decide +kernel
theorem dX1_among_29 : decode cX1_among 29 = .ok (.iinc 5 1, 3) := by decide +kernel
theorem dX1_among_32 : decode cX1_among 32 = .ok (.goto (-14), 3) := by decide +kernel
theorem dX1_among_35 : decode cX1_among 35 = .ok (.iload 5, 2) := by decide +kernel
theorem dX1_among_37 : decode cX1_among 37 = .ok (.iload 4, 2) := by decide +kernel
theorem dX1_among_39 : decode cX1_among 39 = .ok (.isub, 1) := by decide +kernel
theorem dX1_among_40 : decode cX1_among 40 = .ok (.aload_n 0, 1) := by decide +kernel
theorem dX1_among_41 : decode cX1_among 41 = .ok (.getfield 23, 3) := by decide +kernel
theorem dX1_among_44 : decode cX1_among 44 = .ok (.iload_n 1, 1) := by decide +kernel
theorem dX1_among_45 : decode cX1_among 45 = .ok (.iaload, 1) := by decide +kernel
theorem dX1_among_46 : decode cX1_among 46 = .ok (.aload_n 0, 1) := by decide +kernel
theorem dX1_among_47 : decode cX1_among 47 = .ok (.getfield 20, 3) := by decide +kernel
theorem dX1_among_50 : decode cX1_among 50 = .ok (.iload_n 1, 1) := by decide +kernel
theorem dX1_among_51 : decode cX1_among 51 = .ok (.iaload, 1) := by decide +kernel
theorem dX1_among_52 : decode cX1_among 52 = .ok (.isub, 1) := by decide +kernel
theorem dX1_among_53 : decode cX1_among 53 = .ok (.if_icmp .ne 23, 3) := by decide +kernel
theorem dX1_among_56 : decode cX1_among 56 = .ok (.aload_n 0, 1) := by decide +kernel
theorem dX1_among_57 : decode cX1_among 57 = .ok (.aload_n 0, 1) := by decide +kernel
theorem dX1_among_58 : decode cX1_among 58 = .ok (.getfield 20, 3) := by decide +kernel
theorem dX1_among_61 : decode cX1_among 61 = .ok (.iload_n 1, 1) := by decide +kernel
theorem dX1_among_62 : decode cX1_among 62 = .ok (.iaload, 1) := by decide +kernel
theorem dX1_among_63 : decode cX1_among 63 = .ok (.aload_n 2, 1) := by decide +kernel
theorem dX1_among_64 : decode cX1_among 64 = .ok (.iload 4, 2) := by decide +kernel
theorem dX1_among_66 : decode cX1_among 66 = .ok (.iload 5, 2) := by decide +kernel
theorem dX1_among_68 : decode cX1_among 68 = .ok (.invokevirtual 108, 3) := by decide +kernel
theorem dX1_among_71 : decode cX1_among 71 = .ok (.ifCond .eq 5, 3) := by decide +kernel
theorem dX1_among_74 : decode cX1_among 74 = .ok (.iload_n 3, 1) := by decide +kernel
theorem dX1_among_75 : decode cX1_among 75 = .ok (.ireturn, 1) := by decide +kernel
theorem dX1_among_76 : decode cX1_among 76 = .ok (.iinc 3 1, 3) := by decide +kernel
theorem dX1_among_79 : decode cX1_among 79 = .ok (.iload 5, 2) := by decide +kernel
theorem dX1_among_81 : decode cX1_among 81 = .ok (.iconst 1, 1) := by decide +kernel
theorem dX1_among_82 : decode cX1_among 82 = .ok (.iadd, 1) := by decide +kernel
theorem dX1_among_83 : decode cX1_among 83 = .ok (.istore 4, 2) := by decide +kernel
theorem dX1_among_85 : decode cX1_among 85 = .ok (.goto (-80), 3) := by decide +kernel
theorem dX1_among_88 : decode cX1_among 88 = .ok (.iconst (-1), 1) := by decide +kernel
theorem dX1_among_89 : decode cX1_among 89 = .ok (.ireturn, 1) := by decide +kernel
theorem dX1_place_0 : decode cX1_place 0 = .ok (.aload_n 0, 1) := by decide +kernel
theorem dX1_place_1 : decode cX1_place 1 = .ok (.getfield 26, 3) := by decide +kernel
theorem dX1_place_4 : decode cX1_place 4 = .ok (.ireturn, 1) := by decide +kernel
theorem dX1_tokens_0 : decode cX1_tokens 0 = .ok (.aload_n 0, 1) := by decide +kernel
theorem dX1_tokens_1 : decode cX1_tokens 1 = .ok (.getfield 58, 3) := by decide +kernel
theorem dX1_tokens_4 : decode cX1_tokens 4 = .ok (.ireturn, 1) := by decide +kernel
set_option maxRecDepth 20000 in
theorem ggX1_kind_X1_isToken : GoodIn wsX1_kind wsX1_isToken := goodIn_r _ [6, 7, 73, 74, 75, 76, 77, 78, 79, 80, 81, 82] (by decide +kernel) (by decide +kernel)
set_option maxRecDepth 20000 in
theorem gX1_kind_X1_isToken : GoodIn wsX1_kind (wsV RX1 112 RX1 yX1_isToken wsX1_isToken) := goodIn_app (goodIn_of _ (by decide +kernel)) ggX1_kind_X1_isToken
set_option maxRecDepth 20000 in
theorem ggX1_kind_X1_among : GoodIn wsX1_kind wsX1_among := goodIn_r _ [11, 12, 13, 14, 15, 16, 17, 18, 19, 20, 21, 22, 23, 24, 25, 26, 27, 28, 29, 30, 31, 32, 33, 34, 35, 36, 37, 38, 39, 40, 41, 42, 43, 44, 45, 46, 47, 48, 49, 50, 51, 52, 53, 54, 55, 56, 57, 58, 59, 60, 61, 62, 63, 64, 65, 5, 66, 67, 68, 69, 70, 71, 72, 73, 74, 75, 76, 77, 78, 79, 80, 81, 82] (by decide +kernel) (by decide +kernel)
set_option maxRecDepth 20000 in
theorem gX1_kind_X1_among : GoodIn wsX1_kind (wsV RX1 117 RX1 yX1_among wsX1_among) := goodIn_app (goodIn_of _ (by decide +kernel)) ggX1_kind_X1_among
theorem dX1_kind_0 : decode cX1_kind 0 = .ok (.aload_n 0, 1) := by decide +kernel
theorem dX1_kind_1 : decode cX1_kind 1 = .ok (.iload_n 1, 1) := by decide +kernel
theorem dX1_kind_2 : decode cX1_kind 2 = .ok (.invokevirtual 112, 3) := by decide +kernel
theorem dX1_kind_5 : decode cX1_kind 5 = .ok (.ifCond .ne 7, 3) := by decide +kernel
theorem dX1_kind_8 : decode cX1_kind 8 = .ok (.iconst 0, 1) := by decide +kernel
theorem dX1_kind_9 : decode cX1_kind 9 = .ok (.goto 33, 3) := by decide +kernel
theorem dX1_kind_12 : decode cX1_kind 12 = .ok (.aload_n 0, 1) := by decide +kernel
theorem dX1_kind_13 : decode cX1_kind 13 = .ok (.getfield 16, 3) := by decide +kernel
theorem dX1_kind_16 : decode cX1_kind 16 = .ok (.iload_n 1, 1) := by decide +kernel
theorem dX1_kind_17 : decode cX1_kind 17 = .ok (.iaload, 1) := by decide +kernel
theorem dX1_kind_18 : decode cX1_kind 18 = .ok (.iconst 1, 1) := by decide +kernel
theorem dX1_kind_19 : decode cX1_kind 19 = .ok (.if_icmp .ne 17, 3) := by decide +kernel
theorem dX1_kind_22 : decode cX1_kind 22 = .ok (.aload_n 0, 1) := by decide +kernel
theorem dX1_kind_23 : decode cX1_kind 23 = .ok (.iload_n 1, 1) := by decide +kernel
theorem dX1_kind_24 : decode cX1_kind 24 = .ok (.ldc 115, 2) := by decide +kernel
theorem dX1_kind_26 : decode cX1_kind 26 = .ok (.invokevirtual 117, 3) := by decide +kernel
theorem dX1_kind_29 : decode cX1_kind 29 = .ok (.ifCond .lt 7, 3) := by decide +kernel
theorem dX1_kind_32 : decode cX1_kind 32 = .ok (.iconst 4, 1) := by decide +kernel
theorem dX1_kind_33 : decode cX1_kind 33 = .ok (.goto 9, 3) := by decide +kernel
theorem dX1_kind_36 : decode cX1_kind 36 = .ok (.aload_n 0, 1) := by decide +kernel
theorem dX1_kind_37 : decode cX1_kind 37 = .ok (.getfield 16, 3) := by decide +kernel
theorem dX1_kind_40 : decode cX1_kind 40 = .ok (.iload_n 1, 1) := by decide +kernel
theorem dX1_kind_41 : decode cX1_kind 41 = .ok (.iaload, 1) := by decide +kernel
theorem dX1_kind_42 : decode cX1_kind 42 = .ok (.ireturn, 1) := by decide +kernel
set_option maxRecDepth 20000 in
theorem ggX1_which_X1_kind : GoodIn wsX1_which wsX1_kind := goodIn_r _ [5, 6, 7, 8, 9, 4, 10, 11, 12, 13, 14, 15, 16, 17, 18, 19, 20, 21, 22, 23, 24, 25, 26, 27, 28, 29, 30, 31, 32, 33, 34, 35, 36, 37, 38, 39, 40, 41, 42, 43, 44, 45, 46, 47, 48, 49, 50, 51, 52, 53, 54, 55, 56, 57, 58, 59, 60, 61, 62, 63, 64, 65, 66, 67, 68, 69, 70, 71, 72, 73, 74, 75, 76, 77, 78, 79, 80, 81, 82, 83, 84, 85, 86] (by decide +kernel) (by decide +kernel)
set_option maxRecDepth 20000 in
theorem gX1_which_X1_kind : GoodIn wsX1_which (wsV RX1 121 RX1 yX1_kind wsX1_kind) := goodIn_app (goodIn_of _ (by decide +kernel)) ggX1_which_X1_kind
set_option maxRecDepth 20000 in
theorem ggX1_which_X1_among : GoodIn wsX1_which wsX1_among := goodIn_r _ [15, 16, 17, 18, 19, 20, 21, 22, 23, 24, 25, 26, 27, 28, 29, 30, 31, 32, 33, 34, 35, 36, 37, 38, 39, 40, 41, 42, 43, 44, 45, 46, 47, 48, 49, 50, 51, 52, 53, 54, 55, 56, 57, 58, 59, 60, 61, 62, 63, 64, 65, 66, 67, 68, 69, 4, 70, 71, 72, 73, 74, 75, 76, 77, 78, 79, 80, 81, 82, 83, 84, 85, 86] (by decide +kernel) (by decide +kernel)
set_option maxRecDepth 20000 in
theorem gX1_which_X1_among : GoodIn wsX1_which (wsV RX1 117 RX1 yX1_among wsX1_among) := goodIn_app (goodIn_of _ (by decide +kernel)) ggX1_which_X1_among
theorem dX1_which_0 : decode cX1_which 0 = .ok (.aload_n 0, 1) := by decide +kernel
theorem dX1_which_1 : decode cX1_which 1 = .ok (.iload_n 1, 1) := by decide +kernel
theorem dX1_which_2 : decode cX1_which 2 = .ok (.invokevirtual 121, 3) := by decide +kernel
theorem dX1_which_5 : decode cX1_which 5 = .ok (.istore_n 2, 1) := by decide +kernel
theorem dX1_which_6 : decode cX1_which 6 = .ok (.iload_n 2, 1) := by decide +kernel
theorem dX1_which_7 : decode cX1_which 7 = .ok (.iconst 4, 1) := by decide +kernel
theorem dX1_which_8 : decode cX1_which 8 = .ok (.if_icmp .ne 13, 3) := by decide +kernel
theorem dX1_which_11 : decode cX1_which 11 = .ok (.aload_n 0, 1) := by decide +kernel
theorem dX1_which_12 : decode cX1_which 12 = .ok (.iload_n 1, 1) := by decide +kernel
theorem dX1_which_13 : decode cX1_which 13 = .ok (.ldc 115, 2) := by decide +kernel
theorem dX1_which_15 : decode cX1_which 15 = .ok (.invokevirtual 117, 3) := by decide +kernel
theorem dX1_which_18 : decode cX1_which 18 = .ok (.goto 19, 3) := by decide +kernel
theorem dX1_which_21 : decode cX1_which 21 = .ok (.iload_n 2, 1) := by decide +kernel
theorem dX1_which_22 : decode cX1_which 22 = .ok (.iconst 5, 1) := by decide +kernel
theorem dX1_which_23 : decode cX1_which 23 = .ok (.if_icmp .ne 13, 3) := by decide +kernel
theorem dX1_which_26 : decode cX1_which 26 = .ok (.aload_n 0, 1) := by decide +kernel
theorem dX1_which_27 : decode cX1_which 27 = .ok (.iload_n 1, 1) := by decide +kernel
theorem dX1_which_28 : decode cX1_which 28 = .ok (.ldc 102, 2) := by decide +kernel
theorem dX1_which_30 : decode cX1_which 30 = .ok (.invokevirtual 117, 3) := by decide +kernel
theorem dX1_which_33 : decode cX1_which 33 = .ok (.goto 4, 3) := by decide +kernel
theorem dX1_which_36 : decode cX1_which 36 = .ok (.iconst (-1), 1) := by decide +kernel
theorem dX1_which_37 : decode cX1_which 37 = .ok (.ireturn, 1) := by decide +kernel
set_option maxRecDepth 20000 in
theorem ggX1_from_X1_isToken : GoodIn wsX1_from wsX1_isToken := goodIn_r _ [6, 7, 8, 9, 10, 11, 12, 13, 14, 15, 16, 17] (by decide +kernel) (by decide +kernel)
set_option maxRecDepth 20000 in
theorem gX1_from_X1_isToken : GoodIn wsX1_from (wsV RX1 112 RX1 yX1_isToken wsX1_isToken) := goodIn_app (goodIn_of _ (by decide +kernel)) ggX1_from_X1_isToken
theorem dX1_from_0 : decode cX1_from 0 = .ok (.aload_n 0, 1) := by decide +kernel
theorem dX1_from_1 : decode cX1_from 1 = .ok (.iload_n 1, 1) := by decide +kernel
theorem dX1_from_2 : decode cX1_from 2 = .ok (.invokevirtual 112, 3) := by decide +kernel
theorem dX1_from_5 : decode cX1_from 5 = .ok (.ifCond .eq 12, 3) := by decide +kernel
theorem dX1_from_8 : decode cX1_from 8 = .ok (.aload_n 0, 1) := by decide +kernel
theorem dX1_from_9 : decode cX1_from 9 = .ok (.getfield 20, 3) := by decide +kernel
theorem dX1_from_12 : decode cX1_from 12 = .ok (.iload_n 1, 1) := by decide +kernel
theorem dX1_from_13 : decode cX1_from 13 = .ok (.iaload, 1) := by decide +kernel
theorem dX1_from_14 : decode cX1_from 14 = .ok (.goto 4, 3) := by decide +kernel
theorem dX1_from_17 : decode cX1_from 17 = .ok (.iconst (-1), 1) := by decide +kernel
theorem dX1_from_18 : decode cX1_from 18 = .ok (.ireturn, 1) := by decide +kernel
set_option maxRecDepth 20000 in
theorem ggX1_length_X1_isToken : GoodIn wsX1_length wsX1_isToken := goodIn_r _ [7, 8, 9, 10, 11, 12, 13, 14, 15, 16, 17, 18] (by decide +kernel) (by decide +kernel)
set_option maxRecDepth 20000 in
theorem gX1_length_X1_isToken : GoodIn wsX1_length (wsV RX1 112 RX1 yX1_isToken wsX1_isToken) := goodIn_app (goodIn_of _ (by decide +kernel)) ggX1_length_X1_isToken
theorem dX1_length_0 : decode cX1_length 0 = .ok (.aload_n 0, 1) := by decide +kernel
theorem dX1_length_1 : decode cX1_length 1 = .ok (.iload_n 1, 1) := by decide +kernel
theorem dX1_length_2 : decode cX1_length 2 = .ok (.invokevirtual 112, 3) := by decide +kernel
theorem dX1_length_5 : decode cX1_length 5 = .ok (.ifCond .eq 19, 3) := by decide +kernel
theorem dX1_length_8 : decode cX1_length 8 = .ok (.aload_n 0, 1) := by decide +kernel
theorem dX1_length_9 : decode cX1_length 9 = .ok (.getfield 23, 3) := by decide +kernel
theorem dX1_length_12 : decode cX1_length 12 = .ok (.iload_n 1, 1) := by decide +kernel
theorem dX1_length_13 : decode cX1_length 13 = .ok (.iaload, 1) := by decide +kernel
theorem dX1_length_14 : decode cX1_length 14 = .ok (.aload_n 0, 1) := by decide +kernel
theorem dX1_length_15 : decode cX1_length 15 = .ok (.getfield 20, 3) := by decide +kernel
theorem dX1_length_18 : decode cX1_length 18 = .ok (.iload_n 1, 1) := by decide +kernel
theorem dX1_length_19 : decode cX1_length 19 = .ok (.iaload, 1) := by decide +kernel
theorem dX1_length_20 : decode cX1_length 20 = .ok (.isub, 1) := by decide +kernel
theorem dX1_length_21 : decode cX1_length 21 = .ok (.goto 4, 3) := by decide +kernel
theorem dX1_length_24 : decode cX1_length 24 = .ok (.iconst 0, 1) := by decide +kernel
theorem dX1_length_25 : decode cX1_length 25 = .ok (.ireturn, 1) := by decide +kernel
set_option maxRecDepth 20000 in
theorem ggX1_line_X1_isToken : GoodIn wsX1_line wsX1_isToken := goodIn_r _ [7, 8, 9, 10, 11, 12, 13, 14, 15, 16, 17, 18] (by decide +kernel) (by decide +kernel)
set_option maxRecDepth 20000 in
theorem gX1_line_X1_isToken : GoodIn wsX1_line (wsV RX1 112 RX1 yX1_isToken wsX1_isToken) := goodIn_app (goodIn_of _ (by decide +kernel)) ggX1_line_X1_isToken
theorem dX1_line_0 : decode cX1_line 0 = .ok (.aload_n 0, 1) := by decide +kernel
theorem dX1_line_1 : decode cX1_line 1 = .ok (.iload_n 1, 1) := by decide +kernel
theorem dX1_line_2 : decode cX1_line 2 = .ok (.invokevirtual 112, 3) := by decide +kernel
theorem dX1_line_5 : decode cX1_line 5 = .ok (.ifCond .ne 5, 3) := by decide +kernel
theorem dX1_line_8 : decode cX1_line 8 = .ok (.iconst 0, 1) := by decide +kernel
theorem dX1_line_9 : decode cX1_line 9 = .ok (.ireturn, 1) := by decide +kernel
theorem dX1_line_10 : decode cX1_line 10 = .ok (.iconst 1, 1) := by decide +kernel
theorem dX1_line_11 : decode cX1_line 11 = .ok (.istore_n 2, 1) := by decide +kernel
theorem dX1_line_12 : decode cX1_line 12 = .ok (.iconst 0, 1) := by decide +kernel
theorem dX1_line_13 : decode cX1_line 13 = .ok (.istore_n 3, 1) := by decide +kernel
theorem dX1_line_14 : decode cX1_line 14 = .ok (.iload_n 3, 1) := by decide +kernel
theorem dX1_line_15 : decode cX1_line 15 = .ok (.aload_n 0, 1) := by decide +kernel
theorem dX1_line_16 : decode cX1_line 16 = .ok (.getfield 20, 3) := by decide +kernel
theorem dX1_line_19 : decode cX1_line 19 = .ok (.iload_n 1, 1) := by decide +kernel
theorem dX1_line_20 : decode cX1_line 20 = .ok (.iaload, 1) := by decide +kernel
theorem dX1_line_21 : decode cX1_line 21 = .ok (.if_icmp .ge 23, 3) := by decide +kernel
theorem dX1_line_24 : decode cX1_line 24 = .ok (.aload_n 0, 1) := by decide +kernel
theorem dX1_line_25 : decode cX1_line 25 = .ok (.getfield 13, 3) := by decide +kernel
theorem dX1_line_28 : decode cX1_line 28 = .ok (.iload_n 3, 1) := by decide +kernel
theorem dX1_line_29 : decode cX1_line 29 = .ok (.baload, 1) := by decide +kernel
theorem dX1_line_30 : decode cX1_line 30 = .ok (.bipush 10, 2) := by decide +kernel
theorem dX1_line_32 : decode cX1_line 32 = .ok (.if_icmp .ne 6, 3) := by decide +kernel
theorem dX1_line_35 : decode cX1_line 35 = .ok (.iinc 2 1, 3) := by decide +kernel
theorem dX1_line_38 : decode cX1_line 38 = .ok (.iinc 3 1, 3) := by decide +kernel
theorem dX1_line_41 : decode cX1_line 41 = .ok (.goto (-27), 3) := by decide +kernel
theorem dX1_line_44 : decode cX1_line 44 = .ok (.iload_n 2, 1) := by decide +kernel
theorem dX1_line_45 : decode cX1_line 45 = .ok (.ireturn, 1) := by decide +kernel
set_option maxRecDepth 20000 in
theorem ggX1_codeAt_X1_look : GoodIn wsX1_codeAt wsX1_look := goodIn_r _ [5, 6, 7, 8, 9, 10, 11, 12, 13, 14, 15, 16, 17] (by decide +kernel) (by decide +kernel)
set_option maxRecDepth 20000 in
theorem gX1_codeAt_X1_look : GoodIn wsX1_codeAt (wsV RX1 51 RX1 yX1_look wsX1_look) := goodIn_app (goodIn_of _ (by decide +kernel)) ggX1_codeAt_X1_look
theorem dX1_codeAt_0 : decode cX1_codeAt 0 = .ok (.aload_n 0, 1) := by decide +kernel
theorem dX1_codeAt_1 : decode cX1_codeAt 1 = .ok (.iload_n 1, 1) := by decide +kernel
theorem dX1_codeAt_2 : decode cX1_codeAt 2 = .ok (.invokevirtual 51, 3) := by decide +kernel
theorem dX1_codeAt_5 : decode cX1_codeAt 5 = .ok (.bipush 92, 2) := by decide +kernel
theorem dX1_codeAt_7 : decode cX1_codeAt 7 = .ok (.if_icmp .eq 9, 3) := by decide +kernel
theorem dX1_codeAt_10 : decode cX1_codeAt 10 = .ok (.aload_n 0, 1) := by decide +kernel
theorem dX1_codeAt_11 : decode cX1_codeAt 11 = .ok (.iload_n 1, 1) := by decide +kernel
theorem dX1_codeAt_12 : decode cX1_codeAt 12 = .ok (.invokevirtual 51, 3) := by decide +kernel
theorem dX1_codeAt_15 : decode cX1_codeAt 15 = .ok (.ireturn, 1) := by decide +kernel
theorem dX1_codeAt_16 : decode cX1_codeAt 16 = .ok (.aload_n 0, 1) := by decide +kernel
theorem dX1_codeAt_17 : decode cX1_codeAt 17 = .ok (.iload_n 1, 1) := by decide +kernel
theorem dX1_codeAt_18 : decode cX1_codeAt 18 = .ok (.iconst 1, 1) := by decide +kernel
theorem dX1_codeAt_19 : decode cX1_codeAt 19 = .ok (.iadd, 1) := by decide +kernel
theorem dX1_codeAt_20 : decode cX1_codeAt 20 = .ok (.invokevirtual 51, 3) := by decide +kernel
theorem dX1_codeAt_23 : decode cX1_codeAt 23 = .ok (.istore_n 2, 1) := by decide +kernel
theorem dX1_codeAt_24 : decode cX1_codeAt 24 = .ok (.iload_n 2, 1) := by decide +kernel
theorem dX1_codeAt_25 : decode cX1_codeAt 25 = .ok (.bipush 110, 2) := by decide +kernel
theorem dX1_codeAt_27 : decode cX1_codeAt 27 = .ok (.if_icmp .ne 8, 3) := by decide +kernel
theorem dX1_codeAt_30 : decode cX1_codeAt 30 = .ok (.bipush 10, 2) := by decide +kernel
theorem dX1_codeAt_32 : decode cX1_codeAt 32 = .ok (.goto 14, 3) := by decide +kernel
theorem dX1_codeAt_35 : decode cX1_codeAt 35 = .ok (.iload_n 2, 1) := by decide +kernel
theorem dX1_codeAt_36 : decode cX1_codeAt 36 = .ok (.bipush 48, 2) := by decide +kernel
theorem dX1_codeAt_38 : decode cX1_codeAt 38 = .ok (.if_icmp .ne 7, 3) := by decide +kernel
theorem dX1_codeAt_41 : decode cX1_codeAt 41 = .ok (.iconst 0, 1) := by decide +kernel
theorem dX1_codeAt_42 : decode cX1_codeAt 42 = .ok (.goto 4, 3) := by decide +kernel
theorem dX1_codeAt_45 : decode cX1_codeAt 45 = .ok (.iload_n 2, 1) := by decide +kernel
theorem dX1_codeAt_46 : decode cX1_codeAt 46 = .ok (.ireturn, 1) := by decide +kernel
set_option maxRecDepth 20000 in
theorem ggX1_worth_X1_kind : GoodIn wsX1_worth wsX1_kind := goodIn_r _ [7, 8, 9, 10, 11, 6, 12, 13, 14, 15, 16, 17, 2, 1, 18, 19, 20, 21, 22, 23, 24, 25, 26, 27, 28, 29, 30, 31, 32, 33, 34, 35, 36, 37, 38, 39, 40, 41, 42, 43, 44, 45, 46, 47, 48, 49, 50, 51, 52, 53, 54, 55, 56, 57, 58, 59, 60, 61, 62, 63, 64, 65, 66, 67, 68, 69, 70, 71, 72, 73, 74, 75, 76, 87, 88, 89, 90, 91, 92, 93, 94, 95, 96] (by decide +kernel) (by decide +kernel)
set_option maxRecDepth 20000 in
theorem gX1_worth_X1_kind : GoodIn wsX1_worth (wsV RX1 121 RX1 yX1_kind wsX1_kind) := goodIn_app (goodIn_of _ (by decide +kernel)) ggX1_worth_X1_kind
set_option maxRecDepth 20000 in
theorem ggX1_worth_X1_look : GoodIn wsX1_worth wsX1_look := goodIn_r _ [74, 75, 76, 87, 88, 89, 90, 91, 92, 93, 94, 95, 96] (by decide +kernel) (by decide +kernel)
set_option maxRecDepth 20000 in
theorem gX1_worth_X1_look : GoodIn wsX1_worth (wsV RX1 51 RX1 yX1_look wsX1_look) := goodIn_app (goodIn_of _ (by decide +kernel)) ggX1_worth_X1_look
set_option maxRecDepth 20000 in
theorem ggX1_worth_X1_codeAt : GoodIn wsX1_worth wsX1_codeAt := goodIn_r _ [80, 71, 72, 73, 6, 74, 75, 76, 87, 88, 89, 90, 91, 92, 93, 94, 95, 96] (by decide +kernel) (by decide +kernel)
set_option maxRecDepth 20000 in
theorem gX1_worth_X1_codeAt : GoodIn wsX1_worth (wsV RX1 124 RX1 yX1_codeAt wsX1_codeAt) := goodIn_app (goodIn_of _ (by decide +kernel)) ggX1_worth_X1_codeAt
set_option maxRecDepth 20000 in
theorem ggX1_worth_X1_sixteen : GoodIn wsX1_worth wsX1_sixteen := goodIn_r _ [83, 84, 85, 6, 86] (by decide +kernel) (by decide +kernel)
set_option maxRecDepth 20000 in
theorem gX1_worth_X1_sixteen : GoodIn wsX1_worth (va_wsS RX1 83 yX1_sixteen wsX1_sixteen) := goodIn_app (goodIn_of _ (by decide +kernel)) ggX1_worth_X1_sixteen
theorem dX1_worth_0 : decode cX1_worth 0 = .ok (.aload_n 0, 1) := by decide +kernel
theorem dX1_worth_1 : decode cX1_worth 1 = .ok (.iload_n 1, 1) := by decide +kernel
theorem dX1_worth_2 : decode cX1_worth 2 = .ok (.invokevirtual 121, 3) := by decide +kernel
theorem dX1_worth_5 : decode cX1_worth 5 = .ok (.iconst 2, 1) := by decide +kernel
theorem dX1_worth_6 : decode cX1_worth 6 = .ok (.if_icmp .eq 5, 3) := by decide +kernel
theorem dX1_worth_9 : decode cX1_worth 9 = .ok (.iconst 0, 1) := by decide +kernel
theorem dX1_worth_10 : decode cX1_worth 10 = .ok (.ireturn, 1) := by decide +kernel
theorem dX1_worth_11 : decode cX1_worth 11 = .ok (.aload_n 0, 1) := by decide +kernel
theorem dX1_worth_12 : decode cX1_worth 12 = .ok (.getfield 20, 3) := by decide +kernel
theorem dX1_worth_15 : decode cX1_worth 15 = .ok (.iload_n 1, 1) := by decide +kernel
theorem dX1_worth_16 : decode cX1_worth 16 = .ok (.iaload, 1) := by decide +kernel
theorem dX1_worth_17 : decode cX1_worth 17 = .ok (.istore_n 2, 1) := by decide +kernel
theorem dX1_worth_18 : decode cX1_worth 18 = .ok (.aload_n 0, 1) := by decide +kernel
theorem dX1_worth_19 : decode cX1_worth 19 = .ok (.iload_n 2, 1) := by decide +kernel
theorem dX1_worth_20 : decode cX1_worth 20 = .ok (.invokevirtual 51, 3) := by decide +kernel
theorem dX1_worth_23 : decode cX1_worth 23 = .ok (.bipush 39, 2) := by decide +kernel
theorem dX1_worth_25 : decode cX1_worth 25 = .ok (.if_icmp .ne 11, 3) := by decide +kernel
theorem dX1_worth_28 : decode cX1_worth 28 = .ok (.aload_n 0, 1) := by decide +kernel
theorem dX1_worth_29 : decode cX1_worth 29 = .ok (.iload_n 2, 1) := by decide +kernel
theorem dX1_worth_30 : decode cX1_worth 30 = .ok (.iconst 1, 1) := by decide +kernel
theorem dX1_worth_31 : decode cX1_worth 31 = .ok (.iadd, 1) := by decide +kernel
theorem dX1_worth_32 : decode cX1_worth 32 = .ok (.invokevirtual 124, 3) := by decide +kernel
theorem dX1_worth_35 : decode cX1_worth 35 = .ok (.ireturn, 1) := by decide +kernel
theorem dX1_worth_36 : decode cX1_worth 36 = .ok (.iconst 0, 1) := by decide +kernel
theorem dX1_worth_37 : decode cX1_worth 37 = .ok (.istore_n 3, 1) := by decide +kernel
theorem dX1_worth_38 : decode cX1_worth 38 = .ok (.aload_n 0, 1) := by decide +kernel
theorem dX1_worth_39 : decode cX1_worth 39 = .ok (.getfield 23, 3) := by decide +kernel
theorem dX1_worth_42 : decode cX1_worth 42 = .ok (.iload_n 1, 1) := by decide +kernel
theorem dX1_worth_43 : decode cX1_worth 43 = .ok (.iaload, 1) := by decide +kernel
theorem dX1_worth_44 : decode cX1_worth 44 = .ok (.iload_n 2, 1) := by decide +kernel
theorem dX1_worth_45 : decode cX1_worth 45 = .ok (.isub, 1) := by decide +kernel
theorem dX1_worth_46 : decode cX1_worth 46 = .ok (.iconst 2, 1) := by decide +kernel
theorem dX1_worth_47 : decode cX1_worth 47 = .ok (.if_icmp .le 19, 3) := by decide +kernel
theorem dX1_worth_50 : decode cX1_worth 50 = .ok (.aload_n 0, 1) := by decide +kernel
theorem dX1_worth_51 : decode cX1_worth 51 = .ok (.iload_n 2, 1) := by decide +kernel
theorem dX1_worth_52 : decode cX1_worth 52 = .ok (.iconst 1, 1) := by decide +kernel
theorem dX1_worth_53 : decode cX1_worth 53 = .ok (.iadd, 1) := by decide +kernel
theorem dX1_worth_54 : decode cX1_worth 54 = .ok (.invokevirtual 51, 3) := by decide +kernel
theorem dX1_worth_57 : decode cX1_worth 57 = .ok (.bipush 120, 2) := by decide +kernel
theorem dX1_worth_59 : decode cX1_worth 59 = .ok (.if_icmp .ne 7, 3) := by decide +kernel
theorem dX1_worth_62 : decode cX1_worth 62 = .ok (.iconst 1, 1) := by decide +kernel
theorem dX1_worth_63 : decode cX1_worth 63 = .ok (.goto 4, 3) := by decide +kernel
theorem dX1_worth_66 : decode cX1_worth 66 = .ok (.iconst 0, 1) := by decide +kernel
theorem dX1_worth_67 : decode cX1_worth 67 = .ok (.istore 4, 2) := by decide +kernel
theorem dX1_worth_69 : decode cX1_worth 69 = .ok (.iload 4, 2) := by decide +kernel
theorem dX1_worth_71 : decode cX1_worth 71 = .ok (.ifCond .eq 9, 3) := by decide +kernel
theorem dX1_worth_74 : decode cX1_worth 74 = .ok (.iload_n 2, 1) := by decide +kernel
theorem dX1_worth_75 : decode cX1_worth 75 = .ok (.iconst 2, 1) := by decide +kernel
theorem dX1_worth_76 : decode cX1_worth 76 = .ok (.iadd, 1) := by decide +kernel
theorem dX1_worth_77 : decode cX1_worth 77 = .ok (.goto 4, 3) := by decide +kernel
theorem dX1_worth_80 : decode cX1_worth 80 = .ok (.iload_n 2, 1) := by decide +kernel
theorem dX1_worth_81 : decode cX1_worth 81 = .ok (.istore 5, 2) := by decide +kernel
theorem dX1_worth_83 : decode cX1_worth 83 = .ok (.iload 5, 2) := by decide +kernel
theorem dX1_worth_85 : decode cX1_worth 85 = .ok (.aload_n 0, 1) := by decide +kernel
theorem dX1_worth_86 : decode cX1_worth 86 = .ok (.getfield 23, 3) := by decide +kernel
theorem dX1_worth_89 : decode cX1_worth 89 = .ok (.iload_n 1, 1) := by decide +kernel
theorem dX1_worth_90 : decode cX1_worth 90 = .ok (.iaload, 1) := by decide +kernel
theorem dX1_worth_91 : decode cX1_worth 91 = .ok (.if_icmp .ge 46, 3) := by decide +kernel
theorem dX1_worth_94 : decode cX1_worth 94 = .ok (.iload 4, 2) := by decide +kernel
theorem dX1_worth_96 : decode cX1_worth 96 = .ok (.ifCond .eq 20, 3) := by decide +kernel
theorem dX1_worth_99 : decode cX1_worth 99 = .ok (.iload_n 3, 1) := by decide +kernel
theorem dX1_worth_100 : decode cX1_worth 100 = .ok (.bipush 16, 2) := by decide +kernel
theorem dX1_worth_102 : decode cX1_worth 102 = .ok (.imul, 1) := by decide +kernel
theorem dX1_worth_103 : decode cX1_worth 103 = .ok (.aload_n 0, 1) := by decide +kernel
theorem dX1_worth_104 : decode cX1_worth 104 = .ok (.iload 5, 2) := by decide +kernel
theorem dX1_worth_106 : decode cX1_worth 106 = .ok (.invokevirtual 51, 3) := by decide +kernel
theorem dX1_worth_109 : decode cX1_worth 109 = .ok (.invokestatic 83, 3) := by decide +kernel
theorem dX1_worth_112 : decode cX1_worth 112 = .ok (.iadd, 1) := by decide +kernel
theorem dX1_worth_113 : decode cX1_worth 113 = .ok (.goto 17, 3) := by decide +kernel
theorem dX1_worth_116 : decode cX1_worth 116 = .ok (.iload_n 3, 1) := by decide +kernel
theorem dX1_worth_117 : decode cX1_worth 117 = .ok (.bipush 10, 2) := by decide +kernel
theorem dX1_worth_119 : decode cX1_worth 119 = .ok (.imul, 1) := by decide +kernel
theorem dX1_worth_120 : decode cX1_worth 120 = .ok (.aload_n 0, 1) := by decide +kernel
theorem dX1_worth_121 : decode cX1_worth 121 = .ok (.iload 5, 2) := by decide +kernel
theorem dX1_worth_123 : decode cX1_worth 123 = .ok (.invokevirtual 51, 3) := by decide +kernel
theorem dX1_worth_126 : decode cX1_worth 126 = .ok (.iadd, 1) := by decide +kernel
theorem dX1_worth_127 : decode cX1_worth 127 = .ok (.bipush 48, 2) := by decide +kernel
theorem dX1_worth_129 : decode cX1_worth 129 = .ok (.isub, 1) := by decide +kernel
theorem dX1_worth_130 : decode cX1_worth 130 = .ok (.istore_n 3, 1) := by decide +kernel
theorem dX1_worth_131 : decode cX1_worth 131 = .ok (.iinc 5 1, 3) := by decide +kernel
theorem dX1_worth_134 : decode cX1_worth 134 = .ok (.goto (-51), 3) := by decide +kernel
theorem dX1_worth_137 : decode cX1_worth 137 = .ok (.iload_n 3, 1) := by decide +kernel
theorem dX1_worth_138 : decode cX1_worth 138 = .ok (.ireturn, 1) := by decide +kernel
set_option maxRecDepth 20000 in
theorem ggX1_codes_X1_kind : GoodIn wsX1_codes wsX1_kind := goodIn_r _ [7, 8, 9, 10, 11, 6, 12, 13, 14, 15, 16, 17, 2, 1, 18, 19, 20, 21, 22, 23, 24, 25, 26, 27, 28, 29, 30, 31, 32, 33, 34, 35, 36, 37, 38, 39, 40, 41, 42, 43, 44, 45, 46, 47, 48, 49, 50, 51, 52, 53, 54, 55, 56, 57, 58, 59, 60, 61, 62, 63, 64, 65, 66, 67, 68, 69, 70, 71, 72, 73, 74, 75, 76, 81, 82, 83, 84, 85, 86, 87, 88, 89, 90] (by decide +kernel) (by decide +kernel)
set_option maxRecDepth 20000 in
theorem gX1_codes_X1_kind : GoodIn wsX1_codes (wsV RX1 121 RX1 yX1_kind wsX1_kind) := goodIn_app (goodIn_of _ (by decide +kernel)) ggX1_codes_X1_kind
set_option maxRecDepth 20000 in
theorem ggX1_codes_X1_behind : GoodIn wsX1_codes wsX1_behind := goodIn_r _ [80, 71, 72, 73, 6, 74, 75, 76, 81, 82, 83, 84, 85, 86, 87, 88, 89, 90] (by decide +kernel) (by decide +kernel)
set_option maxRecDepth 20000 in
theorem gX1_codes_X1_behind : GoodIn wsX1_codes (wsV RX1 80 RX1 yX1_behind wsX1_behind) := goodIn_app (goodIn_of _ (by decide +kernel)) ggX1_codes_X1_behind
theorem dX1_codes_0 : decode cX1_codes 0 = .ok (.aload_n 0, 1) := by decide +kernel
theorem dX1_codes_1 : decode cX1_codes 1 = .ok (.iload_n 1, 1) := by decide +kernel
theorem dX1_codes_2 : decode cX1_codes 2 = .ok (.invokevirtual 121, 3) := by decide +kernel
theorem dX1_codes_5 : decode cX1_codes 5 = .ok (.iconst 3, 1) := by decide +kernel
theorem dX1_codes_6 : decode cX1_codes 6 = .ok (.if_icmp .eq 5, 3) := by decide +kernel
theorem dX1_codes_9 : decode cX1_codes 9 = .ok (.iconst (-1), 1) := by decide +kernel
theorem dX1_codes_10 : decode cX1_codes 10 = .ok (.ireturn, 1) := by decide +kernel
theorem dX1_codes_11 : decode cX1_codes 11 = .ok (.iconst 0, 1) := by decide +kernel
theorem dX1_codes_12 : decode cX1_codes 12 = .ok (.istore_n 2, 1) := by decide +kernel
theorem dX1_codes_13 : decode cX1_codes 13 = .ok (.aload_n 0, 1) := by decide +kernel
theorem dX1_codes_14 : decode cX1_codes 14 = .ok (.getfield 20, 3) := by decide +kernel
theorem dX1_codes_17 : decode cX1_codes 17 = .ok (.iload_n 1, 1) := by decide +kernel
theorem dX1_codes_18 : decode cX1_codes 18 = .ok (.iaload, 1) := by decide +kernel
theorem dX1_codes_19 : decode cX1_codes 19 = .ok (.iconst 1, 1) := by decide +kernel
theorem dX1_codes_20 : decode cX1_codes 20 = .ok (.iadd, 1) := by decide +kernel
theorem dX1_codes_21 : decode cX1_codes 21 = .ok (.istore_n 3, 1) := by decide +kernel
theorem dX1_codes_22 : decode cX1_codes 22 = .ok (.iload_n 3, 1) := by decide +kernel
theorem dX1_codes_23 : decode cX1_codes 23 = .ok (.aload_n 0, 1) := by decide +kernel
theorem dX1_codes_24 : decode cX1_codes 24 = .ok (.getfield 23, 3) := by decide +kernel
theorem dX1_codes_27 : decode cX1_codes 27 = .ok (.iload_n 1, 1) := by decide +kernel
theorem dX1_codes_28 : decode cX1_codes 28 = .ok (.iaload, 1) := by decide +kernel
theorem dX1_codes_29 : decode cX1_codes 29 = .ok (.iconst 1, 1) := by decide +kernel
theorem dX1_codes_30 : decode cX1_codes 30 = .ok (.isub, 1) := by decide +kernel
theorem dX1_codes_31 : decode cX1_codes 31 = .ok (.if_icmp .ge 17, 3) := by decide +kernel
theorem dX1_codes_34 : decode cX1_codes 34 = .ok (.iinc 2 1, 3) := by decide +kernel
theorem dX1_codes_37 : decode cX1_codes 37 = .ok (.aload_n 0, 1) := by decide +kernel
theorem dX1_codes_38 : decode cX1_codes 38 = .ok (.iload_n 3, 1) := by decide +kernel
theorem dX1_codes_39 : decode cX1_codes 39 = .ok (.bipush 34, 2) := by decide +kernel
theorem dX1_codes_41 : decode cX1_codes 41 = .ok (.invokevirtual 80, 3) := by decide +kernel
theorem dX1_codes_44 : decode cX1_codes 44 = .ok (.istore_n 3, 1) := by decide +kernel
theorem dX1_codes_45 : decode cX1_codes 45 = .ok (.goto (-23), 3) := by decide +kernel
theorem dX1_codes_48 : decode cX1_codes 48 = .ok (.iload_n 2, 1) := by decide +kernel
theorem dX1_codes_49 : decode cX1_codes 49 = .ok (.ireturn, 1) := by decide +kernel
set_option maxRecDepth 20000 in
theorem ggX1_code_X1_codes : GoodIn wsX1_code wsX1_codes := goodIn_r _ [6, 1, 7, 8, 9, 10, 5, 11, 12, 13, 14, 15, 16, 17, 18, 19, 20, 21, 22, 23, 24, 25, 26, 27, 28, 29, 30, 31, 32, 33, 34, 35, 36, 37, 38, 39, 40, 41, 42, 43, 44, 45, 46, 47, 48, 49, 50, 51, 52, 53, 54, 55, 56, 57, 58, 59, 60, 61, 62, 63, 64, 65, 66, 67, 68, 69, 70, 71, 72, 73, 74, 75, 76, 77, 78, 79, 80, 81, 82, 83, 84, 89, 90, 91, 92, 93, 94, 95, 96, 97, 98] (by decide +kernel) (by decide +kernel)
set_option maxRecDepth 20000 in
theorem gX1_code_X1_codes : GoodIn wsX1_code (wsV RX1 127 RX1 yX1_codes wsX1_codes) := goodIn_app (goodIn_of _ (by decide +kernel)) ggX1_code_X1_codes
set_option maxRecDepth 20000 in
theorem ggX1_code_X1_behind : GoodIn wsX1_code wsX1_behind := goodIn_r _ [84, 75, 76, 77, 5, 78, 79, 80, 89, 90, 91, 92, 93, 94, 95, 96, 97, 98] (by decide +kernel) (by decide +kernel)
set_option maxRecDepth 20000 in
theorem gX1_code_X1_behind : GoodIn wsX1_code (wsV RX1 80 RX1 yX1_behind wsX1_behind) := goodIn_app (goodIn_of _ (by decide +kernel)) ggX1_code_X1_behind
set_option maxRecDepth 20000 in
theorem ggX1_code_X1_codeAt : GoodIn wsX1_code wsX1_codeAt := goodIn_r _ [88, 75, 76, 77, 5, 78, 79, 80, 89, 90, 91, 92, 93, 94, 95, 96, 97, 98] (by decide +kernel) (by decide +kernel)
set_option maxRecDepth 20000 in
theorem gX1_code_X1_codeAt : GoodIn wsX1_code (wsV RX1 124 RX1 yX1_codeAt wsX1_codeAt) := goodIn_app (goodIn_of _ (by decide +kernel)) ggX1_code_X1_codeAt
theorem dX1_code_0 : decode cX1_code 0 = .ok (.iload_n 2, 1) := by decide +kernel
theorem dX1_code_1 : decode cX1_code 1 = .ok (.ifCond .lt 12, 3) := by decide +kernel
theorem dX1_code_4 : decode cX1_code 4 = .ok (.iload_n 2, 1) := by decide +kernel
theorem dX1_code_5 : decode cX1_code 5 = .ok (.aload_n 0, 1) := by decide +kernel
theorem dX1_code_6 : decode cX1_code 6 = .ok (.iload_n 1, 1) := by decide +kernel
theorem dX1_code_7 : decode cX1_code 7 = .ok (.invokevirtual 127, 3) := by decide +kernel
theorem dX1_code_10 : decode cX1_code 10 = .ok (.if_icmp .lt 5, 3) := by decide +kernel
theorem dX1_code_13 : decode cX1_code 13 = .ok (.iconst (-1), 1) := by decide +kernel
theorem dX1_code_14 : decode cX1_code 14 = .ok (.ireturn, 1) := by decide +kernel
theorem dX1_code_15 : decode cX1_code 15 = .ok (.aload_n 0, 1) := by decide +kernel
theorem dX1_code_16 : decode cX1_code 16 = .ok (.getfield 20, 3) := by decide +kernel
theorem dX1_code_19 : decode cX1_code 19 = .ok (.iload_n 1, 1) := by decide +kernel
theorem dX1_code_20 : decode cX1_code 20 = .ok (.iaload, 1) := by decide +kernel
theorem dX1_code_21 : decode cX1_code 21 = .ok (.iconst 1, 1) := by decide +kernel
theorem dX1_code_22 : decode cX1_code 22 = .ok (.iadd, 1) := by decide +kernel
theorem dX1_code_23 : decode cX1_code 23 = .ok (.istore_n 3, 1) := by decide +kernel
theorem dX1_code_24 : decode cX1_code 24 = .ok (.iconst 0, 1) := by decide +kernel
theorem dX1_code_25 : decode cX1_code 25 = .ok (.istore 4, 2) := by decide +kernel
theorem dX1_code_27 : decode cX1_code 27 = .ok (.iload 4, 2) := by decide +kernel
theorem dX1_code_29 : decode cX1_code 29 = .ok (.iload_n 2, 1) := by decide +kernel
theorem dX1_code_30 : decode cX1_code 30 = .ok (.if_icmp .ge 17, 3) := by decide +kernel
theorem dX1_code_33 : decode cX1_code 33 = .ok (.aload_n 0, 1) := by decide +kernel
theorem dX1_code_34 : decode cX1_code 34 = .ok (.iload_n 3, 1) := by decide +kernel
theorem dX1_code_35 : decode cX1_code 35 = .ok (.bipush 34, 2) := by decide +kernel
theorem dX1_code_37 : decode cX1_code 37 = .ok (.invokevirtual 80, 3) := by decide +kernel
theorem dX1_code_40 : decode cX1_code 40 = .ok (.istore_n 3, 1) := by decide +kernel
theorem dX1_code_41 : decode cX1_code 41 = .ok (.iinc 4 1, 3) := by decide +kernel
theorem dX1_code_44 : decode cX1_code 44 = .ok (.goto (-17), 3) := by decide +kernel
theorem dX1_code_47 : decode cX1_code 47 = .ok (.aload_n 0, 1) := by decide +kernel
theorem dX1_code_48 : decode cX1_code 48 = .ok (.iload_n 3, 1) := by decide +kernel
theorem dX1_code_49 : decode cX1_code 49 = .ok (.invokevirtual 124, 3) := by decide +kernel
theorem dX1_code_52 : decode cX1_code 52 = .ok (.ireturn, 1) := by decide +kernel
set_option maxRecDepth 20000 in
theorem ggX1_same_X1_isToken : GoodIn wsX1_same wsX1_isToken := goodIn_r _ [7, 8, 14, 15, 16, 17, 18, 19, 20, 21, 22, 23] (by decide +kernel) (by decide +kernel)
set_option maxRecDepth 20000 in
theorem gX1_same_X1_isToken : GoodIn wsX1_same (wsV RX1 112 RX1 yX1_isToken wsX1_isToken) := goodIn_app (goodIn_of _ (by decide +kernel)) ggX1_same_X1_isToken
set_option maxRecDepth 20000 in
theorem ggX1_same_X1_length : GoodIn wsX1_same wsX1_length := goodIn_r _ [12, 13, 2, 3, 4, 5, 6, 7, 8, 14, 15, 16, 17, 18, 19, 20, 21, 22, 23] (by decide +kernel) (by decide +kernel)
set_option maxRecDepth 20000 in
theorem gX1_same_X1_length : GoodIn wsX1_same (wsV RX1 130 RX1 yX1_length wsX1_length) := goodIn_app (goodIn_of _ (by decide +kernel)) ggX1_same_X1_length
theorem dX1_same_0 : decode cX1_same 0 = .ok (.aload_n 0, 1) := by decide +kernel
theorem dX1_same_1 : decode cX1_same 1 = .ok (.iload_n 1, 1) := by decide +kernel
theorem dX1_same_2 : decode cX1_same 2 = .ok (.invokevirtual 112, 3) := by decide +kernel
theorem dX1_same_5 : decode cX1_same 5 = .ok (.ifCond .eq 24, 3) := by decide +kernel
theorem dX1_same_8 : decode cX1_same 8 = .ok (.aload_n 0, 1) := by decide +kernel
theorem dX1_same_9 : decode cX1_same 9 = .ok (.iload_n 2, 1) := by decide +kernel
theorem dX1_same_10 : decode cX1_same 10 = .ok (.invokevirtual 112, 3) := by decide +kernel
theorem dX1_same_13 : decode cX1_same 13 = .ok (.ifCond .eq 16, 3) := by decide +kernel
theorem dX1_same_16 : decode cX1_same 16 = .ok (.aload_n 0, 1) := by decide +kernel
theorem dX1_same_17 : decode cX1_same 17 = .ok (.iload_n 1, 1) := by decide +kernel
theorem dX1_same_18 : decode cX1_same 18 = .ok (.invokevirtual 130, 3) := by decide +kernel
theorem dX1_same_21 : decode cX1_same 21 = .ok (.aload_n 0, 1) := by decide +kernel
theorem dX1_same_22 : decode cX1_same 22 = .ok (.iload_n 2, 1) := by decide +kernel
theorem dX1_same_23 : decode cX1_same 23 = .ok (.invokevirtual 130, 3) := by decide +kernel
theorem dX1_same_26 : decode cX1_same 26 = .ok (.if_icmp .eq 5, 3) := by decide +kernel
theorem dX1_same_29 : decode cX1_same 29 = .ok (.iconst 0, 1) := by decide +kernel
theorem dX1_same_30 : decode cX1_same 30 = .ok (.ireturn, 1) := by decide +kernel
theorem dX1_same_31 : decode cX1_same 31 = .ok (.iconst 0, 1) := by decide +kernel
theorem dX1_same_32 : decode cX1_same 32 = .ok (.istore_n 3, 1) := by decide +kernel
theorem dX1_same_33 : decode cX1_same 33 = .ok (.iload_n 3, 1) := by decide +kernel
theorem dX1_same_34 : decode cX1_same 34 = .ok (.aload_n 0, 1) := by decide +kernel
theorem dX1_same_35 : decode cX1_same 35 = .ok (.iload_n 1, 1) := by decide +kernel
theorem dX1_same_36 : decode cX1_same 36 = .ok (.invokevirtual 130, 3) := by decide +kernel
theorem dX1_same_39 : decode cX1_same 39 = .ok (.if_icmp .ge 40, 3) := by decide +kernel
theorem dX1_same_42 : decode cX1_same 42 = .ok (.aload_n 0, 1) := by decide +kernel
theorem dX1_same_43 : decode cX1_same 43 = .ok (.getfield 13, 3) := by decide +kernel
theorem dX1_same_46 : decode cX1_same 46 = .ok (.aload_n 0, 1) := by decide +kernel
theorem dX1_same_47 : decode cX1_same 47 = .ok (.getfield 20, 3) := by decide +kernel
theorem dX1_same_50 : decode cX1_same 50 = .ok (.iload_n 1, 1) := by decide +kernel
theorem dX1_same_51 : decode cX1_same 51 = .ok (.iaload, 1) := by decide +kernel
theorem dX1_same_52 : decode cX1_same 52 = .ok (.iload_n 3, 1) := by decide +kernel
theorem dX1_same_53 : decode cX1_same 53 = .ok (.iadd, 1) := by decide +kernel
theorem dX1_same_54 : decode cX1_same 54 = .ok (.baload, 1) := by decide +kernel
theorem dX1_same_55 : decode cX1_same 55 = .ok (.aload_n 0, 1) := by decide +kernel
theorem dX1_same_56 : decode cX1_same 56 = .ok (.getfield 13, 3) := by decide +kernel
theorem dX1_same_59 : decode cX1_same 59 = .ok (.aload_n 0, 1) := by decide +kernel
theorem dX1_same_60 : decode cX1_same 60 = .ok (.getfield 20, 3) := by decide +kernel
theorem dX1_same_63 : decode cX1_same 63 = .ok (.iload_n 2, 1) := by decide +kernel
theorem dX1_same_64 : decode cX1_same 64 = .ok (.iaload, 1) := by decide +kernel
theorem dX1_same_65 : decode cX1_same 65 = .ok (.iload_n 3, 1) := by decide +kernel
theorem dX1_same_66 : decode cX1_same 66 = .ok (.iadd, 1) := by decide +kernel
theorem dX1_same_67 : decode cX1_same 67 = .ok (.baload, 1) := by decide +kernel
theorem dX1_same_68 : decode cX1_same 68 = .ok (.if_icmp .eq 5, 3) := by decide +kernel
theorem dX1_same_71 : decode cX1_same 71 = .ok (.iconst 0, 1) := by decide +kernel
theorem dX1_same_72 : decode cX1_same 72 = .ok (.ireturn, 1) := by decide +kernel
theorem dX1_same_73 : decode cX1_same 73 = .ok (.iinc 3 1, 3) := by decide +kernel
theorem dX1_same_76 : decode cX1_same 76 = .ok (.goto (-43), 3) := by decide +kernel
theorem dX1_same_79 : decode cX1_same 79 = .ok (.iconst 1, 1) := by decide +kernel
theorem dX1_same_80 : decode cX1_same 80 = .ok (.ireturn, 1) := by decide +kernel
end
section
theorem dJ9_min_f86c9_0 : decode cJ9_min_f86c9 0 = .ok (.lload_n 0, 1) := by decide +kernel
theorem dJ9_min_f86c9_1 : decode cJ9_min_f86c9 1 = .ok (.lload_n 2, 1) := by decide +kernel
theorem dJ9_min_f86c9_2 : decode cJ9_min_f86c9 2 = .ok (.lcmp, 1) := by decide +kernel
theorem dJ9_min_f86c9_3 : decode cJ9_min_f86c9 3 = .ok (.ifCond .gt 7, 3) := by decide +kernel
theorem dJ9_min_f86c9_6 : decode cJ9_min_f86c9 6 = .ok (.lload_n 0, 1) := by decide +kernel
theorem dJ9_min_f86c9_7 : decode cJ9_min_f86c9 7 = .ok (.goto 4, 3) := by decide +kernel
theorem dJ9_min_f86c9_10 : decode cJ9_min_f86c9 10 = .ok (.lload_n 2, 1) := by decide +kernel
theorem dJ9_min_f86c9_11 : decode cJ9_min_f86c9 11 = .ok (.lreturn, 1) := by decide +kernel
set_option maxRecDepth 20000 in
theorem ggJ0_length_8abf5_J0_coder_7d493 : GoodIn wsJ0_length_8abf5 wsJ0_coder_7d493 := goodIn_r _ [6, 7, 8] (by decide +kernel) (by decide +kernel)
set_option maxRecDepth 20000 in
theorem gJ0_length_8abf5_J0_coder_7d493 : GoodIn wsJ0_length_8abf5 (wsV RJ0 335 RJ0 yJ0_coder_7d493 wsJ0_coder_7d493) := goodIn_app (goodIn_of _ (by decide +kernel)) ggJ0_length_8abf5_J0_coder_7d493
theorem dJ0_length_8abf5_0 : decode cJ0_length_8abf5 0 = .ok (.aload_n 0, 1) := by decide +kernel
theorem dJ0_length_8abf5_1 : decode cJ0_length_8abf5 1 = .ok (.getfield 9, 3) := by decide +kernel
theorem dJ0_length_8abf5_4 : decode cJ0_length_8abf5 4 = .ok (.arraylength, 1) := by decide +kernel
theorem dJ0_length_8abf5_5 : decode cJ0_length_8abf5 5 = .ok (.aload_n 0, 1) := by decide +kernel
theorem dJ0_length_8abf5_6 : decode cJ0_length_8abf5 6 = .ok (.invokevirtual 335, 3) := by decide +kernel
theorem dJ0_length_8abf5_9 : decode cJ0_length_8abf5 9 = .ok (.ishr, 1) := by decide +kernel
theorem dJ0_length_8abf5_10 : decode cJ0_length_8abf5 10 = .ok (.ireturn, 1) := by decide +kernel
set_option maxRecDepth 20000 in
theorem ggJ0_charAt_5068e_J0_isLatin1_aae02 : GoodIn wsJ0_charAt_5068e wsJ0_isLatin1_aae02 := goodIn_r _ [6, 7, 8] (by decide +kernel) (by decide +kernel)
set_option maxRecDepth 20000 in
theorem gJ0_charAt_5068e_J0_isLatin1_aae02 : GoodIn wsJ0_charAt_5068e (wsV RJ0 492 RJ0 yJ0_isLatin1_aae02 wsJ0_isLatin1_aae02) := goodIn_app (goodIn_of _ (by decide +kernel)) ggJ0_charAt_5068e_J0_isLatin1_aae02
set_option maxRecDepth 20000 in
theorem ggJ0_charAt_5068e_J1_charAt_3b067 : GoodIn wsJ0_charAt_5068e wsJ1_charAt_3b067 := goodIn_r _ [12, 13, 14, 5, 15, 16, 17, 18, 19, 20] (by decide +kernel) (by decide +kernel)
set_option maxRecDepth 20000 in
theorem gJ0_charAt_5068e_J1_charAt_3b067 : GoodIn wsJ0_charAt_5068e (va_wsS RJ0 495 yJ1_charAt_3b067 wsJ1_charAt_3b067) := goodIn_app (goodIn_of _ (by decide +kernel)) ggJ0_charAt_5068e_J1_charAt_3b067
set_option maxRecDepth 20000 in
theorem ggJ0_charAt_5068e_J2_charAt_3b067 : GoodIn wsJ0_charAt_5068e wsJ2_charAt_3b067 := goodIn_r _ [24, 25, 26, 23, 27, 28, 29, 30, 31, 14, 5, 15, 16, 17, 18, 19, 20, 32, 33, 34, 35, 36, 37] (by decide +kernel) (by decide +kernel)
set_option maxRecDepth 20000 in
theorem gJ0_charAt_5068e_J2_charAt_3b067 : GoodIn wsJ0_charAt_5068e (va_wsS RJ0 498 yJ2_charAt_3b067 wsJ2_charAt_3b067) := goodIn_app (goodIn_of _ (by decide +kernel)) ggJ0_charAt_5068e_J2_charAt_3b067
theorem dJ0_charAt_5068e_0 : decode cJ0_charAt_5068e 0 = .ok (.aload_n 0, 1) := by decide +kernel
theorem dJ0_charAt_5068e_1 : decode cJ0_charAt_5068e 1 = .ok (.invokevirtual 492, 3) := by decide +kernel
theorem dJ0_charAt_5068e_4 : decode cJ0_charAt_5068e 4 = .ok (.ifCond .eq 12, 3) := by decide +kernel
theorem dJ0_charAt_5068e_7 : decode cJ0_charAt_5068e 7 = .ok (.aload_n 0, 1) := by decide +kernel
theorem dJ0_charAt_5068e_8 : decode cJ0_charAt_5068e 8 = .ok (.getfield 9, 3) := by decide +kernel
theorem dJ0_charAt_5068e_11 : decode cJ0_charAt_5068e 11 = .ok (.iload_n 1, 1) := by decide +kernel
theorem dJ0_charAt_5068e_12 : decode cJ0_charAt_5068e 12 = .ok (.invokestatic 495, 3) := by decide +kernel
theorem dJ0_charAt_5068e_15 : decode cJ0_charAt_5068e 15 = .ok (.ireturn, 1) := by decide +kernel
theorem dJ0_charAt_5068e_16 : decode cJ0_charAt_5068e 16 = .ok (.aload_n 0, 1) := by decide +kernel
theorem dJ0_charAt_5068e_17 : decode cJ0_charAt_5068e 17 = .ok (.getfield 9, 3) := by decide +kernel
theorem dJ0_charAt_5068e_20 : decode cJ0_charAt_5068e 20 = .ok (.iload_n 1, 1) := by decide +kernel
theorem dJ0_charAt_5068e_21 : decode cJ0_charAt_5068e 21 = .ok (.invokestatic 498, 3) := by decide +kernel
theorem dJ0_charAt_5068e_24 : decode cJ0_charAt_5068e 24 = .ok (.ireturn, 1) := by decide +kernel
theorem dJ0_coder_7d493_0 : decode cJ0_coder_7d493 0 = .ok (.getstatic 38, 3) := by decide +kernel
theorem dJ0_coder_7d493_3 : decode cJ0_coder_7d493 3 = .ok (.ifCond .eq 10, 3) := by decide +kernel
theorem dJ0_coder_7d493_6 : decode cJ0_coder_7d493 6 = .ok (.aload_n 0, 1) := by decide +kernel
theorem dJ0_coder_7d493_7 : decode cJ0_coder_7d493 7 = .ok (.getfield 15, 3) := by decide +kernel
theorem dJ0_coder_7d493_10 : decode cJ0_coder_7d493 10 = .ok (.goto 4, 3) := by decide +kernel
theorem dJ0_coder_7d493_13 : decode cJ0_coder_7d493 13 = .ok (.iconst 1, 1) := by decide +kernel
theorem dJ0_coder_7d493_14 : decode cJ0_coder_7d493 14 = .ok (.ireturn, 1) := by decide +kernel
theorem dJ0_isLatin1_aae02_0 : decode cJ0_isLatin1_aae02 0 = .ok (.getstatic 38, 3) := by decide +kernel
theorem dJ0_isLatin1_aae02_3 : decode cJ0_isLatin1_aae02 3 = .ok (.ifCond .eq 14, 3) := by decide +kernel
theorem dJ0_isLatin1_aae02_6 : decode cJ0_isLatin1_aae02 6 = .ok (.aload_n 0, 1) := by decide +kernel
theorem dJ0_isLatin1_aae02_7 : decode cJ0_isLatin1_aae02 7 = .ok (.getfield 15, 3) := by decide +kernel
theorem dJ0_isLatin1_aae02_10 : decode cJ0_isLatin1_aae02 10 = .ok (.ifCond .ne 7, 3) := by decide +kernel
theorem dJ0_isLatin1_aae02_13 : decode cJ0_isLatin1_aae02 13 = .ok (.iconst 1, 1) := by decide +kernel
theorem dJ0_isLatin1_aae02_14 : decode cJ0_isLatin1_aae02 14 = .ok (.goto 4, 3) := by decide +kernel
theorem dJ0_isLatin1_aae02_17 : decode cJ0_isLatin1_aae02 17 = .ok (.iconst 0, 1) := by decide +kernel
theorem dJ0_isLatin1_aae02_18 : decode cJ0_isLatin1_aae02 18 = .ok (.ireturn, 1) := by decide +kernel
set_option maxRecDepth 20000 in
theorem ggJ0_checkIndex_df160_J3_checkIndex_8e157 : GoodIn wsJ0_checkIndex_df160 wsJ3_checkIndex_8e157 := goodIn_r _ [5] (by decide +kernel) (by decide +kernel)
set_option maxRecDepth 20000 in
theorem gJ0_checkIndex_df160_J3_checkIndex_8e157 : GoodIn wsJ0_checkIndex_df160 (va_wsS RJ0 1059 yJ3_checkIndex_8e157 wsJ3_checkIndex_8e157) := goodIn_app (goodIn_of _ (by decide +kernel)) ggJ0_checkIndex_df160_J3_checkIndex_8e157
theorem dJ0_checkIndex_df160_0 : decode cJ0_checkIndex_df160 0 = .ok (.iload_n 0, 1) := by decide +kernel
theorem dJ0_checkIndex_df160_1 : decode cJ0_checkIndex_df160 1 = .ok (.iload_n 1, 1) := by decide +kernel
theorem dJ0_checkIndex_df160_2 : decode cJ0_checkIndex_df160 2 = .ok (.getstatic 1053, 3) := by decide +kernel
theorem dJ0_checkIndex_df160_5 : decode cJ0_checkIndex_df160 5 = .ok (.invokestatic 1059, 3) := by decide +kernel
theorem dJ0_checkIndex_df160_8 : decode cJ0_checkIndex_df160 8 = .ok (.pop, 1) := by decide +kernel
theorem dJ0_checkIndex_df160_9 : decode cJ0_checkIndex_df160 9 = .ok (.return_, 1) := by decide +kernel
set_option maxRecDepth 20000 in
theorem ggJ1_charAt_3b067_J0_checkIndex_df160 : GoodIn wsJ1_charAt_3b067 wsJ0_checkIndex_df160 := goodIn_r _ [4, 5, 6, 7, 8, 9] (by decide +kernel) (by decide +kernel)
set_option maxRecDepth 20000 in
theorem gJ1_charAt_3b067_J0_checkIndex_df160 : GoodIn wsJ1_charAt_3b067 (va_wsS RJ1 9 yJ0_checkIndex_df160 wsJ0_checkIndex_df160) := goodIn_app (goodIn_of _ (by decide +kernel)) ggJ1_charAt_3b067_J0_checkIndex_df160
theorem dJ1_charAt_3b067_0 : decode cJ1_charAt_3b067 0 = .ok (.iload_n 1, 1) := by decide +kernel
theorem dJ1_charAt_3b067_1 : decode cJ1_charAt_3b067 1 = .ok (.aload_n 0, 1) := by decide +kernel
theorem dJ1_charAt_3b067_2 : decode cJ1_charAt_3b067 2 = .ok (.arraylength, 1) := by decide +kernel
theorem dJ1_charAt_3b067_3 : decode cJ1_charAt_3b067 3 = .ok (.invokestatic 9, 3) := by decide +kernel
theorem dJ1_charAt_3b067_6 : decode cJ1_charAt_3b067 6 = .ok (.aload_n 0, 1) := by decide +kernel
theorem dJ1_charAt_3b067_7 : decode cJ1_charAt_3b067 7 = .ok (.iload_n 1, 1) := by decide +kernel
theorem dJ1_charAt_3b067_8 : decode cJ1_charAt_3b067 8 = .ok (.baload, 1) := by decide +kernel
theorem dJ1_charAt_3b067_9 : decode cJ1_charAt_3b067 9 = .ok (.sipush 255, 3) := by decide +kernel
theorem dJ1_charAt_3b067_12 : decode cJ1_charAt_3b067 12 = .ok (.iand, 1) := by decide +kernel
theorem dJ1_charAt_3b067_13 : decode cJ1_charAt_3b067 13 = .ok (.i2c, 1) := by decide +kernel
theorem dJ1_charAt_3b067_14 : decode cJ1_charAt_3b067 14 = .ok (.ireturn, 1) := by decide +kernel
set_option maxRecDepth 20000 in
theorem ggJ2_getChar_3b067_J2_length_9d52b : GoodIn wsJ2_getChar_3b067 wsJ2_length_9d52b := goodIn_r _ [7] (by decide +kernel) (by decide +kernel)
set_option maxRecDepth 20000 in
theorem gJ2_getChar_3b067_J2_length_9d52b : GoodIn wsJ2_getChar_3b067 (va_wsS RJ2 48 yJ2_length_9d52b wsJ2_length_9d52b) := goodIn_app (goodIn_of _ (by decide +kernel)) ggJ2_getChar_3b067_J2_length_9d52b
theorem dJ2_getChar_3b067_0 : decode cJ2_getChar_3b067 0 = .ok (.getstatic 44, 3) := by decide +kernel
theorem dJ2_getChar_3b067_3 : decode cJ2_getChar_3b067 3 = .ok (.ifCond .ne 25, 3) := by decide +kernel
theorem dJ2_getChar_3b067_6 : decode cJ2_getChar_3b067 6 = .ok (.iload_n 1, 1) := by decide +kernel
theorem dJ2_getChar_3b067_7 : decode cJ2_getChar_3b067 7 = .ok (.ifCond .lt 11, 3) := by decide +kernel
theorem dJ2_getChar_3b067_10 : decode cJ2_getChar_3b067 10 = .ok (.iload_n 1, 1) := by decide +kernel
theorem dJ2_getChar_3b067_11 : decode cJ2_getChar_3b067 11 = .ok (.aload_n 0, 1) := by decide +kernel
theorem dJ2_getChar_3b067_12 : decode cJ2_getChar_3b067 12 = .ok (.invokestatic 48, 3) := by decide +kernel
theorem dJ2_getChar_3b067_15 : decode cJ2_getChar_3b067 15 = .ok (.if_icmp .lt 13, 3) := by decide +kernel
theorem dJ2_getChar_3b067_18 : decode cJ2_getChar_3b067 18 = .ok (.new 52, 3) := by decide +kernel
theorem dJ2_getChar_3b067_21 : decode cJ2_getChar_3b067 21 = .ok (.dup, 1) := by decide +kernel
theorem dJ2_getChar_3b067_22 : decode cJ2_getChar_3b067 22 = .ok (.ldc 54, 2) := by decide +kernel
theorem dJ2_getChar_3b067_24 : decode cJ2_getChar_3b067 24 = .ok (.invokespecial 56, 3) := by decide +kernel
theorem dJ2_getChar_3b067_27 : decode cJ2_getChar_3b067 27 = .ok (.athrow, 1) := by decide +kernel
theorem dJ2_getChar_3b067_28 : decode cJ2_getChar_3b067 28 = .ok (.iload_n 1, 1) := by decide +kernel
theorem dJ2_getChar_3b067_29 : decode cJ2_getChar_3b067 29 = .ok (.iconst 1, 1) := by decide +kernel
theorem dJ2_getChar_3b067_30 : decode cJ2_getChar_3b067 30 = .ok (.ishl, 1) := by decide +kernel
theorem dJ2_getChar_3b067_31 : decode cJ2_getChar_3b067 31 = .ok (.istore_n 1, 1) := by decide +kernel
theorem dJ2_getChar_3b067_32 : decode cJ2_getChar_3b067 32 = .ok (.aload_n 0, 1) := by decide +kernel
theorem dJ2_getChar_3b067_33 : decode cJ2_getChar_3b067 33 = .ok (.iload_n 1, 1) := by decide +kernel
theorem dJ2_getChar_3b067_34 : decode cJ2_getChar_3b067 34 = .ok (.iinc 1 1, 3) := by decide +kernel
theorem dJ2_getChar_3b067_37 : decode cJ2_getChar_3b067 37 = .ok (.baload, 1) := by decide +kernel
theorem dJ2_getChar_3b067_38 : decode cJ2_getChar_3b067 38 = .ok (.sipush 255, 3) := by decide +kernel
theorem dJ2_getChar_3b067_41 : decode cJ2_getChar_3b067 41 = .ok (.iand, 1) := by decide +kernel
theorem dJ2_getChar_3b067_42 : decode cJ2_getChar_3b067 42 = .ok (.getstatic 59, 3) := by decide +kernel
theorem dJ2_getChar_3b067_45 : decode cJ2_getChar_3b067 45 = .ok (.ishl, 1) := by decide +kernel
theorem dJ2_getChar_3b067_46 : decode cJ2_getChar_3b067 46 = .ok (.aload_n 0, 1) := by decide +kernel
theorem dJ2_getChar_3b067_47 : decode cJ2_getChar_3b067 47 = .ok (.iload_n 1, 1) := by decide +kernel
theorem dJ2_getChar_3b067_48 : decode cJ2_getChar_3b067 48 = .ok (.baload, 1) := by decide +kernel
theorem dJ2_getChar_3b067_49 : decode cJ2_getChar_3b067 49 = .ok (.sipush 255, 3) := by decide +kernel
theorem dJ2_getChar_3b067_52 : decode cJ2_getChar_3b067 52 = .ok (.iand, 1) := by decide +kernel
theorem dJ2_getChar_3b067_53 : decode cJ2_getChar_3b067 53 = .ok (.getstatic 63, 3) := by decide +kernel
theorem dJ2_getChar_3b067_56 : decode cJ2_getChar_3b067 56 = .ok (.ishl, 1) := by decide +kernel
theorem dJ2_getChar_3b067_57 : decode cJ2_getChar_3b067 57 = .ok (.ior, 1) := by decide +kernel
theorem dJ2_getChar_3b067_58 : decode cJ2_getChar_3b067 58 = .ok (.i2c, 1) := by decide +kernel
theorem dJ2_getChar_3b067_59 : decode cJ2_getChar_3b067 59 = .ok (.ireturn, 1) := by decide +kernel
theorem dJ2_length_9d52b_0 : decode cJ2_length_9d52b 0 = .ok (.aload_n 0, 1) := by decide +kernel
theorem dJ2_length_9d52b_1 : decode cJ2_length_9d52b 1 = .ok (.arraylength, 1) := by decide +kernel
theorem dJ2_length_9d52b_2 : decode cJ2_length_9d52b 2 = .ok (.iconst 1, 1) := by decide +kernel
theorem dJ2_length_9d52b_3 : decode cJ2_length_9d52b 3 = .ok (.ishr, 1) := by decide +kernel
theorem dJ2_length_9d52b_4 : decode cJ2_length_9d52b 4 = .ok (.ireturn, 1) := by decide +kernel
set_option maxRecDepth 20000 in
theorem ggJ2_charAt_3b067_J2_checkIndex_2214a : GoodIn wsJ2_charAt_3b067 wsJ2_checkIndex_2214a := goodIn_r _ [4, 5, 6, 3, 7, 8, 9, 10, 11, 12, 13, 14, 15, 16] (by decide +kernel) (by decide +kernel)
set_option maxRecDepth 20000 in
theorem gJ2_charAt_3b067_J2_checkIndex_2214a : GoodIn wsJ2_charAt_3b067 (va_wsS RJ2 67 yJ2_checkIndex_2214a wsJ2_checkIndex_2214a) := goodIn_app (goodIn_of _ (by decide +kernel)) ggJ2_charAt_3b067_J2_checkIndex_2214a
set_option maxRecDepth 20000 in
theorem ggJ2_charAt_3b067_J2_getChar_3b067 : GoodIn wsJ2_charAt_3b067 wsJ2_getChar_3b067 := goodIn_r _ [19, 20, 21, 22, 5, 6, 3, 7] (by decide +kernel) (by decide +kernel)
set_option maxRecDepth 20000 in
theorem gJ2_charAt_3b067_J2_getChar_3b067 : GoodIn wsJ2_charAt_3b067 (va_wsS RJ2 71 yJ2_getChar_3b067 wsJ2_getChar_3b067) := goodIn_app (goodIn_of _ (by decide +kernel)) ggJ2_charAt_3b067_J2_getChar_3b067
theorem dJ2_charAt_3b067_0 : decode cJ2_charAt_3b067 0 = .ok (.iload_n 1, 1) := by decide +kernel
theorem dJ2_charAt_3b067_1 : decode cJ2_charAt_3b067 1 = .ok (.aload_n 0, 1) := by decide +kernel
theorem dJ2_charAt_3b067_2 : decode cJ2_charAt_3b067 2 = .ok (.invokestatic 67, 3) := by decide +kernel
theorem dJ2_charAt_3b067_5 : decode cJ2_charAt_3b067 5 = .ok (.aload_n 0, 1) := by decide +kernel
theorem dJ2_charAt_3b067_6 : decode cJ2_charAt_3b067 6 = .ok (.iload_n 1, 1) := by decide +kernel
theorem dJ2_charAt_3b067_7 : decode cJ2_charAt_3b067 7 = .ok (.invokestatic 71, 3) := by decide +kernel
theorem dJ2_charAt_3b067_10 : decode cJ2_charAt_3b067 10 = .ok (.ireturn, 1) := by decide +kernel
set_option maxRecDepth 20000 in
theorem ggJ2_checkIndex_2214a_J2_length_9d52b : GoodIn wsJ2_checkIndex_2214a wsJ2_length_9d52b := goodIn_r _ [4] (by decide +kernel) (by decide +kernel)
set_option maxRecDepth 20000 in
theorem gJ2_checkIndex_2214a_J2_length_9d52b : GoodIn wsJ2_checkIndex_2214a (va_wsS RJ2 48 yJ2_length_9d52b wsJ2_length_9d52b) := goodIn_app (goodIn_of _ (by decide +kernel)) ggJ2_checkIndex_2214a_J2_length_9d52b
set_option maxRecDepth 20000 in
theorem ggJ2_checkIndex_2214a_J0_checkIndex_df160 : GoodIn wsJ2_checkIndex_2214a wsJ0_checkIndex_df160 := goodIn_r _ [8, 9, 10, 11, 12, 13] (by decide +kernel) (by decide +kernel)
set_option maxRecDepth 20000 in
theorem gJ2_checkIndex_2214a_J0_checkIndex_df160 : GoodIn wsJ2_checkIndex_2214a (va_wsS RJ2 414 yJ0_checkIndex_df160 wsJ0_checkIndex_df160) := goodIn_app (goodIn_of _ (by decide +kernel)) ggJ2_checkIndex_2214a_J0_checkIndex_df160
theorem dJ2_checkIndex_2214a_0 : decode cJ2_checkIndex_2214a 0 = .ok (.iload_n 0, 1) := by decide +kernel
theorem dJ2_checkIndex_2214a_1 : decode cJ2_checkIndex_2214a 1 = .ok (.aload_n 1, 1) := by decide +kernel
theorem dJ2_checkIndex_2214a_2 : decode cJ2_checkIndex_2214a 2 = .ok (.invokestatic 48, 3) := by decide +kernel
theorem dJ2_checkIndex_2214a_5 : decode cJ2_checkIndex_2214a 5 = .ok (.invokestatic 414, 3) := by decide +kernel
theorem dJ2_checkIndex_2214a_8 : decode cJ2_checkIndex_2214a 8 = .ok (.return_, 1) := by decide +kernel
theorem dJ3_checkIndex_8e157_0 : decode cJ3_checkIndex_8e157 0 = .ok (.iload_n 0, 1) := by decide +kernel
theorem dJ3_checkIndex_8e157_1 : decode cJ3_checkIndex_8e157 1 = .ok (.ifCond .lt 8, 3) := by decide +kernel
theorem dJ3_checkIndex_8e157_4 : decode cJ3_checkIndex_8e157 4 = .ok (.iload_n 0, 1) := by decide +kernel
theorem dJ3_checkIndex_8e157_5 : decode cJ3_checkIndex_8e157 5 = .ok (.iload_n 1, 1) := by decide +kernel
theorem dJ3_checkIndex_8e157_6 : decode cJ3_checkIndex_8e157 6 = .ok (.if_icmp .lt 10, 3) := by decide +kernel
theorem dJ3_checkIndex_8e157_9 : decode cJ3_checkIndex_8e157 9 = .ok (.aload_n 2, 1) := by decide +kernel
theorem dJ3_checkIndex_8e157_10 : decode cJ3_checkIndex_8e157 10 = .ok (.iload_n 0, 1) := by decide +kernel
theorem dJ3_checkIndex_8e157_11 : decode cJ3_checkIndex_8e157 11 = .ok (.iload_n 1, 1) := by decide +kernel
theorem dJ3_checkIndex_8e157_12 : decode cJ3_checkIndex_8e157 12 = .ok (.invokestatic 95, 3) := by decide +kernel
theorem dJ3_checkIndex_8e157_15 : decode cJ3_checkIndex_8e157 15 = .ok (.athrow, 1) := by decide +kernel
theorem dJ3_checkIndex_8e157_16 : decode cJ3_checkIndex_8e157 16 = .ok (.iload_n 0, 1) := by decide +kernel
theorem dJ3_checkIndex_8e157_17 : decode cJ3_checkIndex_8e157 17 = .ok (.ireturn, 1) := by decide +kernel
set_option maxRecDepth 20000 in
theorem ggL_law_X0_init : GoodIn wsL_law wsX0_init := goodIn_r _ [8, 9, 10, 11, 12, 13, 14, 15, 16, 17, 18, 19, 20, 21, 22, 23, 24, 25, 26, 409, 410, 411, 412, 413, 414, 415, 416, 417, 418, 419, 420, 421] (by decide +kernel) (by decide +kernel)
set_option maxRecDepth 20000 in
theorem gL_law_X0_init : GoodIn wsL_law (wsX0_init) := ggL_law_X0_init
set_option maxRecDepth 20000 in
theorem ggL_law_X1_init : GoodIn wsL_law wsX1_init := goodIn_r _ [29, 30, 10, 11, 12, 31, 32, 15, 33, 34, 35, 36, 422, 423, 424, 425, 426, 427, 428, 429, 430, 431] (by decide +kernel) (by decide +kernel)
set_option maxRecDepth 20000 in
theorem gL_law_X1_init : GoodIn wsL_law (wsX1_init) := ggL_law_X1_init
set_option maxRecDepth 20000 in
theorem ggL_law_X0_feed : GoodIn wsL_law wsX0_feed := goodIn_r _ [40, 21, 22, 41, 42, 43, 44, 2, 45, 46, 47, 48, 49, 13, 409, 410, 411, 412, 413, 414, 415, 416, 417, 418, 419, 420, 421] (by decide +kernel) (by decide +kernel)
set_option maxRecDepth 20000 in
theorem gL_law_X0_feed : GoodIn wsL_law (wsV RL 13 RX0 yX0_feed wsX0_feed) := goodIn_app (goodIn_of _ (by decide +kernel)) ggL_law_X0_feed
set_option maxRecDepth 20000 in
theorem ggL_law_X1_feed : GoodIn wsL_law wsX1_feed := goodIn_r _ [53, 54, 55, 56, 57, 58, 59, 5, 60, 31, 422, 423, 424, 425, 426, 427, 428, 429, 430, 431] (by decide +kernel) (by decide +kernel)
set_option maxRecDepth 20000 in
theorem gL_law_X1_feed : GoodIn wsL_law (wsV RL 17 RX1 yX1_feed wsX1_feed) := goodIn_app (goodIn_of _ (by decide +kernel)) ggL_law_X1_feed
set_option maxRecDepth 20000 in
theorem ggL_law_X0_end : GoodIn wsL_law wsX0_end := goodIn_r _ [64, 21, 409, 410, 411, 412, 413, 414, 415, 416, 417, 418, 419, 420, 421] (by decide +kernel) (by decide +kernel)
set_option maxRecDepth 20000 in
theorem gL_law_X0_end : GoodIn wsL_law (wsV RL 18 RX0 yX0_end wsX0_end) := goodIn_app (goodIn_of _ (by decide +kernel)) ggL_law_X0_end
set_option maxRecDepth 20000 in
theorem ggL_law_X1_end : GoodIn wsL_law wsX1_end := goodIn_r _ [68, 54, 422, 423, 424, 425, 426, 427, 428, 429, 430, 431] (by decide +kernel) (by decide +kernel)
set_option maxRecDepth 20000 in
theorem gL_law_X1_end : GoodIn wsL_law (wsV RL 22 RX1 yX1_end wsX1_end) := goodIn_app (goodIn_of _ (by decide +kernel)) ggL_law_X1_end
set_option maxRecDepth 20000 in
theorem ggL_law_X0_cut : GoodIn wsL_law wsX0_cut := goodIn_r _ [72, 23, 25, 26, 73, 74, 75, 2, 76, 14, 13, 21, 24, 77, 78, 79, 80, 81, 82, 83, 84, 85, 86, 87, 88, 89, 90, 91, 92, 93, 94, 95, 96, 97, 98, 99, 100, 101, 102, 103, 104, 105, 106, 107, 108, 109, 110, 111, 112, 113, 114, 115, 116, 117, 118, 119, 120, 121, 122, 123, 124, 125, 126, 127, 128, 16, 20, 17, 18, 19, 129, 130, 131, 132, 133, 134, 135, 136, 137, 138, 139, 140, 141, 142, 143, 144, 145, 146, 147, 148, 149, 150, 151, 152, 153, 154, 155, 156, 157, 158, 159, 160, 161, 162, 163, 164, 165, 166, 167, 168, 169, 170, 171, 172, 173, 174, 175, 176, 177, 178, 179, 180, 181, 182, 183, 184, 185, 186, 187, 188, 409, 410, 411, 412, 413, 414, 415, 416, 417, 418, 419, 420, 421] (by decide +kernel) (by decide +kernel)
set_option maxRecDepth 20000 in
theorem gL_law_X0_cut : GoodIn wsL_law (wsV RL 23 RX0 yX0_cut wsX0_cut) := goodIn_app (goodIn_of _ (by decide +kernel)) ggL_law_X0_cut
set_option maxRecDepth 20000 in
theorem ggL_law_X1_cut : GoodIn wsL_law wsX1_cut := goodIn_r _ [192, 54, 193, 32, 31, 194, 36, 33, 34, 35, 195, 196, 197, 5, 198, 199, 200, 201, 202, 203, 204, 205, 206, 207, 208, 209, 210, 211, 212, 213, 214, 215, 216, 217, 218, 219, 220, 221, 222, 223, 224, 225, 226, 227, 228, 229, 230, 231, 232, 233, 234, 235, 236, 237, 238, 239, 240, 241, 242, 243, 244, 245, 246, 247, 248, 249, 250, 251, 252, 253, 254, 255, 256, 257, 258, 259, 260, 261, 262, 263, 264, 265, 266, 267, 268, 269, 270, 271, 272, 273, 274, 275, 276, 277, 278, 279, 280, 281, 282, 283, 284, 285, 286, 287, 288, 289, 290, 291, 292, 293, 294, 295, 296, 297, 422, 423, 424, 425, 426, 427, 428, 429, 430, 431] (by decide +kernel) (by decide +kernel)
set_option maxRecDepth 20000 in
theorem gL_law_X1_cut : GoodIn wsL_law (wsV RL 27 RX1 yX1_cut wsX1_cut) := goodIn_app (goodIn_of _ (by decide +kernel)) ggL_law_X1_cut
set_option maxRecDepth 20000 in
theorem ggL_law_X0_place : GoodIn wsL_law wsX0_place := goodIn_r _ [301, 25, 409, 410, 411, 412, 413, 414, 415, 416, 417, 418, 419, 420, 421] (by decide +kernel) (by decide +kernel)
set_option maxRecDepth 20000 in
theorem gL_law_X0_place : GoodIn wsL_law (wsV RL 28 RX0 yX0_place wsX0_place) := goodIn_app (goodIn_of _ (by decide +kernel)) ggL_law_X0_place
set_option maxRecDepth 20000 in
theorem ggL_law_X1_place : GoodIn wsL_law wsX1_place := goodIn_r _ [305, 36, 422, 423, 424, 425, 426, 427, 428, 429, 430, 431] (by decide +kernel) (by decide +kernel)
set_option maxRecDepth 20000 in
theorem gL_law_X1_place : GoodIn wsL_law (wsV RL 31 RX1 yX1_place wsX1_place) := goodIn_app (goodIn_of _ (by decide +kernel)) ggL_law_X1_place
set_option maxRecDepth 20000 in
theorem ggL_law_X0_tokens : GoodIn wsL_law wsX0_tokens := goodIn_r _ [309, 26, 409, 410, 411, 412, 413, 414, 415, 416, 417, 418, 419, 420, 421] (by decide +kernel) (by decide +kernel)
set_option maxRecDepth 20000 in
theorem gL_law_X0_tokens : GoodIn wsL_law (wsV RL 32 RX0 yX0_tokens wsX0_tokens) := goodIn_app (goodIn_of _ (by decide +kernel)) ggL_law_X0_tokens
set_option maxRecDepth 20000 in
theorem ggL_law_X1_tokens : GoodIn wsL_law wsX1_tokens := goodIn_r _ [313, 194, 422, 423, 424, 425, 426, 427, 428, 429, 430, 431] (by decide +kernel) (by decide +kernel)
set_option maxRecDepth 20000 in
theorem gL_law_X1_tokens : GoodIn wsL_law (wsV RL 35 RX1 yX1_tokens wsX1_tokens) := goodIn_app (goodIn_of _ (by decide +kernel)) ggL_law_X1_tokens
set_option maxRecDepth 20000 in
theorem ggL_law_X0_kind : GoodIn wsL_law wsX0_kind := goodIn_r _ [317, 16, 318, 319, 320, 2, 321, 26, 409, 410, 411, 412, 413, 414, 415, 416, 417, 418, 419, 420, 421] (by decide +kernel) (by decide +kernel)
set_option maxRecDepth 20000 in
theorem gL_law_X0_kind : GoodIn wsL_law (wsV RL 36 RX0 yX0_kind wsX0_kind) := goodIn_app (goodIn_of _ (by decide +kernel)) ggL_law_X0_kind
set_option maxRecDepth 20000 in
theorem ggL_law_X1_kind : GoodIn wsL_law wsX1_kind := goodIn_r _ [325, 33, 326, 327, 328, 5, 329, 194, 330, 331, 332, 333, 35, 34, 223, 224, 225, 226, 227, 228, 229, 230, 231, 232, 233, 234, 235, 236, 237, 238, 239, 240, 241, 242, 243, 244, 245, 246, 247, 248, 249, 250, 251, 252, 253, 254, 255, 256, 257, 258, 259, 260, 261, 262, 263, 264, 265, 266, 267, 268, 269, 270, 271, 272, 273, 274, 275, 199, 200, 201, 202, 193, 32, 422, 423, 424, 425, 426, 427, 428, 429, 430, 431] (by decide +kernel) (by decide +kernel)
set_option maxRecDepth 20000 in
theorem gL_law_X1_kind : GoodIn wsL_law (wsV RL 39 RX1 yX1_kind wsX1_kind) := goodIn_app (goodIn_of _ (by decide +kernel)) ggL_law_X1_kind
set_option maxRecDepth 20000 in
theorem ggL_law_X0_which : GoodIn wsL_law wsX0_which := goodIn_r _ [337, 20, 338, 339, 340, 2, 341, 16, 318, 319, 320, 321, 26, 409, 410, 411, 412, 413, 414, 415, 416, 417, 418, 419, 420, 421] (by decide +kernel) (by decide +kernel)
set_option maxRecDepth 20000 in
theorem gL_law_X0_which : GoodIn wsL_law (wsV RL 40 RX0 yX0_which wsX0_which) := goodIn_app (goodIn_of _ (by decide +kernel)) ggL_law_X0_which
set_option maxRecDepth 20000 in
theorem ggL_law_X1_which : GoodIn wsL_law wsX1_which := goodIn_r _ [345, 346, 323, 324, 5, 325, 33, 326, 327, 328, 329, 194, 330, 331, 332, 333, 35, 34, 223, 224, 225, 226, 227, 228, 229, 230, 231, 232, 233, 234, 235, 236, 237, 238, 239, 240, 241, 242, 243, 244, 245, 246, 247, 248, 249, 250, 251, 252, 253, 254, 255, 256, 257, 258, 259, 260, 261, 262, 263, 264, 265, 266, 267, 268, 269, 270, 271, 272, 273, 274, 275, 199, 200, 201, 202, 193, 32, 422, 423, 424, 425, 426, 427, 428, 429, 430, 431] (by decide +kernel) (by decide +kernel)
set_option maxRecDepth 20000 in
theorem gL_law_X1_which : GoodIn wsL_law (wsV RL 43 RX1 yX1_which wsX1_which) := goodIn_app (goodIn_of _ (by decide +kernel)) ggL_law_X1_which
set_option maxRecDepth 20000 in
theorem ggL_law_X0_from : GoodIn wsL_law wsX0_from := goodIn_r _ [350, 17, 318, 319, 320, 2, 321, 26, 16, 409, 410, 411, 412, 413, 414, 415, 416, 417, 418, 419, 420, 421] (by decide +kernel) (by decide +kernel)
set_option maxRecDepth 20000 in
theorem gL_law_X0_from : GoodIn wsL_law (wsV RL 44 RX0 yX0_from wsX0_from) := goodIn_app (goodIn_of _ (by decide +kernel)) ggL_law_X0_from
set_option maxRecDepth 20000 in
theorem ggL_law_X1_from : GoodIn wsL_law wsX1_from := goodIn_r _ [354, 34, 326, 327, 328, 5, 329, 194, 422, 423, 424, 425, 426, 427, 428, 429, 430, 431] (by decide +kernel) (by decide +kernel)
set_option maxRecDepth 20000 in
theorem gL_law_X1_from : GoodIn wsL_law (wsV RL 47 RX1 yX1_from wsX1_from) := goodIn_app (goodIn_of _ (by decide +kernel)) ggL_law_X1_from
set_option maxRecDepth 20000 in
theorem ggL_law_X0_length : GoodIn wsL_law wsX0_length := goodIn_r _ [358, 18, 318, 319, 320, 2, 321, 26, 16, 409, 410, 411, 412, 413, 414, 415, 416, 417, 418, 419, 420, 421] (by decide +kernel) (by decide +kernel)
set_option maxRecDepth 20000 in
theorem gL_law_X0_length : GoodIn wsL_law (wsV RL 48 RX0 yX0_length wsX0_length) := goodIn_app (goodIn_of _ (by decide +kernel)) ggL_law_X0_length
set_option maxRecDepth 20000 in
theorem ggL_law_X1_length : GoodIn wsL_law wsX1_length := goodIn_r _ [362, 35, 34, 326, 327, 328, 5, 329, 194, 422, 423, 424, 425, 426, 427, 428, 429, 430, 431] (by decide +kernel) (by decide +kernel)
set_option maxRecDepth 20000 in
theorem gL_law_X1_length : GoodIn wsL_law (wsV RL 51 RX1 yX1_length wsX1_length) := goodIn_app (goodIn_of _ (by decide +kernel)) ggL_law_X1_length
set_option maxRecDepth 20000 in
theorem ggL_law_X0_line : GoodIn wsL_law wsX0_line := goodIn_r _ [366, 19, 318, 319, 320, 2, 321, 26, 16, 409, 410, 411, 412, 413, 414, 415, 416, 417, 418, 419, 420, 421] (by decide +kernel) (by decide +kernel)
set_option maxRecDepth 20000 in
theorem gL_law_X0_line : GoodIn wsL_law (wsV RL 52 RX0 yX0_line wsX0_line) := goodIn_app (goodIn_of _ (by decide +kernel)) ggL_law_X0_line
set_option maxRecDepth 20000 in
theorem ggL_law_X1_line : GoodIn wsL_law wsX1_line := goodIn_r _ [370, 34, 32, 326, 327, 328, 5, 329, 194, 422, 423, 424, 425, 426, 427, 428, 429, 430, 431] (by decide +kernel) (by decide +kernel)
set_option maxRecDepth 20000 in
theorem gL_law_X1_line : GoodIn wsL_law (wsV RL 55 RX1 yX1_line wsX1_line) := goodIn_app (goodIn_of _ (by decide +kernel)) ggL_law_X1_line
set_option maxRecDepth 20000 in
theorem ggL_law_X0_worth : GoodIn wsL_law wsX0_worth := goodIn_r _ [374, 20, 338, 339, 340, 2, 341, 16, 318, 319, 320, 321, 26, 409, 410, 411, 412, 413, 414, 415, 416, 417, 418, 419, 420, 421] (by decide +kernel) (by decide +kernel)
set_option maxRecDepth 20000 in
theorem gL_law_X0_worth : GoodIn wsL_law (wsV RL 56 RX0 yX0_worth wsX0_worth) := goodIn_app (goodIn_of _ (by decide +kernel)) ggL_law_X0_worth
set_option maxRecDepth 20000 in
theorem ggL_law_X1_worth : GoodIn wsL_law wsX1_worth := goodIn_r _ [378, 34, 35, 346, 323, 324, 5, 325, 33, 326, 327, 328, 329, 194, 330, 331, 332, 333, 223, 224, 225, 226, 227, 228, 229, 230, 231, 232, 233, 234, 235, 236, 237, 238, 239, 240, 241, 242, 243, 244, 245, 246, 247, 248, 249, 250, 251, 252, 253, 254, 255, 256, 257, 258, 259, 260, 261, 262, 263, 264, 265, 266, 267, 268, 269, 270, 271, 272, 273, 274, 275, 199, 200, 201, 202, 193, 32, 379, 380, 381, 382, 288, 289, 290, 213, 214, 215, 422, 423, 424, 425, 426, 427, 428, 429, 430, 431] (by decide +kernel) (by decide +kernel)
set_option maxRecDepth 20000 in
theorem gL_law_X1_worth : GoodIn wsL_law (wsV RL 59 RX1 yX1_worth wsX1_worth) := goodIn_app (goodIn_of _ (by decide +kernel)) ggL_law_X1_worth
set_option maxRecDepth 20000 in
theorem ggL_law_X0_codes : GoodIn wsL_law wsX0_codes := goodIn_r _ [386, 20, 338, 339, 340, 2, 341, 16, 318, 319, 320, 321, 26, 409, 410, 411, 412, 413, 414, 415, 416, 417, 418, 419, 420, 421] (by decide +kernel) (by decide +kernel)
set_option maxRecDepth 20000 in
theorem gL_law_X0_codes : GoodIn wsL_law (wsV RL 60 RX0 yX0_codes wsX0_codes) := goodIn_app (goodIn_of _ (by decide +kernel)) ggL_law_X0_codes
set_option maxRecDepth 20000 in
theorem ggL_law_X1_codes : GoodIn wsL_law wsX1_codes := goodIn_r _ [390, 34, 35, 346, 323, 324, 5, 325, 33, 326, 327, 328, 329, 194, 330, 331, 332, 333, 223, 224, 225, 226, 227, 228, 229, 230, 231, 232, 233, 234, 235, 236, 237, 238, 239, 240, 241, 242, 243, 244, 245, 246, 247, 248, 249, 250, 251, 252, 253, 254, 255, 256, 257, 258, 259, 260, 261, 262, 263, 264, 265, 266, 267, 268, 269, 270, 271, 272, 273, 274, 275, 199, 200, 201, 202, 193, 32, 284, 285, 286, 287, 422, 423, 424, 425, 426, 427, 428, 429, 430, 431] (by decide +kernel) (by decide +kernel)
set_option maxRecDepth 20000 in
theorem gL_law_X1_codes : GoodIn wsL_law (wsV RL 63 RX1 yX1_codes wsX1_codes) := goodIn_app (goodIn_of _ (by decide +kernel)) ggL_law_X1_codes
set_option maxRecDepth 20000 in
theorem ggL_law_X0_code : GoodIn wsL_law wsX0_code := goodIn_r _ [394, 20, 17, 338, 339, 340, 2, 341, 16, 318, 319, 320, 321, 26, 155, 156, 157, 158, 81, 82, 83, 84, 23, 14, 159, 160, 161, 162, 163, 164, 165, 409, 410, 411, 412, 413, 414, 415, 416, 417, 418, 419, 420, 421] (by decide +kernel) (by decide +kernel)
set_option maxRecDepth 20000 in
theorem gL_law_X0_code : GoodIn wsL_law (wsV RL 64 RX0 yX0_code wsX0_code) := goodIn_app (goodIn_of _ (by decide +kernel)) ggL_law_X0_code
set_option maxRecDepth 20000 in
theorem ggL_law_X1_code : GoodIn wsL_law wsX1_code := goodIn_r _ [398, 34, 399, 388, 389, 5, 390, 35, 346, 323, 324, 325, 33, 326, 327, 328, 329, 194, 330, 331, 332, 333, 223, 224, 225, 226, 227, 228, 229, 230, 231, 232, 233, 234, 235, 236, 237, 238, 239, 240, 241, 242, 243, 244, 245, 246, 247, 248, 249, 250, 251, 252, 253, 254, 255, 256, 257, 258, 259, 260, 261, 262, 263, 264, 265, 266, 267, 268, 269, 270, 271, 272, 273, 274, 275, 199, 200, 201, 202, 193, 32, 284, 285, 286, 287, 379, 380, 381, 382, 422, 423, 424, 425, 426, 427, 428, 429, 430, 431] (by decide +kernel) (by decide +kernel)
set_option maxRecDepth 20000 in
theorem gL_law_X1_code : GoodIn wsL_law (wsV RL 68 RX1 yX1_code wsX1_code) := goodIn_app (goodIn_of _ (by decide +kernel)) ggL_law_X1_code
set_option maxRecDepth 20000 in
theorem ggL_law_X0_same : GoodIn wsL_law wsX0_same := goodIn_r _ [403, 18, 17, 318, 319, 320, 2, 321, 26, 16, 81, 82, 83, 84, 23, 14, 409, 410, 411, 412, 413, 414, 415, 416, 417, 418, 419, 420, 421] (by decide +kernel) (by decide +kernel)
set_option maxRecDepth 20000 in
theorem gL_law_X0_same : GoodIn wsL_law (wsV RL 69 RX0 yX0_same wsX0_same) := goodIn_app (goodIn_of _ (by decide +kernel)) ggL_law_X0_same
set_option maxRecDepth 20000 in
theorem ggL_law_X1_same : GoodIn wsL_law wsX1_same := goodIn_r _ [407, 32, 34, 326, 327, 328, 5, 329, 194, 408, 360, 361, 362, 35, 422, 423, 424, 425, 426, 427, 428, 429, 430, 431] (by decide +kernel) (by decide +kernel)
set_option maxRecDepth 20000 in
theorem gL_law_X1_same : GoodIn wsL_law (wsV RL 73 RX1 yX1_same wsX1_same) := goodIn_app (goodIn_of _ (by decide +kernel)) ggL_law_X1_same
theorem dL_law_0 : decode cL_law 0 = .ok (.new 7, 3) := by decide +kernel
theorem dL_law_3 : decode cL_law 3 = .ok (.dup, 1) := by decide +kernel
theorem dL_law_4 : decode cL_law 4 = .ok (.invokespecial 9, 3) := by decide +kernel
theorem dL_law_7 : decode cL_law 7 = .ok (.astore_n 1, 1) := by decide +kernel
theorem dL_law_8 : decode cL_law 8 = .ok (.new 10, 3) := by decide +kernel
theorem dL_law_11 : decode cL_law 11 = .ok (.dup, 1) := by decide +kernel
theorem dL_law_12 : decode cL_law 12 = .ok (.invokespecial 12, 3) := by decide +kernel
theorem dL_law_15 : decode cL_law 15 = .ok (.astore_n 2, 1) := by decide +kernel
theorem dL_law_16 : decode cL_law 16 = .ok (.iconst 0, 1) := by decide +kernel
theorem dL_law_17 : decode cL_law 17 = .ok (.istore_n 3, 1) := by decide +kernel
theorem dL_law_18 : decode cL_law 18 = .ok (.iload_n 3, 1) := by decide +kernel
theorem dL_law_19 : decode cL_law 19 = .ok (.aload_n 0, 1) := by decide +kernel
theorem dL_law_20 : decode cL_law 20 = .ok (.arraylength, 1) := by decide +kernel
theorem dL_law_21 : decode cL_law 21 = .ok (.bipush 6, 2) := by decide +kernel
theorem dL_law_23 : decode cL_law 23 = .ok (.isub, 1) := by decide +kernel
theorem dL_law_24 : decode cL_law 24 = .ok (.if_icmp .gt 438, 3) := by decide +kernel
theorem dL_law_27 : decode cL_law 27 = .ok (.aload_n 0, 1) := by decide +kernel
theorem dL_law_28 : decode cL_law 28 = .ok (.iload_n 3, 1) := by decide +kernel
theorem dL_law_29 : decode cL_law 29 = .ok (.iaload, 1) := by decide +kernel
theorem dL_law_30 : decode cL_law 30 = .ok (.bipush 15, 2) := by decide +kernel
theorem dL_law_32 : decode cL_law 32 = .ok (.iand, 1) := by decide +kernel
theorem dL_law_33 : decode cL_law 33 = .ok (.tableswitch 423 0 13 #[71, 134, 157, 170, 183, 196, 219, 242, 265, 288, 311, 334, 357, 390], 71) := by decide +kernel
theorem dL_law_104 : decode cL_law 104 = .ok (.aload_n 1, 1) := by decide +kernel
theorem dL_law_105 : decode cL_law 105 = .ok (.aload_n 0, 1) := by decide +kernel
theorem dL_law_106 : decode cL_law 106 = .ok (.iload_n 3, 1) := by decide +kernel
theorem dL_law_107 : decode cL_law 107 = .ok (.iconst 1, 1) := by decide +kernel
theorem dL_law_108 : decode cL_law 108 = .ok (.iadd, 1) := by decide +kernel
theorem dL_law_109 : decode cL_law 109 = .ok (.iaload, 1) := by decide +kernel
theorem dL_law_110 : decode cL_law 110 = .ok (.aload_n 0, 1) := by decide +kernel
theorem dL_law_111 : decode cL_law 111 = .ok (.iload_n 3, 1) := by decide +kernel
theorem dL_law_112 : decode cL_law 112 = .ok (.iconst 2, 1) := by decide +kernel
theorem dL_law_113 : decode cL_law 113 = .ok (.iadd, 1) := by decide +kernel
theorem dL_law_114 : decode cL_law 114 = .ok (.iaload, 1) := by decide +kernel
theorem dL_law_115 : decode cL_law 115 = .ok (.aload_n 0, 1) := by decide +kernel
theorem dL_law_116 : decode cL_law 116 = .ok (.iload_n 3, 1) := by decide +kernel
theorem dL_law_117 : decode cL_law 117 = .ok (.iconst 3, 1) := by decide +kernel
theorem dL_law_118 : decode cL_law 118 = .ok (.iadd, 1) := by decide +kernel
theorem dL_law_119 : decode cL_law 119 = .ok (.iaload, 1) := by decide +kernel
theorem dL_law_120 : decode cL_law 120 = .ok (.aload_n 0, 1) := by decide +kernel
theorem dL_law_121 : decode cL_law 121 = .ok (.iload_n 3, 1) := by decide +kernel
theorem dL_law_122 : decode cL_law 122 = .ok (.iconst 4, 1) := by decide +kernel
theorem dL_law_123 : decode cL_law 123 = .ok (.iadd, 1) := by decide +kernel
theorem dL_law_124 : decode cL_law 124 = .ok (.iaload, 1) := by decide +kernel
theorem dL_law_125 : decode cL_law 125 = .ok (.aload_n 0, 1) := by decide +kernel
theorem dL_law_126 : decode cL_law 126 = .ok (.iload_n 3, 1) := by decide +kernel
theorem dL_law_127 : decode cL_law 127 = .ok (.iconst 5, 1) := by decide +kernel
theorem dL_law_128 : decode cL_law 128 = .ok (.iadd, 1) := by decide +kernel
theorem dL_law_129 : decode cL_law 129 = .ok (.iaload, 1) := by decide +kernel
theorem dL_law_130 : decode cL_law 130 = .ok (.invokevirtual 13, 3) := by decide +kernel
theorem dL_law_133 : decode cL_law 133 = .ok (.aload_n 2, 1) := by decide +kernel
theorem dL_law_134 : decode cL_law 134 = .ok (.aload_n 0, 1) := by decide +kernel
theorem dL_law_135 : decode cL_law 135 = .ok (.iload_n 3, 1) := by decide +kernel
theorem dL_law_136 : decode cL_law 136 = .ok (.iconst 1, 1) := by decide +kernel
theorem dL_law_137 : decode cL_law 137 = .ok (.iadd, 1) := by decide +kernel
theorem dL_law_138 : decode cL_law 138 = .ok (.iaload, 1) := by decide +kernel
theorem dL_law_139 : decode cL_law 139 = .ok (.aload_n 0, 1) := by decide +kernel
theorem dL_law_140 : decode cL_law 140 = .ok (.iload_n 3, 1) := by decide +kernel
theorem dL_law_141 : decode cL_law 141 = .ok (.iconst 2, 1) := by decide +kernel
theorem dL_law_142 : decode cL_law 142 = .ok (.iadd, 1) := by decide +kernel
theorem dL_law_143 : decode cL_law 143 = .ok (.iaload, 1) := by decide +kernel
theorem dL_law_144 : decode cL_law 144 = .ok (.aload_n 0, 1) := by decide +kernel
theorem dL_law_145 : decode cL_law 145 = .ok (.iload_n 3, 1) := by decide +kernel
theorem dL_law_146 : decode cL_law 146 = .ok (.iconst 3, 1) := by decide +kernel
theorem dL_law_147 : decode cL_law 147 = .ok (.iadd, 1) := by decide +kernel
theorem dL_law_148 : decode cL_law 148 = .ok (.iaload, 1) := by decide +kernel
theorem dL_law_149 : decode cL_law 149 = .ok (.aload_n 0, 1) := by decide +kernel
theorem dL_law_150 : decode cL_law 150 = .ok (.iload_n 3, 1) := by decide +kernel
theorem dL_law_151 : decode cL_law 151 = .ok (.iconst 4, 1) := by decide +kernel
theorem dL_law_152 : decode cL_law 152 = .ok (.iadd, 1) := by decide +kernel
theorem dL_law_153 : decode cL_law 153 = .ok (.iaload, 1) := by decide +kernel
theorem dL_law_154 : decode cL_law 154 = .ok (.aload_n 0, 1) := by decide +kernel
theorem dL_law_155 : decode cL_law 155 = .ok (.iload_n 3, 1) := by decide +kernel
theorem dL_law_156 : decode cL_law 156 = .ok (.iconst 5, 1) := by decide +kernel
theorem dL_law_157 : decode cL_law 157 = .ok (.iadd, 1) := by decide +kernel
theorem dL_law_158 : decode cL_law 158 = .ok (.iaload, 1) := by decide +kernel
theorem dL_law_159 : decode cL_law 159 = .ok (.invokevirtual 17, 3) := by decide +kernel
theorem dL_law_162 : decode cL_law 162 = .ok (.if_icmp .eq 294, 3) := by decide +kernel
theorem dL_law_165 : decode cL_law 165 = .ok (.iconst 0, 1) := by decide +kernel
theorem dL_law_166 : decode cL_law 166 = .ok (.ireturn, 1) := by decide +kernel
theorem dL_law_167 : decode cL_law 167 = .ok (.aload_n 1, 1) := by decide +kernel
theorem dL_law_168 : decode cL_law 168 = .ok (.aload_n 0, 1) := by decide +kernel
theorem dL_law_169 : decode cL_law 169 = .ok (.iload_n 3, 1) := by decide +kernel
theorem dL_law_170 : decode cL_law 170 = .ok (.iconst 1, 1) := by decide +kernel
theorem dL_law_171 : decode cL_law 171 = .ok (.iadd, 1) := by decide +kernel
theorem dL_law_172 : decode cL_law 172 = .ok (.iaload, 1) := by decide +kernel
theorem dL_law_173 : decode cL_law 173 = .ok (.invokevirtual 18, 3) := by decide +kernel
theorem dL_law_176 : decode cL_law 176 = .ok (.aload_n 2, 1) := by decide +kernel
theorem dL_law_177 : decode cL_law 177 = .ok (.aload_n 0, 1) := by decide +kernel
theorem dL_law_178 : decode cL_law 178 = .ok (.iload_n 3, 1) := by decide +kernel
theorem dL_law_179 : decode cL_law 179 = .ok (.iconst 1, 1) := by decide +kernel
theorem dL_law_180 : decode cL_law 180 = .ok (.iadd, 1) := by decide +kernel
theorem dL_law_181 : decode cL_law 181 = .ok (.iaload, 1) := by decide +kernel
theorem dL_law_182 : decode cL_law 182 = .ok (.invokevirtual 22, 3) := by decide +kernel
theorem dL_law_185 : decode cL_law 185 = .ok (.if_icmp .eq 271, 3) := by decide +kernel
theorem dL_law_188 : decode cL_law 188 = .ok (.iconst 0, 1) := by decide +kernel
theorem dL_law_189 : decode cL_law 189 = .ok (.ireturn, 1) := by decide +kernel
theorem dL_law_190 : decode cL_law 190 = .ok (.aload_n 1, 1) := by decide +kernel
theorem dL_law_191 : decode cL_law 191 = .ok (.invokevirtual 23, 3) := by decide +kernel
theorem dL_law_194 : decode cL_law 194 = .ok (.aload_n 2, 1) := by decide +kernel
theorem dL_law_195 : decode cL_law 195 = .ok (.invokevirtual 27, 3) := by decide +kernel
theorem dL_law_198 : decode cL_law 198 = .ok (.if_icmp .eq 258, 3) := by decide +kernel
theorem dL_law_201 : decode cL_law 201 = .ok (.iconst 0, 1) := by decide +kernel
theorem dL_law_202 : decode cL_law 202 = .ok (.ireturn, 1) := by decide +kernel
theorem dL_law_203 : decode cL_law 203 = .ok (.aload_n 1, 1) := by decide +kernel
theorem dL_law_204 : decode cL_law 204 = .ok (.invokevirtual 28, 3) := by decide +kernel
theorem dL_law_207 : decode cL_law 207 = .ok (.aload_n 2, 1) := by decide +kernel
theorem dL_law_208 : decode cL_law 208 = .ok (.invokevirtual 31, 3) := by decide +kernel
theorem dL_law_211 : decode cL_law 211 = .ok (.if_icmp .eq 245, 3) := by decide +kernel
theorem dL_law_214 : decode cL_law 214 = .ok (.iconst 0, 1) := by decide +kernel
theorem dL_law_215 : decode cL_law 215 = .ok (.ireturn, 1) := by decide +kernel
theorem dL_law_216 : decode cL_law 216 = .ok (.aload_n 1, 1) := by decide +kernel
theorem dL_law_217 : decode cL_law 217 = .ok (.invokevirtual 32, 3) := by decide +kernel
theorem dL_law_220 : decode cL_law 220 = .ok (.aload_n 2, 1) := by decide +kernel
theorem dL_law_221 : decode cL_law 221 = .ok (.invokevirtual 35, 3) := by decide +kernel
theorem dL_law_224 : decode cL_law 224 = .ok (.if_icmp .eq 232, 3) := by decide +kernel
theorem dL_law_227 : decode cL_law 227 = .ok (.iconst 0, 1) := by decide +kernel
theorem dL_law_228 : decode cL_law 228 = .ok (.ireturn, 1) := by decide +kernel
theorem dL_law_229 : decode cL_law 229 = .ok (.aload_n 1, 1) := by decide +kernel
theorem dL_law_230 : decode cL_law 230 = .ok (.aload_n 0, 1) := by decide +kernel
theorem dL_law_231 : decode cL_law 231 = .ok (.iload_n 3, 1) := by decide +kernel
theorem dL_law_232 : decode cL_law 232 = .ok (.iconst 1, 1) := by decide +kernel
theorem dL_law_233 : decode cL_law 233 = .ok (.iadd, 1) := by decide +kernel
theorem dL_law_234 : decode cL_law 234 = .ok (.iaload, 1) := by decide +kernel
theorem dL_law_235 : decode cL_law 235 = .ok (.invokevirtual 36, 3) := by decide +kernel
theorem dL_law_238 : decode cL_law 238 = .ok (.aload_n 2, 1) := by decide +kernel
theorem dL_law_239 : decode cL_law 239 = .ok (.aload_n 0, 1) := by decide +kernel
theorem dL_law_240 : decode cL_law 240 = .ok (.iload_n 3, 1) := by decide +kernel
theorem dL_law_241 : decode cL_law 241 = .ok (.iconst 1, 1) := by decide +kernel
theorem dL_law_242 : decode cL_law 242 = .ok (.iadd, 1) := by decide +kernel
theorem dL_law_243 : decode cL_law 243 = .ok (.iaload, 1) := by decide +kernel
theorem dL_law_244 : decode cL_law 244 = .ok (.invokevirtual 39, 3) := by decide +kernel
theorem dL_law_247 : decode cL_law 247 = .ok (.if_icmp .eq 209, 3) := by decide +kernel
theorem dL_law_250 : decode cL_law 250 = .ok (.iconst 0, 1) := by decide +kernel
theorem dL_law_251 : decode cL_law 251 = .ok (.ireturn, 1) := by decide +kernel
theorem dL_law_252 : decode cL_law 252 = .ok (.aload_n 1, 1) := by decide +kernel
theorem dL_law_253 : decode cL_law 253 = .ok (.aload_n 0, 1) := by decide +kernel
theorem dL_law_254 : decode cL_law 254 = .ok (.iload_n 3, 1) := by decide +kernel
theorem dL_law_255 : decode cL_law 255 = .ok (.iconst 1, 1) := by decide +kernel
theorem dL_law_256 : decode cL_law 256 = .ok (.iadd, 1) := by decide +kernel
theorem dL_law_257 : decode cL_law 257 = .ok (.iaload, 1) := by decide +kernel
theorem dL_law_258 : decode cL_law 258 = .ok (.invokevirtual 40, 3) := by decide +kernel
theorem dL_law_261 : decode cL_law 261 = .ok (.aload_n 2, 1) := by decide +kernel
theorem dL_law_262 : decode cL_law 262 = .ok (.aload_n 0, 1) := by decide +kernel
theorem dL_law_263 : decode cL_law 263 = .ok (.iload_n 3, 1) := by decide +kernel
theorem dL_law_264 : decode cL_law 264 = .ok (.iconst 1, 1) := by decide +kernel
theorem dL_law_265 : decode cL_law 265 = .ok (.iadd, 1) := by decide +kernel
theorem dL_law_266 : decode cL_law 266 = .ok (.iaload, 1) := by decide +kernel
theorem dL_law_267 : decode cL_law 267 = .ok (.invokevirtual 43, 3) := by decide +kernel
theorem dL_law_270 : decode cL_law 270 = .ok (.if_icmp .eq 186, 3) := by decide +kernel
theorem dL_law_273 : decode cL_law 273 = .ok (.iconst 0, 1) := by decide +kernel
theorem dL_law_274 : decode cL_law 274 = .ok (.ireturn, 1) := by decide +kernel
theorem dL_law_275 : decode cL_law 275 = .ok (.aload_n 1, 1) := by decide +kernel
theorem dL_law_276 : decode cL_law 276 = .ok (.aload_n 0, 1) := by decide +kernel
theorem dL_law_277 : decode cL_law 277 = .ok (.iload_n 3, 1) := by decide +kernel
theorem dL_law_278 : decode cL_law 278 = .ok (.iconst 1, 1) := by decide +kernel
theorem dL_law_279 : decode cL_law 279 = .ok (.iadd, 1) := by decide +kernel
theorem dL_law_280 : decode cL_law 280 = .ok (.iaload, 1) := by decide +kernel
theorem dL_law_281 : decode cL_law 281 = .ok (.invokevirtual 44, 3) := by decide +kernel
theorem dL_law_284 : decode cL_law 284 = .ok (.aload_n 2, 1) := by decide +kernel
theorem dL_law_285 : decode cL_law 285 = .ok (.aload_n 0, 1) := by decide +kernel
theorem dL_law_286 : decode cL_law 286 = .ok (.iload_n 3, 1) := by decide +kernel
theorem dL_law_287 : decode cL_law 287 = .ok (.iconst 1, 1) := by decide +kernel
theorem dL_law_288 : decode cL_law 288 = .ok (.iadd, 1) := by decide +kernel
theorem dL_law_289 : decode cL_law 289 = .ok (.iaload, 1) := by decide +kernel
theorem dL_law_290 : decode cL_law 290 = .ok (.invokevirtual 47, 3) := by decide +kernel
theorem dL_law_293 : decode cL_law 293 = .ok (.if_icmp .eq 163, 3) := by decide +kernel
theorem dL_law_296 : decode cL_law 296 = .ok (.iconst 0, 1) := by decide +kernel
theorem dL_law_297 : decode cL_law 297 = .ok (.ireturn, 1) := by decide +kernel
theorem dL_law_298 : decode cL_law 298 = .ok (.aload_n 1, 1) := by decide +kernel
theorem dL_law_299 : decode cL_law 299 = .ok (.aload_n 0, 1) := by decide +kernel
theorem dL_law_300 : decode cL_law 300 = .ok (.iload_n 3, 1) := by decide +kernel
theorem dL_law_301 : decode cL_law 301 = .ok (.iconst 1, 1) := by decide +kernel
theorem dL_law_302 : decode cL_law 302 = .ok (.iadd, 1) := by decide +kernel
theorem dL_law_303 : decode cL_law 303 = .ok (.iaload, 1) := by decide +kernel
theorem dL_law_304 : decode cL_law 304 = .ok (.invokevirtual 48, 3) := by decide +kernel
theorem dL_law_307 : decode cL_law 307 = .ok (.aload_n 2, 1) := by decide +kernel
theorem dL_law_308 : decode cL_law 308 = .ok (.aload_n 0, 1) := by decide +kernel
theorem dL_law_309 : decode cL_law 309 = .ok (.iload_n 3, 1) := by decide +kernel
theorem dL_law_310 : decode cL_law 310 = .ok (.iconst 1, 1) := by decide +kernel
theorem dL_law_311 : decode cL_law 311 = .ok (.iadd, 1) := by decide +kernel
theorem dL_law_312 : decode cL_law 312 = .ok (.iaload, 1) := by decide +kernel
theorem dL_law_313 : decode cL_law 313 = .ok (.invokevirtual 51, 3) := by decide +kernel
theorem dL_law_316 : decode cL_law 316 = .ok (.if_icmp .eq 140, 3) := by decide +kernel
theorem dL_law_319 : decode cL_law 319 = .ok (.iconst 0, 1) := by decide +kernel
theorem dL_law_320 : decode cL_law 320 = .ok (.ireturn, 1) := by decide +kernel
theorem dL_law_321 : decode cL_law 321 = .ok (.aload_n 1, 1) := by decide +kernel
theorem dL_law_322 : decode cL_law 322 = .ok (.aload_n 0, 1) := by decide +kernel
theorem dL_law_323 : decode cL_law 323 = .ok (.iload_n 3, 1) := by decide +kernel
theorem dL_law_324 : decode cL_law 324 = .ok (.iconst 1, 1) := by decide +kernel
theorem dL_law_325 : decode cL_law 325 = .ok (.iadd, 1) := by decide +kernel
theorem dL_law_326 : decode cL_law 326 = .ok (.iaload, 1) := by decide +kernel
theorem dL_law_327 : decode cL_law 327 = .ok (.invokevirtual 52, 3) := by decide +kernel
theorem dL_law_330 : decode cL_law 330 = .ok (.aload_n 2, 1) := by decide +kernel
theorem dL_law_331 : decode cL_law 331 = .ok (.aload_n 0, 1) := by decide +kernel
theorem dL_law_332 : decode cL_law 332 = .ok (.iload_n 3, 1) := by decide +kernel
theorem dL_law_333 : decode cL_law 333 = .ok (.iconst 1, 1) := by decide +kernel
theorem dL_law_334 : decode cL_law 334 = .ok (.iadd, 1) := by decide +kernel
theorem dL_law_335 : decode cL_law 335 = .ok (.iaload, 1) := by decide +kernel
theorem dL_law_336 : decode cL_law 336 = .ok (.invokevirtual 55, 3) := by decide +kernel
theorem dL_law_339 : decode cL_law 339 = .ok (.if_icmp .eq 117, 3) := by decide +kernel
theorem dL_law_342 : decode cL_law 342 = .ok (.iconst 0, 1) := by decide +kernel
theorem dL_law_343 : decode cL_law 343 = .ok (.ireturn, 1) := by decide +kernel
theorem dL_law_344 : decode cL_law 344 = .ok (.aload_n 1, 1) := by decide +kernel
theorem dL_law_345 : decode cL_law 345 = .ok (.aload_n 0, 1) := by decide +kernel
theorem dL_law_346 : decode cL_law 346 = .ok (.iload_n 3, 1) := by decide +kernel
theorem dL_law_347 : decode cL_law 347 = .ok (.iconst 1, 1) := by decide +kernel
theorem dL_law_348 : decode cL_law 348 = .ok (.iadd, 1) := by decide +kernel
theorem dL_law_349 : decode cL_law 349 = .ok (.iaload, 1) := by decide +kernel
theorem dL_law_350 : decode cL_law 350 = .ok (.invokevirtual 56, 3) := by decide +kernel
theorem dL_law_353 : decode cL_law 353 = .ok (.aload_n 2, 1) := by decide +kernel
theorem dL_law_354 : decode cL_law 354 = .ok (.aload_n 0, 1) := by decide +kernel
theorem dL_law_355 : decode cL_law 355 = .ok (.iload_n 3, 1) := by decide +kernel
theorem dL_law_356 : decode cL_law 356 = .ok (.iconst 1, 1) := by decide +kernel
theorem dL_law_357 : decode cL_law 357 = .ok (.iadd, 1) := by decide +kernel
theorem dL_law_358 : decode cL_law 358 = .ok (.iaload, 1) := by decide +kernel
theorem dL_law_359 : decode cL_law 359 = .ok (.invokevirtual 59, 3) := by decide +kernel
theorem dL_law_362 : decode cL_law 362 = .ok (.if_icmp .eq 94, 3) := by decide +kernel
theorem dL_law_365 : decode cL_law 365 = .ok (.iconst 0, 1) := by decide +kernel
theorem dL_law_366 : decode cL_law 366 = .ok (.ireturn, 1) := by decide +kernel
theorem dL_law_367 : decode cL_law 367 = .ok (.aload_n 1, 1) := by decide +kernel
theorem dL_law_368 : decode cL_law 368 = .ok (.aload_n 0, 1) := by decide +kernel
theorem dL_law_369 : decode cL_law 369 = .ok (.iload_n 3, 1) := by decide +kernel
theorem dL_law_370 : decode cL_law 370 = .ok (.iconst 1, 1) := by decide +kernel
theorem dL_law_371 : decode cL_law 371 = .ok (.iadd, 1) := by decide +kernel
theorem dL_law_372 : decode cL_law 372 = .ok (.iaload, 1) := by decide +kernel
theorem dL_law_373 : decode cL_law 373 = .ok (.invokevirtual 60, 3) := by decide +kernel
theorem dL_law_376 : decode cL_law 376 = .ok (.aload_n 2, 1) := by decide +kernel
theorem dL_law_377 : decode cL_law 377 = .ok (.aload_n 0, 1) := by decide +kernel
theorem dL_law_378 : decode cL_law 378 = .ok (.iload_n 3, 1) := by decide +kernel
theorem dL_law_379 : decode cL_law 379 = .ok (.iconst 1, 1) := by decide +kernel
theorem dL_law_380 : decode cL_law 380 = .ok (.iadd, 1) := by decide +kernel
theorem dL_law_381 : decode cL_law 381 = .ok (.iaload, 1) := by decide +kernel
theorem dL_law_382 : decode cL_law 382 = .ok (.invokevirtual 63, 3) := by decide +kernel
theorem dL_law_385 : decode cL_law 385 = .ok (.if_icmp .eq 71, 3) := by decide +kernel
theorem dL_law_388 : decode cL_law 388 = .ok (.iconst 0, 1) := by decide +kernel
theorem dL_law_389 : decode cL_law 389 = .ok (.ireturn, 1) := by decide +kernel
theorem dL_law_390 : decode cL_law 390 = .ok (.aload_n 1, 1) := by decide +kernel
theorem dL_law_391 : decode cL_law 391 = .ok (.aload_n 0, 1) := by decide +kernel
theorem dL_law_392 : decode cL_law 392 = .ok (.iload_n 3, 1) := by decide +kernel
theorem dL_law_393 : decode cL_law 393 = .ok (.iconst 1, 1) := by decide +kernel
theorem dL_law_394 : decode cL_law 394 = .ok (.iadd, 1) := by decide +kernel
theorem dL_law_395 : decode cL_law 395 = .ok (.iaload, 1) := by decide +kernel
theorem dL_law_396 : decode cL_law 396 = .ok (.aload_n 0, 1) := by decide +kernel
theorem dL_law_397 : decode cL_law 397 = .ok (.iload_n 3, 1) := by decide +kernel
theorem dL_law_398 : decode cL_law 398 = .ok (.iconst 2, 1) := by decide +kernel
theorem dL_law_399 : decode cL_law 399 = .ok (.iadd, 1) := by decide +kernel
theorem dL_law_400 : decode cL_law 400 = .ok (.iaload, 1) := by decide +kernel
theorem dL_law_401 : decode cL_law 401 = .ok (.invokevirtual 64, 3) := by decide +kernel
theorem dL_law_404 : decode cL_law 404 = .ok (.aload_n 2, 1) := by decide +kernel
theorem dL_law_405 : decode cL_law 405 = .ok (.aload_n 0, 1) := by decide +kernel
theorem dL_law_406 : decode cL_law 406 = .ok (.iload_n 3, 1) := by decide +kernel
theorem dL_law_407 : decode cL_law 407 = .ok (.iconst 1, 1) := by decide +kernel
theorem dL_law_408 : decode cL_law 408 = .ok (.iadd, 1) := by decide +kernel
theorem dL_law_409 : decode cL_law 409 = .ok (.iaload, 1) := by decide +kernel
theorem dL_law_410 : decode cL_law 410 = .ok (.aload_n 0, 1) := by decide +kernel
theorem dL_law_411 : decode cL_law 411 = .ok (.iload_n 3, 1) := by decide +kernel
theorem dL_law_412 : decode cL_law 412 = .ok (.iconst 2, 1) := by decide +kernel
theorem dL_law_413 : decode cL_law 413 = .ok (.iadd, 1) := by decide +kernel
theorem dL_law_414 : decode cL_law 414 = .ok (.iaload, 1) := by decide +kernel
theorem dL_law_415 : decode cL_law 415 = .ok (.invokevirtual 68, 3) := by decide +kernel
theorem dL_law_418 : decode cL_law 418 = .ok (.if_icmp .eq 38, 3) := by decide +kernel
theorem dL_law_421 : decode cL_law 421 = .ok (.iconst 0, 1) := by decide +kernel
theorem dL_law_422 : decode cL_law 422 = .ok (.ireturn, 1) := by decide +kernel
theorem dL_law_423 : decode cL_law 423 = .ok (.aload_n 1, 1) := by decide +kernel
theorem dL_law_424 : decode cL_law 424 = .ok (.aload_n 0, 1) := by decide +kernel
theorem dL_law_425 : decode cL_law 425 = .ok (.iload_n 3, 1) := by decide +kernel
theorem dL_law_426 : decode cL_law 426 = .ok (.iconst 1, 1) := by decide +kernel
theorem dL_law_427 : decode cL_law 427 = .ok (.iadd, 1) := by decide +kernel
theorem dL_law_428 : decode cL_law 428 = .ok (.iaload, 1) := by decide +kernel
theorem dL_law_429 : decode cL_law 429 = .ok (.aload_n 0, 1) := by decide +kernel
theorem dL_law_430 : decode cL_law 430 = .ok (.iload_n 3, 1) := by decide +kernel
theorem dL_law_431 : decode cL_law 431 = .ok (.iconst 2, 1) := by decide +kernel
theorem dL_law_432 : decode cL_law 432 = .ok (.iadd, 1) := by decide +kernel
theorem dL_law_433 : decode cL_law 433 = .ok (.iaload, 1) := by decide +kernel
theorem dL_law_434 : decode cL_law 434 = .ok (.invokevirtual 69, 3) := by decide +kernel
theorem dL_law_437 : decode cL_law 437 = .ok (.aload_n 2, 1) := by decide +kernel
theorem dL_law_438 : decode cL_law 438 = .ok (.aload_n 0, 1) := by decide +kernel
theorem dL_law_439 : decode cL_law 439 = .ok (.iload_n 3, 1) := by decide +kernel
theorem dL_law_440 : decode cL_law 440 = .ok (.iconst 1, 1) := by decide +kernel
theorem dL_law_441 : decode cL_law 441 = .ok (.iadd, 1) := by decide +kernel
theorem dL_law_442 : decode cL_law 442 = .ok (.iaload, 1) := by decide +kernel
theorem dL_law_443 : decode cL_law 443 = .ok (.aload_n 0, 1) := by decide +kernel
theorem dL_law_444 : decode cL_law 444 = .ok (.iload_n 3, 1) := by decide +kernel
theorem dL_law_445 : decode cL_law 445 = .ok (.iconst 2, 1) := by decide +kernel
theorem dL_law_446 : decode cL_law 446 = .ok (.iadd, 1) := by decide +kernel
theorem dL_law_447 : decode cL_law 447 = .ok (.iaload, 1) := by decide +kernel
theorem dL_law_448 : decode cL_law 448 = .ok (.invokevirtual 73, 3) := by decide +kernel
theorem dL_law_451 : decode cL_law 451 = .ok (.if_icmp .eq 5, 3) := by decide +kernel
theorem dL_law_454 : decode cL_law 454 = .ok (.iconst 0, 1) := by decide +kernel
theorem dL_law_455 : decode cL_law 455 = .ok (.ireturn, 1) := by decide +kernel
theorem dL_law_456 : decode cL_law 456 = .ok (.iinc 3 6, 3) := by decide +kernel
theorem dL_law_459 : decode cL_law 459 = .ok (.goto (-441), 3) := by decide +kernel
theorem dL_law_462 : decode cL_law 462 = .ok (.iconst 1, 1) := by decide +kernel
theorem dL_law_463 : decode cL_law 463 = .ok (.ireturn, 1) := by decide +kernel
end
section
/-! the walk in short: what is fixed in a walk is one tuple X; G X q ws pc lv st: from every heap that holds the cells ws, with locals lv and operand stack st, the machine at pc comes to the end -/
abbrev Gl : Type := va_G × ClassId × ClassId × Nat × (Nat → Nat) × (Nat → Nat)
abbrev gD (g : Gl) : va_G := g.1
abbrev gB (g : Gl) : ClassId := g.2.1
abbrev gI (g : Gl) : ClassId := g.2.2.1
abbrev gW (g : Gl) : Nat := g.2.2.2.1
abbrev gK (g : Gl) : Nat → Nat := g.2.2.2.2.1
abbrev gV (g : Gl) : Nat → Nat := g.2.2.2.2.2
abbrev gT (g : Gl) : List (ClassId × FieldType) := [(gB g, .byte), (gI g, .int)]
def wWd : List Nat := [105, 110, 116, 32, 118, 111, 105, 100, 32, 115, 116, 97, 116, 105, 99, 32, 101, 120, 116, 101, 114, 110, 32, 105, 102, 32, 101, 108, 115, 101, 32, 119, 104, 105, 108, 101, 32, 100, 111, 32, 102, 111, 114, 32, 98, 114, 101, 97, 107, 32, 99, 111, 110, 116, 105, 110, 117, 101, 32, 114, 101, 116, 117, 114, 110, 32]
def kByt : List (List Int32) := [[32, 40, 32, 41, 32, 123, 32, 125, 32, 91, 32, 93, 32, 44, 32, 59, 32, 63, 32, 58, 32, 61, 32, 43, 61, 32, 45, 61, 32, 42, 61, 32, 47, 61, 32, 37, 61, 32, 38, 61, 32, 124, 61, 32, 94, 61, 32, 60, 60, 61, 32, 62, 62, 61, 32, 124, 124, 32, 38, 38, 32, 124, 32, 94, 32, 38, 32, 61, 61, 32, 33, 61, 32, 60, 32, 62, 32, 60, 61, 32, 62, 61, 32, 60, 60, 32, 62, 62, 32, 43, 32, 45, 32, 42, 32, 47, 32, 37, 32, 33, 32, 126, 32, 43, 43, 32, 45, 45, 32], [32, 105, 110, 116, 32, 118, 111, 105, 100, 32, 115, 116, 97, 116, 105, 99, 32, 101, 120, 116, 101, 114, 110, 32, 105, 102, 32, 101, 108, 115, 101, 32, 119, 104, 105, 108, 101, 32, 100, 111, 32, 102, 111, 114, 32, 98, 114, 101, 97, 107, 32, 99, 111, 110, 116, 105, 110, 117, 101, 32, 114, 101, 116, 117, 114, 110, 32]]
def kLen : List Nat := [109, 67]
def kS0 : String := " ( ) { } [ ] , ; ? : = += -= *= /= %= &= |= ^= <<= >>= || && | ^ & == != < > <= >= << >> + - * / % ! ~ ++ -- "
def kS1 : String := " int void static ext" ++ "ern if else while do for break continue return "
/-- what nobody writes: the static table of words, the two texts of the reference, a static of String -/
def Stt (g : Gl) (A : Nat → Prop) (U : State) (H : Heap) : Prop :=
  va_Z "TokenRows" "WORDS" "[C" (.ref (gW g)) A U H ∧ va_T .char (gW g) 66 (fun j => .int (nI (wWd.getD j 0))) A U H ∧ vk_S 2 kLen kByt (gK g) (gV g) A U H ∧ vk_R "TokenRowsModel" 102 kS0 (gK g 0) U ∧ vk_R "TokenRowsModel" 115 kS1 (gK g 1) U ∧ va_Z "java/lang/String" "COMPACT_STRINGS" "Z" (.int 1) A U H ∧ va_Zq "jdk/internal/util/Preconditions" "SIOOBE_FORMATTER" "Ljava/util/function/BiFunction;" A U H
theorem Stt.warm {g : Gl} {A : Nat → Prop} {u U : State} {H : Heap} (hW : u.WarmedH U.vm) (h : Stt g A u H) : Stt g A U H := by
  obtain ⟨h1, h2, h3, h4, h5, h6, h7⟩ := h
  exact ⟨h1.moved hW.alike, h2.moved hW.alike, h3.moved hW.alike, h4.warm hW, h5.warm hW, h6.moved hW.alike, h7.moved hW.alike⟩
theorem Stt.same {g : Gl} {A : Nat → Prop} {u U : State} {H : Heap} (hv : U.vm = u.vm) (h : Stt g A u H) : Stt g A U H := by
  obtain ⟨h1, h2, h3, h4, h5, h6, h7⟩ := h
  have ha : u.vm.Alike U.vm := by rw [hv]; exact Vm.Alike.refl _
  exact ⟨h1.moved ha, h2.moved ha, h3.moved ha, h4.same hv, h5.same hv, h6.moved ha, h7.moved ha⟩
theorem Stt.kept {g : Gl} {A : Nat → Prop} {U : State} {H H1 : Heap} (h : Stt g A U H) (hq : ∀ a : Nat, a < H.size → ¬ A a → H1[a]? = H[a]?) : Stt g A U H1 := by
  obtain ⟨h1, h2, h3, h4, h5, h6, h7⟩ := h
  exact ⟨h1.kept hq, h2.kept hq, h3.kept hq, h4, h5, h6.kept hq, h7.kept hq⟩
theorem Stt.narrow {g : Gl} {A B : Nat → Prop} {U : State} {H : Heap} (h : Stt g A U H) (hAB : ∀ q, B q → A q) : Stt g B U H := by
  obtain ⟨h1, h2, h3, h4, h5, h6, h7⟩ := h
  exact ⟨h1.narrow hAB, h2.narrow hAB, h3.narrow hAB, h4, h5, h6.narrow hAB, h7.narrow hAB⟩
/-- what a method may take as given of the state, its own cells apart -/
def Env0 (g : Gl) (A : Nat → Prop) (U : State) (H : Heap) : Prop := va_K (gD g) vwCl (gT g) U ∧ Stt g A U H
theorem Env0.warm {g : Gl} {A : Nat → Prop} {u U : State} {H : Heap} (hW : u.WarmedH U.vm) (h : Env0 g A u H) : Env0 g A U H := ⟨va_K.moved hW.alike h.1, h.2.warm hW⟩
theorem Env0.same {g : Gl} {A : Nat → Prop} {u U : State} {H : Heap} (hv : U.vm = u.vm) (h : Env0 g A u H) : Env0 g A U H := ⟨va_K.moved (by rw [hv]; exact Vm.Alike.refl _) h.1, h.2.same hv⟩
theorem Env0.kept {g : Gl} {A : Nat → Prop} {U : State} {H H1 : Heap} (h : Env0 g A U H) (hq : ∀ a : Nat, a < H.size → ¬ A a → H1[a]? = H[a]?) : Env0 g A U H1 := ⟨h.1, h.2.kept hq⟩
theorem Env0.narrow {g : Gl} {A B : Nat → Prop} {U : State} {H : Heap} (h : Env0 g A U H) (hAB : ∀ q, B q → A q) : Env0 g B U H := ⟨h.1, h.2.narrow hAB⟩
/-- a contract: from the cells w, with arguments As, the method y returns r and leaves the cells v; k cells of n slots are new -/
def Ctr (g : Gl) (y : MethodName) (ws : List Cond) (rm : Room) (As : List Value) (w : va_W) (r : Option Value) (v : va_W) (k n : Nat) : Prop :=
  ∀ (l : Launch) (sz : Nat), Met l y ws rm (va_Pc As (fun U => U.heap.size = sz ∧ va_P (gD g) vwCl w U.heap ∧ Env0 g (va_A w sz) U U.heap ∧ va_D (fun _ => True) w)) (fun _ st oc t => (oc = .returned r ∧ va_P (gD g) vwCl v t.heap ∧ va_D (va_A w sz) v) ∧ va_F (va_A w sz) st t) k n (va_A w sz)
abbrev Cx : Type := Program × Launch × Env × Room × State × MethodId × Array Value × List Frame × Method × Code × (Nat → Prop) × Nat × (State → Prop)
def G (g : Gl) (X : Cx) (q : Nat × Nat) (ws : va_W) (pc : Nat) (lv : List (Nat × Value)) (st : List Value) : Prop :=
  match X with
  | (p, l, e, R, s, m, args, below, meth, c, A, nL, Q) => ∀ (H : Heap) (locs : List Loc) (ls : Array Slot), va_P (gD g) vwCl ws H → va_D A ws → va_S A s.heap H locs → lv_has ls nL lv → W p l e R s m args below meth c H locs q.1 q.2 Q (F0 m pc ls st)
def Ok (g : Gl) (X : Cx) (cc : ByteArray) (own : String) (Ts : List Cond) (rm : Room) (ret : Option FieldType) (nL' : Nat) : Prop :=
  match X with
  | (p, _, _, R, s, m, args, _, meth, c, A, nL, _) => p.tables.exec = Jvm.exec ∧ c.code = cc ∧ c.maxLocals = nL ∧ s.vm.findClass own = some m.cls ∧ (∀ w ∈ Ts, w.before args s = true) ∧ Env0 g A s s.heap ∧ (∀ q : Nat, s.heap.size ≤ q → A q) ∧ R = rm ∧ meth.sig.returnType = ret ∧ meth.locks = false ∧ nL = nL'

section GR
variable {g : Gl} {X : Cx} {cc : ByteArray} {own : String} {Ts : List Cond} {rm : Room} {ret : Option FieldType} {nL : Nat} {q : Nat × Nat} {ws : va_W} {pc : Nat} {lv : List (Nat × Value)} {rest : List Value}
theorem g_iconst (C : Ok g X cc own Ts rm ret nL) {n : Int} {v : Int32} (d : decode cc pc = .ok (.iconst n, 1)) (hv : Int32.ofInt n = v) (k : G g X q ws (pc + 1) lv (.int v :: rest)) : G g X q ws pc lv rest := by
  obtain ⟨p, l, e, R, s, m, args, below, meth, c, A, n9, Q⟩ := X
  obtain ⟨hx, hb, hml, hown, hts, hE, hA, rfl, hr, hlk, rfl⟩ := C
  intro H locs ls hP hD hS hl
  exact lv_iconst hx hb d hv (k H locs ls hP hD hS hl)
theorem g_bipush (C : Ok g X cc own Ts rm ret nL) {n : Int} {v : Int32} (d : decode cc pc = .ok (.bipush n, 2)) (hv : (Int8.ofInt n).toInt32 = v) (k : G g X q ws (pc + 2) lv (.int v :: rest)) : G g X q ws pc lv rest := by
  obtain ⟨p, l, e, R, s, m, args, below, meth, c, A, n9, Q⟩ := X
  obtain ⟨hx, hb, hml, hown, hts, hE, hA, rfl, hr, hlk, rfl⟩ := C
  intro H locs ls hP hD hS hl
  exact lv_bipush hx hb d hv (k H locs ls hP hD hS hl)
theorem g_sipush (C : Ok g X cc own Ts rm ret nL) {n : Int} {v : Int32} (d : decode cc pc = .ok (.sipush n, 3)) (hv : (Int16.ofInt n).toInt32 = v) (k : G g X q ws (pc + 3) lv (.int v :: rest)) : G g X q ws pc lv rest := by
  obtain ⟨p, l, e, R, s, m, args, below, meth, c, A, n9, Q⟩ := X
  obtain ⟨hx, hb, hml, hown, hts, hE, hA, rfl, hr, hlk, rfl⟩ := C
  intro H locs ls hP hD hS hl
  exact lv_sipush hx hb d hv (k H locs ls hP hD hS hl)
theorem g_lconst (C : Ok g X cc own Ts rm ret nL) {n : Fin 2} {v : Int64} (d : decode cc pc = .ok (.lconst n, 1)) (hv : Int64.ofNat (n : Nat) = v) (k : G g X q ws (pc + 1) lv (.long v :: rest)) : G g X q ws pc lv rest := by
  obtain ⟨p, l, e, R, s, m, args, below, meth, c, A, n9, Q⟩ := X
  obtain ⟨hx, hb, hml, hown, hts, hE, hA, rfl, hr, hlk, rfl⟩ := C
  intro H locs ls hP hD hS hl
  exact lv_lconst hx hb d hv (k H locs ls hP hD hS hl)
theorem g_ldc (C : Ok g X cc own Ts rm ret nL) {idx : Nat} {v : Int32} (d : decode cc pc = .ok (.ldc idx, 2)) (hm : Cond.constant own idx v ∈ Ts) (k : G g X q ws (pc + 2) lv (.int v :: rest)) : G g X q ws pc lv rest := by
  obtain ⟨p, l, e, R, s, m, args, below, meth, c, A, n9, Q⟩ := X
  obtain ⟨hx, hb, hml, hown, hts, hE, hA, rfl, hr, hlk, rfl⟩ := C
  intro H locs ls hP hD hS hl
  exact lv_ldc hx hb hown (hts _ hm) d (k H locs ls hP hD hS hl)
theorem g_ldc2 (C : Ok g X cc own Ts rm ret nL) {idx : Nat} {v : Int64} (d : decode cc pc = .ok (.ldc2_w idx, 3)) (hm : Cond.constantLong own idx v ∈ Ts) (k : G g X q ws (pc + 3) lv (.long v :: rest)) : G g X q ws pc lv rest := by
  obtain ⟨p, l, e, R, s, m, args, below, meth, c, A, n9, Q⟩ := X
  obtain ⟨hx, hb, hml, hown, hts, hE, hA, rfl, hr, hlk, rfl⟩ := C
  intro H locs ls hP hD hS hl
  exact lv_ldc2 hx hb hown (hts _ hm) d (k H locs ls hP hD hS hl)
theorem g_iload_n (C : Ok g X cc own Ts rm ret nL) {j : Fin 4} {x : Int32} (d : decode cc pc = .ok (.iload_n j, 1)) (o : Nat) (hl0 : lv[o]? = some ((j : Nat), .int x)) (k : G g X q ws (pc + 1) lv (.int x :: rest)) : G g X q ws pc lv rest := by
  obtain ⟨p, l, e, R, s, m, args, below, meth, c, A, n9, Q⟩ := X
  obtain ⟨hx, hb, hml, hown, hts, hE, hA, rfl, hr, hlk, rfl⟩ := C
  intro H locs ls hP hD hS hl
  exact lv_iload_n hx hb d rfl (lv_at hl o hl0) (k H locs ls hP hD hS hl)
theorem g_iload (C : Ok g X cc own Ts rm ret nL) {j : Nat} {x : Int32} (d : decode cc pc = .ok (.iload j, 2)) (o : Nat) (hl0 : lv[o]? = some (j, .int x)) (k : G g X q ws (pc + 2) lv (.int x :: rest)) : G g X q ws pc lv rest := by
  obtain ⟨p, l, e, R, s, m, args, below, meth, c, A, n9, Q⟩ := X
  obtain ⟨hx, hb, hml, hown, hts, hE, hA, rfl, hr, hlk, rfl⟩ := C
  intro H locs ls hP hD hS hl
  exact lv_iload hx hb d (lv_at hl o hl0) (k H locs ls hP hD hS hl)
theorem g_lload_n (C : Ok g X cc own Ts rm ret nL) {j : Fin 4} {x : Int64} (d : decode cc pc = .ok (.lload_n j, 1)) (o : Nat) (hl0 : lv[o]? = some ((j : Nat), .long x)) (k : G g X q ws (pc + 1) lv (.long x :: rest)) : G g X q ws pc lv rest := by
  obtain ⟨p, l, e, R, s, m, args, below, meth, c, A, n9, Q⟩ := X
  obtain ⟨hx, hb, hml, hown, hts, hE, hA, rfl, hr, hlk, rfl⟩ := C
  intro H locs ls hP hD hS hl
  exact lv_lload_n hx hb d rfl (lv_at hl o hl0) (k H locs ls hP hD hS hl)
theorem g_lload (C : Ok g X cc own Ts rm ret nL) {j : Nat} {x : Int64} (d : decode cc pc = .ok (.lload j, 2)) (o : Nat) (hl0 : lv[o]? = some (j, .long x)) (k : G g X q ws (pc + 2) lv (.long x :: rest)) : G g X q ws pc lv rest := by
  obtain ⟨p, l, e, R, s, m, args, below, meth, c, A, n9, Q⟩ := X
  obtain ⟨hx, hb, hml, hown, hts, hE, hA, rfl, hr, hlk, rfl⟩ := C
  intro H locs ls hP hD hS hl
  exact lv_lload hx hb d (lv_at hl o hl0) (k H locs ls hP hD hS hl)
theorem g_aload_n (C : Ok g X cc own Ts rm ret nL) {j : Fin 4} {x : Nat} (d : decode cc pc = .ok (.aload_n j, 1)) (o : Nat) (hl0 : lv[o]? = some ((j : Nat), .ref x)) (k : G g X q ws (pc + 1) lv (.ref x :: rest)) : G g X q ws pc lv rest := by
  obtain ⟨p, l, e, R, s, m, args, below, meth, c, A, n9, Q⟩ := X
  obtain ⟨hx, hb, hml, hown, hts, hE, hA, rfl, hr, hlk, rfl⟩ := C
  intro H locs ls hP hD hS hl
  exact lv_aload_n hx hb d rfl (lv_at hl o hl0) (k H locs ls hP hD hS hl)
theorem g_aload (C : Ok g X cc own Ts rm ret nL) {j : Nat} {x : Nat} (d : decode cc pc = .ok (.aload j, 2)) (o : Nat) (hl0 : lv[o]? = some (j, .ref x)) (k : G g X q ws (pc + 2) lv (.ref x :: rest)) : G g X q ws pc lv rest := by
  obtain ⟨p, l, e, R, s, m, args, below, meth, c, A, n9, Q⟩ := X
  obtain ⟨hx, hb, hml, hown, hts, hE, hA, rfl, hr, hlk, rfl⟩ := C
  intro H locs ls hP hD hS hl
  exact lv_aload hx hb d (lv_at hl o hl0) (k H locs ls hP hD hS hl)
theorem g_istore_n (C : Ok g X cc own Ts rm ret nL) {j : Fin 4} {x : Int32} {lv' : List (Nat × Value)} (d : decode cc pc = .ok (.istore_n j, 1)) (hn : (j : Nat) < nL) (hlv : ((j : Nat), Value.int x) :: lv.filter (fun q => !(q.1 == (j : Nat)) && !(q.1 + 1 == (j : Nat) && q.2.category == 2)) = lv') (k : G g X q ws (pc + 1) lv' rest) : G g X q ws pc lv (.int x :: rest) := by
  obtain ⟨p, l, e, R, s, m, args, below, meth, c, A, n9, Q⟩ := X
  obtain ⟨hx, hb, hml, hown, hts, hE, hA, rfl, hr, hlk, rfl⟩ := C
  intro H locs ls hP hD hS hl
  exact lv_istore_n hx hb d rfl hl hn hlv (fun ls hl => k H locs ls hP hD hS hl)
theorem g_istore (C : Ok g X cc own Ts rm ret nL) {j : Nat} {x : Int32} {lv' : List (Nat × Value)} (d : decode cc pc = .ok (.istore j, 2)) (hn : j < nL) (hlv : (j, Value.int x) :: lv.filter (fun q => !(q.1 == j) && !(q.1 + 1 == j && q.2.category == 2)) = lv') (k : G g X q ws (pc + 2) lv' rest) : G g X q ws pc lv (.int x :: rest) := by
  obtain ⟨p, l, e, R, s, m, args, below, meth, c, A, n9, Q⟩ := X
  obtain ⟨hx, hb, hml, hown, hts, hE, hA, rfl, hr, hlk, rfl⟩ := C
  intro H locs ls hP hD hS hl
  exact lv_istore hx hb d hl hn hlv (fun ls hl => k H locs ls hP hD hS hl)
theorem g_astore_n (C : Ok g X cc own Ts rm ret nL) {j : Fin 4} {x : Nat} {lv' : List (Nat × Value)} (d : decode cc pc = .ok (.astore_n j, 1)) (hn : (j : Nat) < nL) (hlv : ((j : Nat), Value.ref x) :: lv.filter (fun q => !(q.1 == (j : Nat)) && !(q.1 + 1 == (j : Nat) && q.2.category == 2)) = lv') (k : G g X q ws (pc + 1) lv' rest) : G g X q ws pc lv (.ref x :: rest) := by
  obtain ⟨p, l, e, R, s, m, args, below, meth, c, A, n9, Q⟩ := X
  obtain ⟨hx, hb, hml, hown, hts, hE, hA, rfl, hr, hlk, rfl⟩ := C
  intro H locs ls hP hD hS hl
  exact lv_astore_n hx hb d rfl hl hn hlv (fun ls hl => k H locs ls hP hD hS hl)
theorem g_astore (C : Ok g X cc own Ts rm ret nL) {j : Nat} {x : Nat} {lv' : List (Nat × Value)} (d : decode cc pc = .ok (.astore j, 2)) (hn : j < nL) (hlv : (j, Value.ref x) :: lv.filter (fun q => !(q.1 == j) && !(q.1 + 1 == j && q.2.category == 2)) = lv') (k : G g X q ws (pc + 2) lv' rest) : G g X q ws pc lv (.ref x :: rest) := by
  obtain ⟨p, l, e, R, s, m, args, below, meth, c, A, n9, Q⟩ := X
  obtain ⟨hx, hb, hml, hown, hts, hE, hA, rfl, hr, hlk, rfl⟩ := C
  intro H locs ls hP hD hS hl
  exact lv_astore hx hb d hl hn hlv (fun ls hl => k H locs ls hP hD hS hl)
theorem g_lstore_n (C : Ok g X cc own Ts rm ret nL) {j : Fin 4} {x : Int64} {lv' : List (Nat × Value)} (d : decode cc pc = .ok (.lstore_n j, 1)) (hn : (j : Nat) + 1 < nL) (hlv : ((j : Nat), Value.long x) :: lv.filter (fun q => !(q.1 == (j : Nat)) && (!(q.1 == (j : Nat) + 1) && !(q.1 + 1 == (j : Nat) && q.2.category == 2))) = lv') (k : G g X q ws (pc + 1) lv' rest) : G g X q ws pc lv (.long x :: rest) := by
  obtain ⟨p, l, e, R, s, m, args, below, meth, c, A, n9, Q⟩ := X
  obtain ⟨hx, hb, hml, hown, hts, hE, hA, rfl, hr, hlk, rfl⟩ := C
  intro H locs ls hP hD hS hl
  exact lv_lstore_n hx hb d rfl hl hn hlv (fun ls hl => k H locs ls hP hD hS hl)
theorem g_lstore (C : Ok g X cc own Ts rm ret nL) {j : Nat} {x : Int64} {lv' : List (Nat × Value)} (d : decode cc pc = .ok (.lstore j, 2)) (hn : j + 1 < nL) (hlv : (j, Value.long x) :: lv.filter (fun q => !(q.1 == j) && (!(q.1 == j + 1) && !(q.1 + 1 == j && q.2.category == 2))) = lv') (k : G g X q ws (pc + 2) lv' rest) : G g X q ws pc lv (.long x :: rest) := by
  obtain ⟨p, l, e, R, s, m, args, below, meth, c, A, n9, Q⟩ := X
  obtain ⟨hx, hb, hml, hown, hts, hE, hA, rfl, hr, hlk, rfl⟩ := C
  intro H locs ls hP hD hS hl
  exact lv_lstore hx hb d hl hn hlv (fun ls hl => k H locs ls hP hD hS hl)
theorem g_iinc (C : Ok g X cc own Ts rm ret nL) {j o : Nat} {n : Int} {x v : Int32} {lv' : List (Nat × Value)} (d : decode cc pc = .ok (.iinc j n, 3)) (hk : lv[o]? = some (j, .int x)) (hv : x + Int32.ofInt n = v) (hn : j < nL) (hlv : (j, Value.int v) :: lv.filter (fun q => !(q.1 == j) && !(q.1 + 1 == j && q.2.category == 2)) = lv') (k : G g X q ws (pc + 3) lv' rest) : G g X q ws pc lv rest := by
  obtain ⟨p, l, e, R, s, m, args, below, meth, c, A, n9, Q⟩ := X
  obtain ⟨hx, hb, hml, hown, hts, hE, hA, rfl, hr, hlk, rfl⟩ := C
  intro H locs ls hP hD hS hl
  exact lv_iinc hx hb d hl hk hv hn hlv (fun ls hl => k H locs ls hP hD hS hl)
theorem g_iadd (C : Ok g X cc own Ts rm ret nL) {x y : Int32} (d : decode cc pc = .ok (.iadd, 1)) (k : G g X q ws (pc + 1) lv (.int (x + y) :: rest)) : G g X q ws pc lv (.int y :: .int x :: rest) := by
  obtain ⟨p, l, e, R, s, m, args, below, meth, c, A, n9, Q⟩ := X
  obtain ⟨hx, hb, hml, hown, hts, hE, hA, rfl, hr, hlk, rfl⟩ := C
  intro H locs ls hP hD hS hl
  exact lv_iadd hx hb d (k H locs ls hP hD hS hl)
theorem g_isub (C : Ok g X cc own Ts rm ret nL) {x y : Int32} (d : decode cc pc = .ok (.isub, 1)) (k : G g X q ws (pc + 1) lv (.int (x - y) :: rest)) : G g X q ws pc lv (.int y :: .int x :: rest) := by
  obtain ⟨p, l, e, R, s, m, args, below, meth, c, A, n9, Q⟩ := X
  obtain ⟨hx, hb, hml, hown, hts, hE, hA, rfl, hr, hlk, rfl⟩ := C
  intro H locs ls hP hD hS hl
  exact lv_isub hx hb d (k H locs ls hP hD hS hl)
theorem g_imul (C : Ok g X cc own Ts rm ret nL) {x y : Int32} (d : decode cc pc = .ok (.imul, 1)) (k : G g X q ws (pc + 1) lv (.int (x * y) :: rest)) : G g X q ws pc lv (.int y :: .int x :: rest) := by
  obtain ⟨p, l, e, R, s, m, args, below, meth, c, A, n9, Q⟩ := X
  obtain ⟨hx, hb, hml, hown, hts, hE, hA, rfl, hr, hlk, rfl⟩ := C
  intro H locs ls hP hD hS hl
  exact lv_imul hx hb d (k H locs ls hP hD hS hl)
theorem g_iand (C : Ok g X cc own Ts rm ret nL) {x y : Int32} (d : decode cc pc = .ok (.iand, 1)) (k : G g X q ws (pc + 1) lv (.int (x &&& y) :: rest)) : G g X q ws pc lv (.int y :: .int x :: rest) := by
  obtain ⟨p, l, e, R, s, m, args, below, meth, c, A, n9, Q⟩ := X
  obtain ⟨hx, hb, hml, hown, hts, hE, hA, rfl, hr, hlk, rfl⟩ := C
  intro H locs ls hP hD hS hl
  exact lv_iand hx hb d (k H locs ls hP hD hS hl)
theorem g_ior (C : Ok g X cc own Ts rm ret nL) {x y : Int32} (d : decode cc pc = .ok (.ior, 1)) (k : G g X q ws (pc + 1) lv (.int (x ||| y) :: rest)) : G g X q ws pc lv (.int y :: .int x :: rest) := by
  obtain ⟨p, l, e, R, s, m, args, below, meth, c, A, n9, Q⟩ := X
  obtain ⟨hx, hb, hml, hown, hts, hE, hA, rfl, hr, hlk, rfl⟩ := C
  intro H locs ls hP hD hS hl
  exact lv_ior hx hb d (k H locs ls hP hD hS hl)
theorem g_ladd (C : Ok g X cc own Ts rm ret nL) {x y : Int64} (d : decode cc pc = .ok (.ladd, 1)) (k : G g X q ws (pc + 1) lv (.long (x + y) :: rest)) : G g X q ws pc lv (.long y :: .long x :: rest) := by
  obtain ⟨p, l, e, R, s, m, args, below, meth, c, A, n9, Q⟩ := X
  obtain ⟨hx, hb, hml, hown, hts, hE, hA, rfl, hr, hlk, rfl⟩ := C
  intro H locs ls hP hD hS hl
  exact lv_ladd hx hb d (k H locs ls hP hD hS hl)
theorem g_lsub (C : Ok g X cc own Ts rm ret nL) {x y : Int64} (d : decode cc pc = .ok (.lsub, 1)) (k : G g X q ws (pc + 1) lv (.long (x - y) :: rest)) : G g X q ws pc lv (.long y :: .long x :: rest) := by
  obtain ⟨p, l, e, R, s, m, args, below, meth, c, A, n9, Q⟩ := X
  obtain ⟨hx, hb, hml, hown, hts, hE, hA, rfl, hr, hlk, rfl⟩ := C
  intro H locs ls hP hD hS hl
  exact lv_lsub hx hb d (k H locs ls hP hD hS hl)
theorem g_lmul (C : Ok g X cc own Ts rm ret nL) {x y : Int64} (d : decode cc pc = .ok (.lmul, 1)) (k : G g X q ws (pc + 1) lv (.long (x * y) :: rest)) : G g X q ws pc lv (.long y :: .long x :: rest) := by
  obtain ⟨p, l, e, R, s, m, args, below, meth, c, A, n9, Q⟩ := X
  obtain ⟨hx, hb, hml, hown, hts, hE, hA, rfl, hr, hlk, rfl⟩ := C
  intro H locs ls hP hD hS hl
  exact lv_lmul hx hb d (k H locs ls hP hD hS hl)
theorem g_ishl (C : Ok g X cc own Ts rm ret nL) {x y : Int32} (d : decode cc pc = .ok (.ishl, 1)) (k : G g X q ws (pc + 1) lv (.int (x <<< (y &&& 31)) :: rest)) : G g X q ws pc lv (.int y :: .int x :: rest) := by
  obtain ⟨p, l, e, R, s, m, args, below, meth, c, A, n9, Q⟩ := X
  obtain ⟨hx, hb, hml, hown, hts, hE, hA, rfl, hr, hlk, rfl⟩ := C
  intro H locs ls hP hD hS hl
  exact lv_ishl hx hb d (k H locs ls hP hD hS hl)
theorem g_ishr (C : Ok g X cc own Ts rm ret nL) {x y : Int32} (d : decode cc pc = .ok (.ishr, 1)) (k : G g X q ws (pc + 1) lv (.int (x >>> (y &&& 31)) :: rest)) : G g X q ws pc lv (.int y :: .int x :: rest) := by
  obtain ⟨p, l, e, R, s, m, args, below, meth, c, A, n9, Q⟩ := X
  obtain ⟨hx, hb, hml, hown, hts, hE, hA, rfl, hr, hlk, rfl⟩ := C
  intro H locs ls hP hD hS hl
  exact lv_ishr hx hb d (k H locs ls hP hD hS hl)
theorem g_iushr (C : Ok g X cc own Ts rm ret nL) {x y v : Int32} (d : decode cc pc = .ok (.iushr, 1)) (hv : (x.toUInt32 >>> (y.toUInt32 &&& Int32.toUInt32 31)).toInt32 = v) (k : G g X q ws (pc + 1) lv (.int v :: rest)) : G g X q ws pc lv (.int y :: .int x :: rest) := by
  obtain ⟨p, l, e, R, s, m, args, below, meth, c, A, n9, Q⟩ := X
  obtain ⟨hx, hb, hml, hown, hts, hE, hA, rfl, hr, hlk, rfl⟩ := C
  intro H locs ls hP hD hS hl
  exact lv_iushr hx hb d hv (k H locs ls hP hD hS hl)
theorem g_i2b (C : Ok g X cc own Ts rm ret nL) {x v : Int32} (d : decode cc pc = .ok (.i2b, 1)) (hv : x.toInt8.toInt32 = v) (k : G g X q ws (pc + 1) lv (.int v :: rest)) : G g X q ws pc lv (.int x :: rest) := by
  obtain ⟨p, l, e, R, s, m, args, below, meth, c, A, n9, Q⟩ := X
  obtain ⟨hx, hb, hml, hown, hts, hE, hA, rfl, hr, hlk, rfl⟩ := C
  intro H locs ls hP hD hS hl
  exact lv_i2b hx hb d hv (k H locs ls hP hD hS hl)
theorem g_i2c (C : Ok g X cc own Ts rm ret nL) {x v : Int32} (d : decode cc pc = .ok (.i2c, 1)) (hv : (x.toUInt32 % 65536).toInt32 = v) (k : G g X q ws (pc + 1) lv (.int v :: rest)) : G g X q ws pc lv (.int x :: rest) := by
  obtain ⟨p, l, e, R, s, m, args, below, meth, c, A, n9, Q⟩ := X
  obtain ⟨hx, hb, hml, hown, hts, hE, hA, rfl, hr, hlk, rfl⟩ := C
  intro H locs ls hP hD hS hl
  exact lv_i2c hx hb d hv (k H locs ls hP hD hS hl)
theorem g_i2l (C : Ok g X cc own Ts rm ret nL) {x : Int32} {v : Int64} (d : decode cc pc = .ok (.i2l, 1)) (hv : x.toInt64 = v) (k : G g X q ws (pc + 1) lv (.long v :: rest)) : G g X q ws pc lv (.int x :: rest) := by
  obtain ⟨p, l, e, R, s, m, args, below, meth, c, A, n9, Q⟩ := X
  obtain ⟨hx, hb, hml, hown, hts, hE, hA, rfl, hr, hlk, rfl⟩ := C
  intro H locs ls hP hD hS hl
  exact lv_i2l hx hb d hv (k H locs ls hP hD hS hl)
theorem g_l2i (C : Ok g X cc own Ts rm ret nL) {x : Int64} {v : Int32} (d : decode cc pc = .ok (.l2i, 1)) (hv : x.toInt32 = v) (k : G g X q ws (pc + 1) lv (.int v :: rest)) : G g X q ws pc lv (.long x :: rest) := by
  obtain ⟨p, l, e, R, s, m, args, below, meth, c, A, n9, Q⟩ := X
  obtain ⟨hx, hb, hml, hown, hts, hE, hA, rfl, hr, hlk, rfl⟩ := C
  intro H locs ls hP hD hS hl
  exact lv_l2i hx hb d hv (k H locs ls hP hD hS hl)
theorem g_lcmp (C : Ok g X cc own Ts rm ret nL) {x y : Int64} (d : decode cc pc = .ok (.lcmp, 1)) (k : G g X q ws (pc + 1) lv (.int (lg_cmp x y) :: rest)) : G g X q ws pc lv (.long y :: .long x :: rest) := by
  obtain ⟨p, l, e, R, s, m, args, below, meth, c, A, n9, Q⟩ := X
  obtain ⟨hx, hb, hml, hown, hts, hE, hA, rfl, hr, hlk, rfl⟩ := C
  intro H locs ls hP hD hS hl
  exact W.lcmp hx hb d (k H locs ls hP hD hS hl)
theorem g_pop (C : Ok g X cc own Ts rm ret nL) {va : Value} (d : decode cc pc = .ok (.pop, 1)) (hc : va.category = 1) (k : G g X q ws (pc + 1) lv rest) : G g X q ws pc lv (va :: rest) := by
  obtain ⟨p, l, e, R, s, m, args, below, meth, c, A, n9, Q⟩ := X
  obtain ⟨hx, hb, hml, hown, hts, hE, hA, rfl, hr, hlk, rfl⟩ := C
  intro H locs ls hP hD hS hl
  exact lv_pop hx hb d hc (k H locs ls hP hD hS hl)
theorem g_dup (C : Ok g X cc own Ts rm ret nL) {va : Value} (d : decode cc pc = .ok (.dup, 1)) (hc : va.category = 1) (k : G g X q ws (pc + 1) lv (va :: va :: rest)) : G g X q ws pc lv (va :: rest) := by
  obtain ⟨p, l, e, R, s, m, args, below, meth, c, A, n9, Q⟩ := X
  obtain ⟨hx, hb, hml, hown, hts, hE, hA, rfl, hr, hlk, rfl⟩ := C
  intro H locs ls hP hD hS hl
  exact lv_dup hx hb d hc (k H locs ls hP hD hS hl)
theorem g_goto (C : Ok g X cc own Ts rm ret nL) {off : Int} {tgt : Nat} (d : decode cc pc = .ok (.goto off, 3)) (ht : (pc : Int) + off = (tgt : Int)) (k : G g X q ws tgt lv rest) : G g X q ws pc lv rest := by
  obtain ⟨p, l, e, R, s, m, args, below, meth, c, A, n9, Q⟩ := X
  obtain ⟨hx, hb, hml, hown, hts, hE, hA, rfl, hr, hlk, rfl⟩ := C
  intro H locs ls hP hD hS hl
  exact lv_goto hx hb d ht (k H locs ls hP hD hS hl)
theorem g_if_eq (C : Ok g X cc own Ts rm ret nL) {x : Int32} {off : Int} {tgt : Nat} (d : decode cc pc = .ok (.ifCond .eq off, 3)) (ht : (pc : Int) + off = (tgt : Int)) (kt : x = 0 → G g X q ws tgt lv rest) (kf : ¬ x = 0 → G g X q ws (pc + 3) lv rest) : G g X q ws pc lv (.int x :: rest) := by
  obtain ⟨p, l, e, R, s, m, args, below, meth, c, A, n9, Q⟩ := X
  obtain ⟨hx, hb, hml, hown, hts, hE, hA, rfl, hr, hlk, rfl⟩ := C
  intro H locs ls hP hD hS hl
  exact lv_if_eq hx hb d ht (fun h => kt h H locs ls hP hD hS hl) (fun h => kf h H locs ls hP hD hS hl)
theorem g_icmp_eq (C : Ok g X cc own Ts rm ret nL) {x y : Int32} {off : Int} {tgt : Nat} (d : decode cc pc = .ok (.if_icmp .eq off, 3)) (ht : (pc : Int) + off = (tgt : Int)) (kt : x = y → G g X q ws tgt lv rest) (kf : ¬ x = y → G g X q ws (pc + 3) lv rest) : G g X q ws pc lv (.int y :: .int x :: rest) := by
  obtain ⟨p, l, e, R, s, m, args, below, meth, c, A, n9, Q⟩ := X
  obtain ⟨hx, hb, hml, hown, hts, hE, hA, rfl, hr, hlk, rfl⟩ := C
  intro H locs ls hP hD hS hl
  exact lv_icmp_eq hx hb d ht (fun h => kt h H locs ls hP hD hS hl) (fun h => kf h H locs ls hP hD hS hl)
theorem g_if_ne (C : Ok g X cc own Ts rm ret nL) {x : Int32} {off : Int} {tgt : Nat} (d : decode cc pc = .ok (.ifCond .ne off, 3)) (ht : (pc : Int) + off = (tgt : Int)) (kt : ¬ x = 0 → G g X q ws tgt lv rest) (kf : x = 0 → G g X q ws (pc + 3) lv rest) : G g X q ws pc lv (.int x :: rest) := by
  obtain ⟨p, l, e, R, s, m, args, below, meth, c, A, n9, Q⟩ := X
  obtain ⟨hx, hb, hml, hown, hts, hE, hA, rfl, hr, hlk, rfl⟩ := C
  intro H locs ls hP hD hS hl
  exact lv_if_ne hx hb d ht (fun h => kt h H locs ls hP hD hS hl) (fun h => kf h H locs ls hP hD hS hl)
theorem g_icmp_ne (C : Ok g X cc own Ts rm ret nL) {x y : Int32} {off : Int} {tgt : Nat} (d : decode cc pc = .ok (.if_icmp .ne off, 3)) (ht : (pc : Int) + off = (tgt : Int)) (kt : ¬ x = y → G g X q ws tgt lv rest) (kf : x = y → G g X q ws (pc + 3) lv rest) : G g X q ws pc lv (.int y :: .int x :: rest) := by
  obtain ⟨p, l, e, R, s, m, args, below, meth, c, A, n9, Q⟩ := X
  obtain ⟨hx, hb, hml, hown, hts, hE, hA, rfl, hr, hlk, rfl⟩ := C
  intro H locs ls hP hD hS hl
  exact lv_icmp_ne hx hb d ht (fun h => kt h H locs ls hP hD hS hl) (fun h => kf h H locs ls hP hD hS hl)
theorem g_if_lt (C : Ok g X cc own Ts rm ret nL) {x : Int32} {off : Int} {tgt : Nat} (d : decode cc pc = .ok (.ifCond .lt off, 3)) (ht : (pc : Int) + off = (tgt : Int)) (kt : x < 0 → G g X q ws tgt lv rest) (kf : ¬ x < 0 → G g X q ws (pc + 3) lv rest) : G g X q ws pc lv (.int x :: rest) := by
  obtain ⟨p, l, e, R, s, m, args, below, meth, c, A, n9, Q⟩ := X
  obtain ⟨hx, hb, hml, hown, hts, hE, hA, rfl, hr, hlk, rfl⟩ := C
  intro H locs ls hP hD hS hl
  exact lv_if_lt hx hb d ht (fun h => kt h H locs ls hP hD hS hl) (fun h => kf h H locs ls hP hD hS hl)
theorem g_icmp_lt (C : Ok g X cc own Ts rm ret nL) {x y : Int32} {off : Int} {tgt : Nat} (d : decode cc pc = .ok (.if_icmp .lt off, 3)) (ht : (pc : Int) + off = (tgt : Int)) (kt : x < y → G g X q ws tgt lv rest) (kf : ¬ x < y → G g X q ws (pc + 3) lv rest) : G g X q ws pc lv (.int y :: .int x :: rest) := by
  obtain ⟨p, l, e, R, s, m, args, below, meth, c, A, n9, Q⟩ := X
  obtain ⟨hx, hb, hml, hown, hts, hE, hA, rfl, hr, hlk, rfl⟩ := C
  intro H locs ls hP hD hS hl
  exact lv_icmp_lt hx hb d ht (fun h => kt h H locs ls hP hD hS hl) (fun h => kf h H locs ls hP hD hS hl)
theorem g_if_ge (C : Ok g X cc own Ts rm ret nL) {x : Int32} {off : Int} {tgt : Nat} (d : decode cc pc = .ok (.ifCond .ge off, 3)) (ht : (pc : Int) + off = (tgt : Int)) (kt : 0 ≤ x → G g X q ws tgt lv rest) (kf : ¬ 0 ≤ x → G g X q ws (pc + 3) lv rest) : G g X q ws pc lv (.int x :: rest) := by
  obtain ⟨p, l, e, R, s, m, args, below, meth, c, A, n9, Q⟩ := X
  obtain ⟨hx, hb, hml, hown, hts, hE, hA, rfl, hr, hlk, rfl⟩ := C
  intro H locs ls hP hD hS hl
  exact lv_if_ge hx hb d ht (fun h => kt h H locs ls hP hD hS hl) (fun h => kf h H locs ls hP hD hS hl)
theorem g_icmp_ge (C : Ok g X cc own Ts rm ret nL) {x y : Int32} {off : Int} {tgt : Nat} (d : decode cc pc = .ok (.if_icmp .ge off, 3)) (ht : (pc : Int) + off = (tgt : Int)) (kt : y ≤ x → G g X q ws tgt lv rest) (kf : ¬ y ≤ x → G g X q ws (pc + 3) lv rest) : G g X q ws pc lv (.int y :: .int x :: rest) := by
  obtain ⟨p, l, e, R, s, m, args, below, meth, c, A, n9, Q⟩ := X
  obtain ⟨hx, hb, hml, hown, hts, hE, hA, rfl, hr, hlk, rfl⟩ := C
  intro H locs ls hP hD hS hl
  exact lv_icmp_ge hx hb d ht (fun h => kt h H locs ls hP hD hS hl) (fun h => kf h H locs ls hP hD hS hl)
theorem g_if_gt (C : Ok g X cc own Ts rm ret nL) {x : Int32} {off : Int} {tgt : Nat} (d : decode cc pc = .ok (.ifCond .gt off, 3)) (ht : (pc : Int) + off = (tgt : Int)) (kt : 0 < x → G g X q ws tgt lv rest) (kf : ¬ 0 < x → G g X q ws (pc + 3) lv rest) : G g X q ws pc lv (.int x :: rest) := by
  obtain ⟨p, l, e, R, s, m, args, below, meth, c, A, n9, Q⟩ := X
  obtain ⟨hx, hb, hml, hown, hts, hE, hA, rfl, hr, hlk, rfl⟩ := C
  intro H locs ls hP hD hS hl
  exact lv_if_gt hx hb d ht (fun h => kt h H locs ls hP hD hS hl) (fun h => kf h H locs ls hP hD hS hl)
theorem g_icmp_gt (C : Ok g X cc own Ts rm ret nL) {x y : Int32} {off : Int} {tgt : Nat} (d : decode cc pc = .ok (.if_icmp .gt off, 3)) (ht : (pc : Int) + off = (tgt : Int)) (kt : y < x → G g X q ws tgt lv rest) (kf : ¬ y < x → G g X q ws (pc + 3) lv rest) : G g X q ws pc lv (.int y :: .int x :: rest) := by
  obtain ⟨p, l, e, R, s, m, args, below, meth, c, A, n9, Q⟩ := X
  obtain ⟨hx, hb, hml, hown, hts, hE, hA, rfl, hr, hlk, rfl⟩ := C
  intro H locs ls hP hD hS hl
  exact lv_icmp_gt hx hb d ht (fun h => kt h H locs ls hP hD hS hl) (fun h => kf h H locs ls hP hD hS hl)
theorem g_if_le (C : Ok g X cc own Ts rm ret nL) {x : Int32} {off : Int} {tgt : Nat} (d : decode cc pc = .ok (.ifCond .le off, 3)) (ht : (pc : Int) + off = (tgt : Int)) (kt : x ≤ 0 → G g X q ws tgt lv rest) (kf : ¬ x ≤ 0 → G g X q ws (pc + 3) lv rest) : G g X q ws pc lv (.int x :: rest) := by
  obtain ⟨p, l, e, R, s, m, args, below, meth, c, A, n9, Q⟩ := X
  obtain ⟨hx, hb, hml, hown, hts, hE, hA, rfl, hr, hlk, rfl⟩ := C
  intro H locs ls hP hD hS hl
  exact lv_if_le hx hb d ht (fun h => kt h H locs ls hP hD hS hl) (fun h => kf h H locs ls hP hD hS hl)
theorem g_icmp_le (C : Ok g X cc own Ts rm ret nL) {x y : Int32} {off : Int} {tgt : Nat} (d : decode cc pc = .ok (.if_icmp .le off, 3)) (ht : (pc : Int) + off = (tgt : Int)) (kt : x ≤ y → G g X q ws tgt lv rest) (kf : ¬ x ≤ y → G g X q ws (pc + 3) lv rest) : G g X q ws pc lv (.int y :: .int x :: rest) := by
  obtain ⟨p, l, e, R, s, m, args, below, meth, c, A, n9, Q⟩ := X
  obtain ⟨hx, hb, hml, hown, hts, hE, hA, rfl, hr, hlk, rfl⟩ := C
  intro H locs ls hP hD hS hl
  exact lv_icmp_le hx hb d ht (fun h => kt h H locs ls hP hD hS hl) (fun h => kf h H locs ls hP hD hS hl)
theorem g_lookup (C : Ok g X cc own Ts rm ret nL) {dflt : Int} {ps : Array (Int × Int)} {len : Nat} {x : Int32} {off : Int} {tgt : Nat} (d : decode cc pc = .ok (.lookupswitch dflt ps, len)) (hp : (ps.toList.zip (ps.toList.drop 1)).all (fun (a, next) => a.1 < next.1) = true) (ho : Op.lookupswitch.offset ps.toList dflt x.toInt = off) (ht : (pc : Int) + off = (tgt : Int)) (k : G g X q ws tgt lv rest) : G g X q ws pc lv (.int x :: rest) := by
  obtain ⟨p, l, e, R, s, m, args, below, meth, c, A, n9, Q⟩ := X
  obtain ⟨hx, hb, hml, hown, hts, hE, hA, rfl, hr, hlk, rfl⟩ := C
  intro H locs ls hP hD hS hl
  exact lv_lookup hx hb d hp ho ht (k H locs ls hP hD hS hl)
theorem g_tableOut (C : Ok g X cc own Ts rm ret nL) {dflt lo hi : Int} {offs : Array Int} {len : Nat} {x : Int32} {tgt : Nat} (d : decode cc pc = .ok (.tableswitch dflt lo hi offs, len)) (h : x.toInt < lo ∨ hi < x.toInt) (ht : (pc : Int) + dflt = (tgt : Int)) (k : G g X q ws tgt lv rest) : G g X q ws pc lv (.int x :: rest) := by
  obtain ⟨p, l, e, R, s, m, args, below, meth, c, A, n9, Q⟩ := X
  obtain ⟨hx, hb, hml, hown, hts, hE, hA, rfl, hr, hlk, rfl⟩ := C
  intro H locs ls hP hD hS hl
  exact lv_tableOut hx hb d h ht (k H locs ls hP hD hS hl)
theorem g_tableIn (C : Ok g X cc own Ts rm ret nL) {dflt lo hi : Int} {offs : Array Int} {len : Nat} {x : Int32} {off : Int} {tgt : Nat} (d : decode cc pc = .ok (.tableswitch dflt lo hi offs, len)) (h1 : ¬ x.toInt < lo) (h2 : ¬ hi < x.toInt) (ho : offs[(x.toInt - lo).toNat]? = some off) (ht : (pc : Int) + off = (tgt : Int)) (k : G g X q ws tgt lv rest) : G g X q ws pc lv (.int x :: rest) := by
  obtain ⟨p, l, e, R, s, m, args, below, meth, c, A, n9, Q⟩ := X
  obtain ⟨hx, hb, hml, hown, hts, hE, hA, rfl, hr, hlk, rfl⟩ := C
  intro H locs ls hP hD hS hl
  exact lv_tableIn hx hb d h1 h2 ho ht (k H locs ls hP hD hS hl)
theorem g_get0 (C : Ok g X cc own Ts rm ret nL) (hin : ∀ w ∈ wsX00, w ∈ Ts) {idx a : Nat} {fs : List Value} {v : Value} (o : Nat) (he : ws[o]? = some (a, .inr (0, fs))) (k0 : Nat) (hk : k0 < 13) (hm : Cond.fieldLink own idx (TX0 k0).1 (TX0 k0).2.1 (TX0 k0).2.2.1 ∈ Ts) (hv : fs[k0]? = some v) (d : decode cc pc = .ok (.getfield idx, 3)) (k : G g X q ws (pc + 3) lv (v :: rest)) : G g X q ws pc lv (.ref a :: rest) := by
  obtain ⟨p, l, e, R, s, m, args, below, meth, c, A, n9, Q⟩ := X
  obtain ⟨hx, hb, hml, hown, hts, hE, hA, rfl, hr, hlk, rfl⟩ := C
  intro H locs ls hP hD hS hl
  exact va_get (C := RX0) (T := TX0) (N := 13) (ref := (TX0 k0).1) hx hb hts hin hown hE.1 hP o he rfl k0 hk (hts _ hm) (fun _ h => h) hv d (k H locs ls hP hD hS hl)
theorem g_put0 (C : Ok g X cc own Ts rm ret nL) (hin : ∀ w ∈ wsX00, w ∈ Ts) {idx a : Nat} {fs : List Value} {v : Value} {ws' : va_W} (o : Nat) (he : ws[o]? = some (a, .inr (0, fs))) (k0 : Nat) (hk : k0 < 13) (hm : Cond.fieldLink own idx (TX0 k0).1 (TX0 k0).2.1 (TX0 k0).2.2.1 ∈ Ts) (hf : (TX0 k0).2.2.2 = false) (hn : narrow (tyX0 k0) v = v) (hfit : fits (tyX0 k0) v = true) (hl0 : k0 < fs.length) (hw : ws.set o (a, .inr (0, fs.set k0 v)) = ws') (d : decode cc pc = .ok (.putfield idx, 3)) (k : G g X q ws' (pc + 3) lv rest) : G g X q ws pc lv (v :: .ref a :: rest) := by
  obtain ⟨p, l, e, R, s, m, args, below, meth, c, A, n9, Q⟩ := X
  obtain ⟨hx, hb, hml, hown, hts, hE, hA, rfl, hr, hlk, rfl⟩ := C
  intro H locs ls hP hD hS hl
  subst hw
  exact va_put (C := RX0) (T := TX0) (N := 13) (ref := (TX0 k0).1) hx hb hts hin tyX0 tyX0_ok nmX0 hown hE.1 hP hD hS o he rfl k0 hk (hts _ hm) (fun _ h => h) hf (tyX0_ok k0 hk) hn hfit hl0 d (fun H locs hP hD hS => k H locs ls hP hD hS hl)
theorem g_get1 (C : Ok g X cc own Ts rm ret nL) (hin : ∀ w ∈ wsX10, w ∈ Ts) {idx a : Nat} {fs : List Value} {v : Value} (o : Nat) (he : ws[o]? = some (a, .inr (1, fs))) (k0 : Nat) (hk : k0 < 10) (hm : Cond.fieldLink own idx (TX1 k0).1 (TX1 k0).2.1 (TX1 k0).2.2.1 ∈ Ts) (hv : fs[k0]? = some v) (d : decode cc pc = .ok (.getfield idx, 3)) (k : G g X q ws (pc + 3) lv (v :: rest)) : G g X q ws pc lv (.ref a :: rest) := by
  obtain ⟨p, l, e, R, s, m, args, below, meth, c, A, n9, Q⟩ := X
  obtain ⟨hx, hb, hml, hown, hts, hE, hA, rfl, hr, hlk, rfl⟩ := C
  intro H locs ls hP hD hS hl
  exact va_get (C := RX1) (T := TX1) (N := 10) (ref := (TX1 k0).1) hx hb hts hin hown hE.1 hP o he rfl k0 hk (hts _ hm) (fun _ h => h) hv d (k H locs ls hP hD hS hl)
theorem g_put1 (C : Ok g X cc own Ts rm ret nL) (hin : ∀ w ∈ wsX10, w ∈ Ts) {idx a : Nat} {fs : List Value} {v : Value} {ws' : va_W} (o : Nat) (he : ws[o]? = some (a, .inr (1, fs))) (k0 : Nat) (hk : k0 < 10) (hm : Cond.fieldLink own idx (TX1 k0).1 (TX1 k0).2.1 (TX1 k0).2.2.1 ∈ Ts) (hf : (TX1 k0).2.2.2 = false) (hn : narrow (tyX1 k0) v = v) (hfit : fits (tyX1 k0) v = true) (hl0 : k0 < fs.length) (hw : ws.set o (a, .inr (1, fs.set k0 v)) = ws') (d : decode cc pc = .ok (.putfield idx, 3)) (k : G g X q ws' (pc + 3) lv rest) : G g X q ws pc lv (v :: .ref a :: rest) := by
  obtain ⟨p, l, e, R, s, m, args, below, meth, c, A, n9, Q⟩ := X
  obtain ⟨hx, hb, hml, hown, hts, hE, hA, rfl, hr, hlk, rfl⟩ := C
  intro H locs ls hP hD hS hl
  subst hw
  exact va_put (C := RX1) (T := TX1) (N := 10) (ref := (TX1 k0).1) hx hb hts hin tyX1 tyX1_ok nmX1 hown hE.1 hP hD hS o he rfl k0 hk (hts _ hm) (fun _ h => h) hf (tyX1_ok k0 hk) hn hfit hl0 d (fun H locs hP hD hS => k H locs ls hP hD hS hl)
theorem g_bald (C : Ok g X cc own Ts rm ret nL) {a n : Nat} {f : Nat → Int32} {i : Int32} (o : Nat) (he : ws[o]? = some (a, .inl (gB g, n, .inl f))) (hi : vp_in i n) (d : decode cc pc = .ok (.baload, 1)) (k : G g X q ws (pc + 1) lv (.int (f i.toNatClampNeg) :: rest)) : G g X q ws pc lv (.int i :: .ref a :: rest) := by
  obtain ⟨p, l, e, R, s, m, args, below, meth, c, A, n9, Q⟩ := X
  obtain ⟨hx, hb, hml, hown, hts, hE, hA, rfl, hr, hlk, rfl⟩ := C
  intro H locs ls hP hD hS hl
  exact va_bald hx hb hE.1 hP o 0 he rfl hi d (k H locs ls hP hD hS hl)
theorem g_iald (C : Ok g X cc own Ts rm ret nL) {a n : Nat} {f : Nat → Int32} {i : Int32} (o : Nat) (he : ws[o]? = some (a, .inl (gI g, n, .inl f))) (hi : vp_in i n) (d : decode cc pc = .ok (.iaload, 1)) (k : G g X q ws (pc + 1) lv (.int (f i.toNatClampNeg) :: rest)) : G g X q ws pc lv (.int i :: .ref a :: rest) := by
  obtain ⟨p, l, e, R, s, m, args, below, meth, c, A, n9, Q⟩ := X
  obtain ⟨hx, hb, hml, hown, hts, hE, hA, rfl, hr, hlk, rfl⟩ := C
  intro H locs ls hP hD hS hl
  exact va_iald hx hb hE.1 hP o 1 he rfl hi d (k H locs ls hP hD hS hl)
theorem g_iast (C : Ok g X cc own Ts rm ret nL) {a n : Nat} {f : Nat → Int32} {i x : Int32} {ws' : va_W} (o : Nat) (he : ws[o]? = some (a, .inl (gI g, n, .inl f))) (hi : vp_in i n) (hw : ws.set o (a, .inl (gI g, n, .inl (upd f i.toNatClampNeg x))) = ws') (d : decode cc pc = .ok (.iastore, 1)) (k : G g X q ws' (pc + 1) lv rest) : G g X q ws pc lv (.int x :: .int i :: .ref a :: rest) := by
  obtain ⟨p, l, e, R, s, m, args, below, meth, c, A, n9, Q⟩ := X
  obtain ⟨hx, hb, hml, hown, hts, hE, hA, rfl, hr, hlk, rfl⟩ := C
  intro H locs ls hP hD hS hl
  subst hw
  exact va_iast hx hb hE.1 hP hD hS o 1 he rfl hi d (fun H locs hP hD hS => k H locs ls hP hD hS hl)
theorem g_bast (C : Ok g X cc own Ts rm ret nL) {a n : Nat} {f : Nat → Int32} {i x v : Int32} {ws' : va_W} (o : Nat) (he : ws[o]? = some (a, .inl (gB g, n, .inl f))) (hi : vp_in i n) (hv : vp_nar .byte x = v) (hw : ws.set o (a, .inl (gB g, n, .inl (upd f i.toNatClampNeg v))) = ws') (d : decode cc pc = .ok (.bastore, 1)) (k : G g X q ws' (pc + 1) lv rest) : G g X q ws pc lv (.int x :: .int i :: .ref a :: rest) := by
  obtain ⟨p, l, e, R, s, m, args, below, meth, c, A, n9, Q⟩ := X
  obtain ⟨hx, hb, hml, hown, hts, hE, hA, rfl, hr, hlk, rfl⟩ := C
  intro H locs ls hP hD hS hl
  subst hw; subst hv
  exact va_bast hx hb hE.1 hP hD hS o 0 he rfl hi d (fun H locs hP hD hS => k H locs ls hP hD hS hl)
theorem g_alenB (C : Ok g X cc own Ts rm ret nL) {a n : Nat} {f : Nat → Int32} {v : Int32} (o : Nat) (he : ws[o]? = some (a, .inl (gB g, n, .inl f))) (hv : Int32.ofNat n = v) (d : decode cc pc = .ok (.arraylength, 1)) (k : G g X q ws (pc + 1) lv (.int v :: rest)) : G g X q ws pc lv (.ref a :: rest) := by
  obtain ⟨p, l, e, R, s, m, args, below, meth, c, A, n9, Q⟩ := X
  obtain ⟨hx, hb, hml, hown, hts, hE, hA, rfl, hr, hlk, rfl⟩ := C
  intro H locs ls hP hD hS hl
  exact va_alen hx hb hE.1 hP o 0 he rfl hv d (k H locs ls hP hD hS hl)
theorem g_alenI (C : Ok g X cc own Ts rm ret nL) {a n : Nat} {f : Nat → Int32} {v : Int32} (o : Nat) (he : ws[o]? = some (a, .inl (gI g, n, .inl f))) (hv : Int32.ofNat n = v) (d : decode cc pc = .ok (.arraylength, 1)) (k : G g X q ws (pc + 1) lv (.int v :: rest)) : G g X q ws pc lv (.ref a :: rest) := by
  obtain ⟨p, l, e, R, s, m, args, below, meth, c, A, n9, Q⟩ := X
  obtain ⟨hx, hb, hml, hown, hts, hE, hA, rfl, hr, hlk, rfl⟩ := C
  intro H locs ls hP hD hS hl
  exact va_alen hx hb hE.1 hP o 1 he rfl hv d (k H locs ls hP hD hS hl)
theorem g_getsW (C : Ok g X cc own Ts rm ret nL) {idx : Nat} (hm : Cond.fieldLink own idx "TokenRows" "WORDS" "[C" ∈ Ts) (d : decode cc pc = .ok (.getstatic idx, 3)) (k : G g X q ws (pc + 3) lv (.ref (gW g) :: rest)) : G g X q ws pc lv rest := by
  obtain ⟨p, l, e, R, s, m, args, below, meth, c, A, n9, Q⟩ := X
  obtain ⟨hx, hb, hml, hown, hts, hE, hA, rfl, hr, hlk, rfl⟩ := C
  intro H locs ls hP hD hS hl
  exact va_gets hx hb hE.2.1 hS hown (hts _ hm) (fun _ h => h) d (k H locs ls hP hD hS hl)
theorem g_getsC (C : Ok g X cc own Ts rm ret nL) {idx : Nat} (hm : Cond.fieldLink own idx "java/lang/String" "COMPACT_STRINGS" "Z" ∈ Ts) (d : decode cc pc = .ok (.getstatic idx, 3)) (k : G g X q ws (pc + 3) lv (.int 1 :: rest)) : G g X q ws pc lv rest := by
  obtain ⟨p, l, e, R, s, m, args, below, meth, c, A, n9, Q⟩ := X
  obtain ⟨hx, hb, hml, hown, hts, hE, hA, rfl, hr, hlk, rfl⟩ := C
  intro H locs ls hP hD hS hl
  exact va_gets hx hb hE.2.2.2.2.2.2.1 hS hown (hts _ hm) (fun _ h => h) d (k H locs ls hP hD hS hl)
theorem g_getsF (C : Ok g X cc own Ts rm ret nL) {idx : Nat} (hm : Cond.fieldLink own idx "jdk/internal/util/Preconditions" "SIOOBE_FORMATTER" "Ljava/util/function/BiFunction;" ∈ Ts) (d : decode cc pc = .ok (.getstatic idx, 3)) (k : ∀ v : Value, (v = .null ∨ ∃ t : Nat, v = .ref t) → G g X q ws (pc + 3) lv (v :: rest)) : G g X q ws pc lv rest := by
  obtain ⟨p, l, e, R, s, m, args, below, meth, c, A, n9, Q⟩ := X
  obtain ⟨hx, hb, hml, hown, hts, hE, hA, rfl, hr, hlk, rfl⟩ := C
  intro H locs ls hP hD hS hl
  rcases hE.2.2.2.2.2.2.2 with h | ⟨t, h⟩
  · exact va_gets hx hb h hS hown (hts _ hm) (fun _ h => h) d (k .null (Or.inl rfl) H locs ls hP hD hS hl)
  · exact va_gets hx hb h hS hown (hts _ hm) (fun _ h => h) d (k (.ref t) (Or.inr ⟨t, rfl⟩) H locs ls hP hD hS hl)
theorem g_caldW (C : Ok g X cc own Ts rm ret nL) {i v : Int32} (hi : vp_in i 66) (hv : nI (wWd.getD i.toNatClampNeg 0) = v) (d : decode cc pc = .ok (.caload, 1)) (k : G g X q ws (pc + 1) lv (.int v :: rest)) : G g X q ws pc lv (.int i :: .ref (gW g) :: rest) := by
  obtain ⟨p, l, e, R, s, m, args, below, meth, c, A, n9, Q⟩ := X
  obtain ⟨hx, hb, hml, hown, hts, hE, hA, rfl, hr, hlk, rfl⟩ := C
  intro H locs ls hP hD hS hl
  exact va_tc hx hb hE.2.2.1 hS hi (by rw [← hv]) d (k H locs ls hP hD hS hl)
theorem g_alenW (C : Ok g X cc own Ts rm ret nL) (d : decode cc pc = .ok (.arraylength, 1)) (k : G g X q ws (pc + 1) lv (.int (nI 66) :: rest)) : G g X q ws pc lv (.ref (gW g) :: rest) := by
  obtain ⟨p, l, e, R, s, m, args, below, meth, c, A, n9, Q⟩ := X
  obtain ⟨hx, hb, hml, hown, hts, hE, hA, rfl, hr, hlk, rfl⟩ := C
  intro H locs ls hP hD hS hl
  exact va_tlen hx hb hE.2.2.1 hS rfl d (k H locs ls hP hD hS hl)
theorem g_ldcS0 (C : Ok g X cc own Ts rm ret nL) (ho : own = "TokenRowsModel") (d : decode cc pc = .ok (.ldc 102, 2)) (k : G g X q ws (pc + 2) lv (.ref (gK g 0) :: rest)) : G g X q ws pc lv rest := by
  subst ho
  obtain ⟨p, l, e, R, s, m, args, below, meth, c, A, n9, Q⟩ := X
  obtain ⟨hx, hb, hml, hown, hts, hE, hA, rfl, hr, hlk, rfl⟩ := C
  intro H locs ls hP hD hS hl
  exact va_ldcS hx hb hown hE.2.2.2.2.1 d (k H locs ls hP hD hS hl)
theorem g_ldcS1 (C : Ok g X cc own Ts rm ret nL) (ho : own = "TokenRowsModel") (d : decode cc pc = .ok (.ldc 115, 2)) (k : G g X q ws (pc + 2) lv (.ref (gK g 1) :: rest)) : G g X q ws pc lv rest := by
  subst ho
  obtain ⟨p, l, e, R, s, m, args, below, meth, c, A, n9, Q⟩ := X
  obtain ⟨hx, hb, hml, hown, hts, hE, hA, rfl, hr, hlk, rfl⟩ := C
  intro H locs ls hP hD hS hl
  exact va_ldcS hx hb hown hE.2.2.2.2.2.1 d (k H locs ls hP hD hS hl)
theorem g_getfV (C : Ok g X cc own Ts rm ret nL) {idx i : Nat} (hi : i < 2) (hm : Cond.fieldLink own idx "java/lang/String" "value" "[B" ∈ Ts) (d : decode cc pc = .ok (.getfield idx, 3)) (k : G g X q ws (pc + 3) lv (.ref (gV g i) :: rest)) : G g X q ws pc lv (.ref (gK g i) :: rest) := by
  obtain ⟨p, l, e, R, s, m, args, below, meth, c, A, n9, Q⟩ := X
  obtain ⟨hx, hb, hml, hown, hts, hE, hA, rfl, hr, hlk, rfl⟩ := C
  intro H locs ls hP hD hS hl
  exact vk_getf hx hb (hE.2.2.2.1.1 i hi).2.2.1 hS hown (hts _ hm) (fun _ h => h) d (k H locs ls hP hD hS hl)
theorem g_getfC (C : Ok g X cc own Ts rm ret nL) {idx i : Nat} (hi : i < 2) (hm : Cond.fieldLink own idx "java/lang/String" "coder" "B" ∈ Ts) (d : decode cc pc = .ok (.getfield idx, 3)) (k : G g X q ws (pc + 3) lv (.int 0 :: rest)) : G g X q ws pc lv (.ref (gK g i) :: rest) := by
  obtain ⟨p, l, e, R, s, m, args, below, meth, c, A, n9, Q⟩ := X
  obtain ⟨hx, hb, hml, hown, hts, hE, hA, rfl, hr, hlk, rfl⟩ := C
  intro H locs ls hP hD hS hl
  exact vk_getf hx hb (hE.2.2.2.1.1 i hi).2.1 hS hown (hts _ hm) (fun _ h => h) d (k H locs ls hP hD hS hl)
theorem g_alenV (C : Ok g X cc own Ts rm ret nL) {i : Nat} (hi : i < 2) {v : Int32} (hv : Int32.ofNat (kLen.getD i 0) = v) (d : decode cc pc = .ok (.arraylength, 1)) (k : G g X q ws (pc + 1) lv (.int v :: rest)) : G g X q ws pc lv (.ref (gV g i) :: rest) := by
  obtain ⟨p, l, e, R, s, m, args, below, meth, c, A, n9, Q⟩ := X
  obtain ⟨hx, hb, hml, hown, hts, hE, hA, rfl, hr, hlk, rfl⟩ := C
  intro H locs ls hP hD hS hl
  exact va_tlen hx hb (hE.2.2.2.1.1 i hi).2.2.2 hS hv d (k H locs ls hP hD hS hl)
theorem g_baldV (C : Ok g X cc own Ts rm ret nL) {i : Nat} (hi : i < 2) {x v : Int32} (hin : vp_in x (kLen.getD i 0)) (hv : (kByt.getD i []).getD x.toNatClampNeg 0 = v) (d : decode cc pc = .ok (.baload, 1)) (k : G g X q ws (pc + 1) lv (.int v :: rest)) : G g X q ws pc lv (.int x :: .ref (gV g i) :: rest) := by
  obtain ⟨p, l, e, R, s, m, args, below, meth, c, A, n9, Q⟩ := X
  obtain ⟨hx, hb, hml, hown, hts, hE, hA, rfl, hr, hlk, rfl⟩ := C
  intro H locs ls hP hD hS hl
  exact va_tb hx hb (hE.2.2.2.1.1 i hi).2.2.2 hS hin (by rw [← hv]) d (k H locs ls hP hD hS hl)
theorem g_minl (C : Ok g X cc own Ts rm ret nL) {idx : Nat} {x y v : Int64} (hm : [Cond.methodLink own idx Lib.MathLoose.min_long.x, .static Lib.MathLoose.min_long.x, .initialized "java/lang/Math", .code Lib.MathLoose.min_long.x Lib.MathLoose.min_long.code 4 (some .long)].all (fun w => decide (w ∈ Ts)) = true) (hR : 1 ≤ rm.frames ∧ (rest.map fun v => v.category).sum + 15 ≤ rm.locals ∧ q.1 ≤ rm.cells ∧ q.2 ≤ rm.slots) (hv : (if y < x then y else x) = v) (d : decode cc pc = .ok (.invokestatic idx, 3)) (k : G g X q ws (pc + 3) lv (.long v :: rest)) : G g X q ws pc lv (.long y :: .long x :: rest) := by
  obtain ⟨p, l, e, R, s, m, args, below, meth, c, A, n9, Q⟩ := X
  obtain ⟨hx, hb, hml, hown, hts, hE, hA, rfl, hr, hlk, rfl⟩ := C
  intro H locs ls hP hD hS hl
  subst hv
  have hm' := fun w h => hts w (of_decide_eq_true (List.all_eq_true.mp hm w h))
  exact va_mmin_long hx hb (by rw [hml]; exact hl.1.symm) hown (hm' _ (by simp)) (hm' _ (by simp)) (hm' _ (by simp)) (hm' _ (by simp)) hR.1 hR.2.1 hR.2.2.1 hR.2.2.2 d (k H locs ls hP hD hS hl)
end GR
def Fn (g : Gl) (X : Cx) (r : Option Value) (v : va_W) (k n : Nat) : Prop :=
  match X with
  | (_, _, _, _, s, _, args, below, _, _, A, _, Q) => ∃ Qc : Array Value → State → Outcome → State → Prop, Q = MQ below Qc args s k n A ∧ ∀ (H : Heap) (locs : List Loc), va_P (gD g) vwCl v H → va_D A v → va_S A s.heap H locs → ∀ t : State, t.heap = H → s.WarmedH t.vm → Qc args s (.returned r) t
theorem g_iret {g : Gl} {X : Cx} {cc : ByteArray} {own : String} {Ts : List Cond} {rm : Room} {nL : Nat} {k n : Nat} {ws v : va_W} {pc : Nat} {lv : List (Nat × Value)} {x r : Int32} (C : Ok g X cc own Ts rm (some .int) nL) (F : Fn g X (some (.int r)) v k n) (hr : x = r) (hw : ws = v) (d : decode cc pc = .ok (.ireturn, 1)) : G g X (k, n) ws pc lv [.int x] := by
  subst hw; subst hr
  obtain ⟨p, l, e, R, s, m, args, below, meth, c, A, n9, Q⟩ := X
  obtain ⟨hx, hb, hml, hown, hts, hE, hA, rfl, hr, hlk, rfl⟩ := C
  intro H locs ls hP hD hS hl
  obtain ⟨Qc, rfl, F⟩ := F
  exact W.iret hx hb hr (F H locs hP hD hS) hS.2.2 d hlk
theorem g_zret {g : Gl} {X : Cx} {cc : ByteArray} {own : String} {Ts : List Cond} {rm : Room} {nL : Nat} {k n : Nat} {ws v : va_W} {pc : Nat} {lv : List (Nat × Value)} {x r : Int32} {ty : FieldType} (C : Ok g X cc own Ts rm (some ty) nL) (F : Fn g X (some (.int r)) v k n) (hn : narrow ty (.int x) = .int x) (hr : x = r) (hw : ws = v) (d : decode cc pc = .ok (.ireturn, 1)) : G g X (k, n) ws pc lv [.int x] := by
  subst hw; subst hr
  obtain ⟨p, l, e, R, s, m, args, below, meth, c, A, n9, Q⟩ := X
  obtain ⟨hx, hb, hml, hown, hts, hE, hA, rfl, hr, hlk, rfl⟩ := C
  intro H locs ls hP hD hS hl
  obtain ⟨Qc, rfl, F⟩ := F
  exact W.zret hx hb hr hn (F H locs hP hD hS) hS.2.2 d hlk
theorem g_lret {g : Gl} {X : Cx} {cc : ByteArray} {own : String} {Ts : List Cond} {rm : Room} {nL : Nat} {k n : Nat} {ws v : va_W} {pc : Nat} {lv : List (Nat × Value)} {x r : Int64} (C : Ok g X cc own Ts rm (some .long) nL) (F : Fn g X (some (.long r)) v k n) (hr : x = r) (hw : ws = v) (d : decode cc pc = .ok (.lreturn, 1)) : G g X (k, n) ws pc lv [.long x] := by
  subst hw; subst hr
  obtain ⟨p, l, e, R, s, m, args, below, meth, c, A, n9, Q⟩ := X
  obtain ⟨hx, hb, hml, hown, hts, hE, hA, rfl, hr, hlk, rfl⟩ := C
  intro H locs ls hP hD hS hl
  obtain ⟨Qc, rfl, F⟩ := F
  exact W.lret hx hb hr (F H locs hP hD hS) hS.2.2 d hlk
theorem g_vret {g : Gl} {X : Cx} {cc : ByteArray} {own : String} {Ts : List Cond} {rm : Room} {nL : Nat} {k n : Nat} {ws v : va_W} {pc : Nat} {lv : List (Nat × Value)} (C : Ok g X cc own Ts rm (none) nL) (F : Fn g X (none) v k n) (hw : ws = v) (d : decode cc pc = .ok (.return_, 1)) : G g X (k, n) ws pc lv [] := by
  subst hw
  obtain ⟨p, l, e, R, s, m, args, below, meth, c, A, n9, Q⟩ := X
  obtain ⟨hx, hb, hml, hown, hts, hE, hA, rfl, hr, hlk, rfl⟩ := C
  intro H locs ls hP hD hS hl
  obtain ⟨Qc, rfl, F⟩ := F
  exact W.vret hx hb hr (F H locs hP hD hS) hS.2.2 d hlk
theorem Ctr.start {g : Gl} {y : MethodName} {ws ws' : List Cond} {rm : Room} {As : List Value} {w : va_W} {r : Option Value} {v : va_W} {k n : Nat} {cc : ByteArray} {maxL : Nat} {ret : Option FieldType} (hy : plainName y.cls = true) (hw : ws = Cond.code y cc maxL ret :: ws') (hlen : (lg_sl As).length ≤ maxL) {lv0 : List (Nat × Value)} (hlv : lv_args 0 As = lv0)
    (body : ∀ X : Cx, Ok g X cc y.cls ws rm ret maxL → Fn g X r v k n → G g X (0, 0) w 0 lv0 []) : Ctr g y ws rm As w r v k n := by
  subst hlv
  intro l sz
  refine Met.ofW (cc := cc) (maxL := maxL) (ret := ret) hy hw ?_
  intro p e s m args below meth c s₁ B hml hv
  obtain ⟨rfl, hsz, hP, hE, hD0⟩ := hv
  subst hsz
  have hb := body (p, l, e, (headSpec ws rm).room, s, m, As.toArray, below, meth, c, va_A w s.heap.size, maxL, MQ below (fun _ st oc t => (oc = .returned r ∧ va_P (gD g) vwCl v t.heap ∧ va_D (va_A w s.heap.size) v) ∧ va_F (va_A w s.heap.size) st t) As.toArray s k n (va_A w s.heap.size))
    ⟨B.exec, B.bytes, hml, findClass_of_methodNamed B.named, atoms_spec (ws := ws) B.pre, hE, fun q h => Or.inr h, rfl, B.returns, B.notSynchronized, rfl⟩
    ⟨_, rfl, fun H locs hP hD hS t ht hW => ⟨⟨rfl, by rw [ht]; exact hP, hD⟩, hS.F ht⟩⟩
  rw [lg_entry_eq]
  exact hb s.heap [] _ hP hD0.self va_S.rf (lv_entry As hlen)
section GC
variable {g : Gl} {X : Cx} {cc : ByteArray} {own : String} {Ts : List Cond} {rm : Room} {ret : Option FieldType} {nL : Nat} {q : Nat × Nat} {ws : va_W} {pc : Nat} {lv : List (Nat × Value)} {rest : List Value}
theorem ctr_blind (g : Gl) (As : List Value) (w : va_W) (sz : Nat) : FrameBlind (va_Pc As (fun U => U.heap.size = sz ∧ va_P (gD g) vwCl w U.heap ∧ Env0 g (va_A w sz) U U.heap ∧ va_D (fun _ => True) w)) := fun a U f mk h => by
  obtain ⟨h0, h1, h2, h3, h4⟩ := h
  exact ⟨h0, h1, h2, Env0.same (u := U) (U := U.calling f mk a) rfl h3, h4⟩
theorem va_A_in {A : Nat → Prop} {w : va_W} {H0 H : Heap} {locs : List Loc} (hD : va_D A w) (hS : va_S A H0 H locs) (hA : ∀ q : Nat, H0.size ≤ q → A q) : ∀ q, va_A w H.size q → A q := by
  intro q h
  rcases h with ⟨k, e, h⟩ | h
  · exact hD.2 k _ h
  · exact hA q (Nat.le_trans hS.1 h)
theorem va_A_nil {A : Nat → Prop} {H0 H : Heap} {locs : List Loc} (hS : va_S A H0 H locs) (hA : ∀ q : Nat, H0.size ≤ q → A q) : ∀ q, va_A [] H.size q → A q := by
  intro q h
  rcases h with ⟨k, e, h⟩ | h
  · simp at h
  · exact hA q (Nat.le_trans hS.1 h)
theorem va_A_0 {sz q : Nat} (h : q < sz) : ¬ va_A [] sz q := by
  intro z
  rcases z with ⟨k, e, z⟩ | z
  · simp at z
  · omega
/-- behind a call: the frame -/
theorem ctr_back {p : Program} {l : Launch} {e : Env} {R : Room} {s : State} {m : MethodId} {args : Array Value} {below : List Frame} {meth : Method} {c : Code} {H : Heap} {locs : List Loc} {cells slots k n : Nat} {Q : State → Prop} {pc : Nat} {ls : Array Slot} {st0 rest : List Value} {A A1 : Nat → Prop} {H0 : Heap} {g : Gl} {r : Option Value} {v : va_W}
    (hr : va_Run p l e R s m args below meth c H locs cells slots k n (F0 m pc ls st0) rest (fun st oc t => (oc = .returned r ∧ va_P (gD g) vwCl v t.heap ∧ va_D A1 v) ∧ va_F A1 st t) A1) (hS : va_S A H0 H locs) (hA : ∀ q, A1 q → A q)
    (kk : ∀ (H1 : Heap) (locs1 : List Loc), va_P (gD g) vwCl v H1 → va_D A1 v → H.size ≤ H1.size → (∀ q : Nat, q < H.size → ¬ A1 q → H1[q]? = H[q]?) → va_S A H0 H1 locs1 → W p l e R s m args below meth c H1 locs1 (cells + k) (slots + n) Q (F0 m (pc + 3) ls (r.toList ++ rest))) : W p l e R s m args below meth c H locs cells slots Q (F0 m pc ls st0) := by
  intro T hT X
  obtain ⟨w, st₀, t, T', L, h0, X', hL, e1, e2, ⟨⟨hv, hp, hb⟩, hz, hk⟩, st⟩ := hr T hT X
  cases hv
  rw [h0] at hz hk
  obtain ⟨t2, a1, b1⟩ := kk T'.heap (locs ++ L) (by rw [e1]; exact hp) hb (by rw [e1]; exact hz) (fun q h1 h2 => by rw [e1]; exact hk q h1 h2)
    ⟨Nat.le_trans hS.1 (by rw [e1]; exact hz), fun q h1 h2 => by rw [e1, hk q (Nat.lt_of_lt_of_le h1 hS.1) (fun z => h2 (hA q z))]; exact hS.2.1 q h1 h2, fun q hq => by
      rcases List.mem_append.mp hq with h | h
      · exact hS.2.2 q h
      · exact hA _ (hL q h)⟩ T' rfl X'
  exact ⟨t2, st t2 a1, b1⟩
theorem g_callVi (C : Ok g X cc own Ts rm ret nL) {y : MethodName} {wsy ws9 : List Cond} {rmy : Room} {bytes : ByteArray} {maxL idx a ci n N : Nat} {rt : Option FieldType} {Cn : String} {T : u_T} {fs As st : List Value} {ws' : va_W} {r : Int32} (hM : Ctr g y wsy rmy (.ref a :: As) ws (some (.int r)) ws' 0 0) (hG : GoodIn Ts (wsV own idx Cn y wsy)) (hwy : wsy = Cond.code y bytes maxL rt :: ws9) (hn : As.length = n) (he : ws[0]? = some (a, .inr (ci, fs))) (hc : vwCl[ci]? = some (Cn, T, N)) (hd : y.cls = Cn ∧ y.cls ≠ "java/lang/invoke/MethodHandle" ∧ y.cls ≠ "java/lang/invoke/VarHandle" ∧ (parseMethodDescriptor y.desc).map (fun d => d.parameters.length) = some n) (hR : rmy.cells = 0 ∧ rmy.slots = 0 ∧ rmy.frames + 1 ≤ rm.frames ∧ 8 + (maxL + 11) + rmy.locals ≤ rm.locals ∧ q.1 ≤ rm.cells ∧ q.2 ≤ rm.slots) (hst : st = As.reverse ++ .ref a :: rest) (hcat : (rest.map fun v => v.category).sum ≤ 8) (d : decode cc pc = .ok (.invokevirtual idx, 3)) (k : G g X q ws' (pc + 3) lv (.int r :: rest)) : G g X q ws pc lv st := by
  obtain ⟨p, l, e, R, s, m, args, below, meth, c, A, n9, Q⟩ := X
  obtain ⟨hx, hb, hml, hown, hts, hE, hA, rfl, hr, hlk, rfl⟩ := C
  intro H locs ls hP hD hS hl
  have hF := va_A_in hD hS hA
  refine ctr_back (g := g) (r := (some (.int r))) (v := ws') (A1 := va_A ws H.size) (k := 0) (n := 0) (va_runV (As := As) (b := a) (rest := rest) (nL := n9) ⟨hx, hb, hml, hown, hts⟩ (hM l H.size) (cwV n hts hG hwy hR.1 hR.2.1 hd ⟨hR.2.2.1, hR.2.2.2.1⟩) ⟨ctr_blind g _ _ _, va_recv hE.1 hP hc he, fun U hU hW => ⟨rfl, by rw [hU], by rw [hU]; exact hP, by rw [hU]; exact ((hE.kept hS.2.1).narrow hF).warm hW, hD.weaken (fun _ _ _ _ => trivial)⟩⟩ rfl hn hl.1 hst (lv_room hcat) d ⟨hR.2.2.2.2.1, hR.2.2.2.2.2⟩) hS hF ?_
  intro H1 locs1 hP1 hD1 hz hk hS1
  exact k H1 locs1 ls hP1 (hD1.weaken (fun _ _ _ h => hF _ h)) hS1 hl
theorem g_callSi (C : Ok g X cc own Ts rm ret nL) {y : MethodName} {wsy ws9 : List Cond} {rmy : Room} {bytes : ByteArray} {maxL idx n : Nat} {rt : Option FieldType} {As st : List Value} {r : Int32} (hM : Ctr g y wsy rmy As [] (some (.int r)) [] 0 0) (hG : GoodIn Ts (va_wsS own idx y wsy)) (hwy : wsy = Cond.code y bytes maxL rt :: ws9) (hn : As.length = n) (hd : y.cls ≠ "java/lang/invoke/MethodHandle" ∧ y.cls ≠ "java/lang/invoke/VarHandle" ∧ (parseMethodDescriptor y.desc).map (fun d => d.parameters.length) = some n) (hR : rmy.cells = 0 ∧ rmy.slots = 0 ∧ rmy.frames + 1 ≤ rm.frames ∧ 8 + (maxL + 11) + rmy.locals ≤ rm.locals ∧ q.1 ≤ rm.cells ∧ q.2 ≤ rm.slots) (hst : st = As.reverse ++ rest) (hcat : (rest.map fun v => v.category).sum ≤ 8) (d : decode cc pc = .ok (.invokestatic idx, 3)) (k : G g X q ws (pc + 3) lv (.int r :: rest)) : G g X q ws pc lv st := by
  obtain ⟨p, l, e, R, s, m, args, below, meth, c, A, n9, Q⟩ := X
  obtain ⟨hx, hb, hml, hown, hts, hE, hA, rfl, hr, hlk, rfl⟩ := C
  intro H locs ls hP hD hS hl
  have hF := va_A_nil hS hA
  refine ctr_back (g := g) (r := (some (.int r))) (v := []) (A1 := va_A [] H.size) (k := 0) (n := 0) (va_runS (As := As) (rest := rest) (nL := n9) ⟨hx, hb, hml, hown, hts⟩ (hM l H.size) (va_cwS n hts hG hwy hR.1 hR.2.1 hd ⟨hR.2.2.1, hR.2.2.2.1⟩) ⟨ctr_blind g _ _ _, fun U hU hW => ⟨rfl, by rw [hU], fun k q h => by simp at h, by rw [hU]; exact ((hE.kept hS.2.1).narrow hF).warm hW, ⟨fun i j p q h => by simp at h, fun k q h => by simp at h⟩⟩⟩ rfl hn hl.1 hst (lv_room hcat) d ⟨hR.2.2.2.2.1, hR.2.2.2.2.2⟩) hS hF ?_
  intro H1 locs1 hP1 hD1 hz hk hS1
  exact k H1 locs1 ls (hP.kept (fun j x hj => hk x.1 (hP j x hj).lt (va_A_0 (hP j x hj).lt))) hD hS1 hl
theorem g_callK (C : Ok g X cc own Ts rm ret nL) {y : MethodName} {wsy ws9 : List Cond} {rmy : Room} {bytes : ByteArray} {maxL idx n i : Nat} {rt : Option FieldType} {As st : List Value} {r : Int32} (hi : i < 2) (hM : Ctr g y wsy rmy (.ref (gK g i) :: As) [] (some (.int r)) [] 0 0) (hG : GoodIn Ts (wsV own idx "java/lang/String" y wsy)) (hwy : wsy = Cond.code y bytes maxL rt :: ws9) (hn : As.length = n) (hd : y.cls = "java/lang/String" ∧ y.cls ≠ "java/lang/invoke/MethodHandle" ∧ y.cls ≠ "java/lang/invoke/VarHandle" ∧ (parseMethodDescriptor y.desc).map (fun d => d.parameters.length) = some n) (hR : rmy.cells = 0 ∧ rmy.slots = 0 ∧ rmy.frames + 1 ≤ rm.frames ∧ 8 + (maxL + 11) + rmy.locals ≤ rm.locals ∧ q.1 ≤ rm.cells ∧ q.2 ≤ rm.slots) (hst : st = As.reverse ++ .ref (gK g i) :: rest) (hcat : (rest.map fun v => v.category).sum ≤ 8) (d : decode cc pc = .ok (.invokevirtual idx, 3)) (k : G g X q ws (pc + 3) lv (.int r :: rest)) : G g X q ws pc lv st := by
  obtain ⟨p, l, e, R, s, m, args, below, meth, c, A, n9, Q⟩ := X
  obtain ⟨hx, hb, hml, hown, hts, hE, hA, rfl, hr, hlk, rfl⟩ := C
  intro H locs ls hP hD hS hl
  have hF := va_A_nil hS hA
  refine ctr_back (g := g) (r := some (.int r)) (v := []) (A1 := va_A [] H.size) (k := 0) (n := 0) (va_runV (As := As) (b := gK g i) (rest := rest) (nL := n9) ⟨hx, hb, hml, hown, hts⟩ (hM l H.size) (cwV n hts hG hwy hR.1 hR.2.1 hd ⟨hR.2.2.1, hR.2.2.2.1⟩) ⟨ctr_blind g _ _ _, vk_recv hE.2.2.2.1 hi hS, fun U hU hW => ⟨rfl, by rw [hU], fun k q h => by simp at h, by rw [hU]; exact ((hE.kept hS.2.1).narrow hF).warm hW, ⟨fun i j p q h => by simp at h, fun k q h => by simp at h⟩⟩⟩ rfl hn hl.1 hst (lv_room hcat) d ⟨hR.2.2.2.2.1, hR.2.2.2.2.2⟩) hS hF ?_
  intro H1 locs1 hP1 hD1 hz hk hS1
  exact k H1 locs1 ls (hP.kept (fun j x hj => hk x.1 (hP j x hj).lt (va_A_0 (hP j x hj).lt))) hD hS1 hl
theorem g_callVv (C : Ok g X cc own Ts rm ret nL) {y : MethodName} {wsy ws9 : List Cond} {rmy : Room} {bytes : ByteArray} {maxL idx a ci n N : Nat} {rt : Option FieldType} {Cn : String} {T : u_T} {fs As st : List Value} {ws' : va_W} (hM : Ctr g y wsy rmy (.ref a :: As) ws none ws' 0 0) (hG : GoodIn Ts (wsV own idx Cn y wsy)) (hwy : wsy = Cond.code y bytes maxL rt :: ws9) (hn : As.length = n) (he : ws[0]? = some (a, .inr (ci, fs))) (hc : vwCl[ci]? = some (Cn, T, N)) (hd : y.cls = Cn ∧ y.cls ≠ "java/lang/invoke/MethodHandle" ∧ y.cls ≠ "java/lang/invoke/VarHandle" ∧ (parseMethodDescriptor y.desc).map (fun d => d.parameters.length) = some n) (hR : rmy.cells = 0 ∧ rmy.slots = 0 ∧ rmy.frames + 1 ≤ rm.frames ∧ 8 + (maxL + 11) + rmy.locals ≤ rm.locals ∧ q.1 ≤ rm.cells ∧ q.2 ≤ rm.slots) (hst : st = As.reverse ++ .ref a :: rest) (hcat : (rest.map fun v => v.category).sum ≤ 8) (d : decode cc pc = .ok (.invokevirtual idx, 3)) (k : G g X q ws' (pc + 3) lv rest) : G g X q ws pc lv st := by
  obtain ⟨p, l, e, R, s, m, args, below, meth, c, A, n9, Q⟩ := X
  obtain ⟨hx, hb, hml, hown, hts, hE, hA, rfl, hr, hlk, rfl⟩ := C
  intro H locs ls hP hD hS hl
  have hF := va_A_in hD hS hA
  refine ctr_back (g := g) (r := none) (v := ws') (A1 := va_A ws H.size) (k := 0) (n := 0) (va_runV (As := As) (b := a) (rest := rest) (nL := n9) ⟨hx, hb, hml, hown, hts⟩ (hM l H.size) (cwV n hts hG hwy hR.1 hR.2.1 hd ⟨hR.2.2.1, hR.2.2.2.1⟩) ⟨ctr_blind g _ _ _, va_recv hE.1 hP hc he, fun U hU hW => ⟨rfl, by rw [hU], by rw [hU]; exact hP, by rw [hU]; exact ((hE.kept hS.2.1).narrow hF).warm hW, hD.weaken (fun _ _ _ _ => trivial)⟩⟩ rfl hn hl.1 hst (lv_room hcat) d ⟨hR.2.2.2.2.1, hR.2.2.2.2.2⟩) hS hF ?_
  intro H1 locs1 hP1 hD1 hz hk hS1
  exact k H1 locs1 ls hP1 (hD1.weaken (fun _ _ _ h => hF _ h)) hS1 hl
theorem g_callSv (C : Ok g X cc own Ts rm ret nL) {y : MethodName} {wsy ws9 : List Cond} {rmy : Room} {bytes : ByteArray} {maxL idx n : Nat} {rt : Option FieldType} {As st : List Value} (hM : Ctr g y wsy rmy As [] none [] 0 0) (hG : GoodIn Ts (va_wsS own idx y wsy)) (hwy : wsy = Cond.code y bytes maxL rt :: ws9) (hn : As.length = n) (hd : y.cls ≠ "java/lang/invoke/MethodHandle" ∧ y.cls ≠ "java/lang/invoke/VarHandle" ∧ (parseMethodDescriptor y.desc).map (fun d => d.parameters.length) = some n) (hR : rmy.cells = 0 ∧ rmy.slots = 0 ∧ rmy.frames + 1 ≤ rm.frames ∧ 8 + (maxL + 11) + rmy.locals ≤ rm.locals ∧ q.1 ≤ rm.cells ∧ q.2 ≤ rm.slots) (hst : st = As.reverse ++ rest) (hcat : (rest.map fun v => v.category).sum ≤ 8) (d : decode cc pc = .ok (.invokestatic idx, 3)) (k : G g X q ws (pc + 3) lv rest) : G g X q ws pc lv st := by
  obtain ⟨p, l, e, R, s, m, args, below, meth, c, A, n9, Q⟩ := X
  obtain ⟨hx, hb, hml, hown, hts, hE, hA, rfl, hr, hlk, rfl⟩ := C
  intro H locs ls hP hD hS hl
  have hF := va_A_nil hS hA
  refine ctr_back (g := g) (r := none) (v := []) (A1 := va_A [] H.size) (k := 0) (n := 0) (va_runS (As := As) (rest := rest) (nL := n9) ⟨hx, hb, hml, hown, hts⟩ (hM l H.size) (va_cwS n hts hG hwy hR.1 hR.2.1 hd ⟨hR.2.2.1, hR.2.2.2.1⟩) ⟨ctr_blind g _ _ _, fun U hU hW => ⟨rfl, by rw [hU], fun k q h => by simp at h, by rw [hU]; exact ((hE.kept hS.2.1).narrow hF).warm hW, ⟨fun i j p q h => by simp at h, fun k q h => by simp at h⟩⟩⟩ rfl hn hl.1 hst (lv_room hcat) d ⟨hR.2.2.2.2.1, hR.2.2.2.2.2⟩) hS hF ?_
  intro H1 locs1 hP1 hD1 hz hk hS1
  exact k H1 locs1 ls (hP.kept (fun j x hj => hk x.1 (hP j x hj).lt (va_A_0 (hP j x hj).lt))) hD hS1 hl
end GC
end
section
/-! PURE WORDS: bytes, what is looked at, scans, tokens; both the class and the reference are held against these -/
theorem g_top {g : Gl} {X : Cx} {q : Nat × Nat} {ws : va_W} {pc : Nat} {lv : List (Nat × Value)} {rest : List Value} {x y : Int32} (h : x = y) (k : G g X q ws pc lv (.int y :: rest)) : G g X q ws pc lv (.int x :: rest) := h ▸ k
theorem g_topl {g : Gl} {X : Cx} {q : Nat × Nat} {ws : va_W} {pc : Nat} {lv : List (Nat × Value)} {rest : List Value} {x y : Int64} (h : x = y) (k : G g X q ws pc lv (.long y :: rest)) : G g X q ws pc lv (.long x :: rest) := h ▸ k
theorem g_sub {g : Gl} {X : Cx} {q : Nat × Nat} {ws : va_W} {pc : Nat} {lv lv' : List (Nat × Value)} {st : List Value} (ks : List Nat) (h : lv_pick lv ks = lv') (k : G g X q ws pc lv' st) : G g X q ws pc lv st := by
  obtain ⟨p, l, e, R, s, m, args, below, meth, c, A, n9, Q⟩ := X
  intro H locs ls hP hD hS hl
  exact k H locs ls hP hD hS (lv_sub hl ks h)
theorem g_ws {g : Gl} {X : Cx} {q : Nat × Nat} {ws ws' : va_W} {pc : Nat} {lv : List (Nat × Value)} {st : List Value} (h : ws = ws') (k : G g X q ws' pc lv st) : G g X q ws pc lv st := h ▸ k
theorem k_lt {x y : Int32} {b : Int} (hy : y.toInt = b) (h : x < y) : x.toInt < b := by rw [← hy]; exact Int32.lt_iff_toInt_lt.mp h
theorem k_nlt {x y : Int32} {b : Int} (hy : y.toInt = b) (h : ¬ x < y) : b ≤ x.toInt := by rw [← hy]; exact Int.not_lt.mp (fun z => h (Int32.lt_iff_toInt_lt.mpr z))
theorem k_gt {x y : Int32} {b : Int} (hy : y.toInt = b) (h : y < x) : b < x.toInt := by rw [← hy]; exact Int32.lt_iff_toInt_lt.mp h
theorem k_ngt {x y : Int32} {b : Int} (hy : y.toInt = b) (h : ¬ y < x) : x.toInt ≤ b := by rw [← hy]; exact Int.not_lt.mp (fun z => h (Int32.lt_iff_toInt_lt.mpr z))
theorem k_le {x y : Int32} {b : Int} (hy : y.toInt = b) (h : x ≤ y) : x.toInt ≤ b := by rw [← hy]; exact Int32.le_iff_toInt_le.mp h
theorem k_nle {x y : Int32} {b : Int} (hy : y.toInt = b) (h : ¬ x ≤ y) : b < x.toInt := by rw [← hy]; exact Int.not_le.mp (fun z => h (Int32.le_iff_toInt_le.mpr z))
theorem k_ge {x y : Int32} {b : Int} (hy : y.toInt = b) (h : y ≤ x) : b ≤ x.toInt := by rw [← hy]; exact Int32.le_iff_toInt_le.mp h
theorem k_nge {x y : Int32} {b : Int} (hy : y.toInt = b) (h : ¬ y ≤ x) : x.toInt < b := by rw [← hy]; exact Int.not_le.mp (fun z => h (Int32.le_iff_toInt_le.mpr z))
theorem k_eq {x y : Int32} {b : Int} (hy : y.toInt = b) (h : x = y) : x.toInt = b := by rw [← hy, h]
theorem k_ne {x y : Int32} {b : Int} (hy : y.toInt = b) (h : ¬ x = y) : x.toInt ≠ b := by rw [← hy]; exact fun z => h (Int32.toInt_inj.mp z)
theorem k_of {x y : Int32} (h : x.toInt = y.toInt) : x = y := Int32.toInt_inj.mp h
def b01 (b : Bool) : Int32 := if b then 1 else 0
theorem b01_t {p : Prop} [Decidable p] (h : p) : b01 (decide p) = 1 := by simp [b01, h]
theorem b01_f {p : Prop} [Decidable p] (h : ¬ p) : b01 (decide p) = 0 := by simp [b01, h]
theorem b01_n (b : Bool) : narrow .boolean (.int (b01 b)) = .int (b01 b) := by cases b <;> decide
theorem b01_0 {b : Bool} : b01 b = 0 ↔ b = false := by cases b <;> decide
theorem b01_1 {b : Bool} : ¬ b01 b = 0 ↔ b = true := by cases b <;> decide
def bDig (x : Int32) : Bool := decide (48 ≤ x.toInt ∧ x.toInt ≤ 57)
def bLet (x : Int32) : Bool := decide ((97 ≤ x.toInt ∧ x.toInt ≤ 122) ∨ (65 ≤ x.toInt ∧ x.toInt ≤ 90) ∨ x.toInt = 95)
def bNam (x : Int32) : Bool := decide ((97 ≤ x.toInt ∧ x.toInt ≤ 122) ∨ (65 ≤ x.toInt ∧ x.toInt ≤ 90) ∨ x.toInt = 95 ∨ (48 ≤ x.toInt ∧ x.toInt ≤ 57))
def bBlk (x : Int32) : Bool := decide (x.toInt = 9 ∨ x.toInt = 10 ∨ x.toInt = 13 ∨ x.toInt = 32)
def bMay (x : Int32) : Bool := decide ((32 ≤ x.toInt ∧ x.toInt ≤ 126) ∨ x.toInt = 9 ∨ x.toInt = 10 ∨ x.toInt = 13)
theorem bDig_t {x : Int32} (h : bDig x = true) : 48 ≤ x.toInt ∧ x.toInt ≤ 57 := of_decide_eq_true h
theorem bDig_f {x : Int32} (h : bDig x = false) : ¬ (48 ≤ x.toInt ∧ x.toInt ≤ 57) := of_decide_eq_false h
theorem bLet_t {x : Int32} (h : bLet x = true) : (97 ≤ x.toInt ∧ x.toInt ≤ 122) ∨ (65 ≤ x.toInt ∧ x.toInt ≤ 90) ∨ x.toInt = 95 := of_decide_eq_true h
theorem bLet_f {x : Int32} (h : bLet x = false) : ¬ ((97 ≤ x.toInt ∧ x.toInt ≤ 122) ∨ (65 ≤ x.toInt ∧ x.toInt ≤ 90) ∨ x.toInt = 95) := of_decide_eq_false h
theorem bNam_t {x : Int32} (h : bNam x = true) : (97 ≤ x.toInt ∧ x.toInt ≤ 122) ∨ (65 ≤ x.toInt ∧ x.toInt ≤ 90) ∨ x.toInt = 95 ∨ (48 ≤ x.toInt ∧ x.toInt ≤ 57) := of_decide_eq_true h
theorem bNam_f {x : Int32} (h : bNam x = false) : ¬ ((97 ≤ x.toInt ∧ x.toInt ≤ 122) ∨ (65 ≤ x.toInt ∧ x.toInt ≤ 90) ∨ x.toInt = 95 ∨ (48 ≤ x.toInt ∧ x.toInt ≤ 57)) := of_decide_eq_false h
theorem bBlk_t {x : Int32} (h : bBlk x = true) : x.toInt = 9 ∨ x.toInt = 10 ∨ x.toInt = 13 ∨ x.toInt = 32 := of_decide_eq_true h
theorem bBlk_f {x : Int32} (h : bBlk x = false) : ¬ (x.toInt = 9 ∨ x.toInt = 10 ∨ x.toInt = 13 ∨ x.toInt = 32) := of_decide_eq_false h
theorem bMay_t {x : Int32} (h : bMay x = true) : (32 ≤ x.toInt ∧ x.toInt ≤ 126) ∨ x.toInt = 9 ∨ x.toInt = 10 ∨ x.toInt = 13 := of_decide_eq_true h
theorem bMay_f {x : Int32} (h : bMay x = false) : ¬ ((32 ≤ x.toInt ∧ x.toInt ≤ 126) ∨ x.toInt = 9 ∨ x.toInt = 10 ∨ x.toInt = 13) := of_decide_eq_false h
/-- the worth of a digit of sixteen, -1 of others -/
def hexv (x : Int32) : Int32 := if 48 ≤ x.toInt ∧ x.toInt ≤ 57 then x - 48 else if 97 ≤ x.toInt ∧ x.toInt ≤ 102 then x - 87 else if 65 ≤ x.toInt ∧ x.toInt ≤ 70 then x - 55 else -1
/-- what stands behind a backslash: its code, -1 if none -/
def escv (x : Int32) : Int32 := if x = 110 then 10 else if x = 48 then 0 else if x = 92 then 92 else if x = 39 then 39 else if x = 34 then 34 else -1
/-- the byte at a place of a text of N bytes, -1 outside -/
def look (tx : Nat → Int32) (N i : Nat) : Int32 := if i < N then tx i &&& 255 else -1
theorem look_out {tx : Nat → Int32} {N i : Nat} (h : N ≤ i) : look tx N i = -1 := if_neg (Nat.not_lt.mpr h)
theorem look_in {tx : Nat → Int32} {N i : Nat} (h : i < N) : look tx N i = tx i &&& 255 := if_pos h
theorem look_rng (tx : Nat → Int32) (N i : Nat) : (look tx N i).toInt = -1 ∧ N ≤ i ∨ 0 ≤ (look tx N i).toInt ∧ (look tx N i).toInt ≤ 255 ∧ i < N := by
  by_cases h : i < N
  · rw [look_in h]
    obtain ⟨j, hj, e⟩ := pk_andE (tx i) (m := 255) 8 (by decide)
    rw [e, nI_toInt (by omega)]
    omega
  · rw [look_out (Nat.not_lt.mp h)]
    exact Or.inl ⟨by decide, Nat.not_lt.mp h⟩
/-- the class's tokens: kinds, starts, sizes, lines, tells, count -/
abbrev TK : Type := (Nat → Int32) × (Nat → Int32) × (Nat → Int32) × (Nat → Int32) × (Nat → Int32) × Int32
/-- the class's cells -/
def tw (g : Gl) (a : Nat → Nat) (aT aX : Nat) (tr : Nat → Int32) (n fed : Int32) (tx : Nat → Int32) (m ln fa : Int32) (T : TK) : va_W :=
  [(a 0, .inr (0, [.ref aT, .int n, .int fed, .ref aX, .int m, .int ln, .int fa, .ref (a 3), .ref (a 4), .ref (a 5), .ref (a 6), .ref (a 7), .int T.2.2.2.2.2])), (aT, .inl (gB g, 16000, .inl tr)), (aX, .inl (gB g, 16000, .inl tx)), (a 3, .inl (gI g, 16000, .inl T.1)), (a 4, .inl (gI g, 16000, .inl T.2.1)), (a 5, .inl (gI g, 16000, .inl T.2.2.1)), (a 6, .inl (gI g, 16000, .inl T.2.2.2.1)), (a 7, .inl (gI g, 16000, .inl T.2.2.2.2.1))]
/-- the reference's cells: tray, trayed, fed, text, size, kinds, froms, tos, tokens, place -/
def mw (g : Gl) (b : Nat → Nat) (tr : Nat → Int32) (n fed : Int32) (tx : Nat → Int32) (m : Int32) (ks fs ts : Nat → Int32) (ct pl : Int32) : va_W :=
  [(b 0, .inr (1, [.ref (b 1), .int n, .int fed, .ref (b 2), .int m, .ref (b 3), .ref (b 4), .ref (b 5), .int ct, .int pl])), (b 1, .inl (gB g, 16000, .inl tr)), (b 2, .inl (gB g, 16000, .inl tx)), (b 3, .inl (gI g, 16000, .inl ks)), (b 4, .inl (gI g, 16000, .inl fs)), (b 5, .inl (gI g, 16000, .inl ts))]
end
section
set_option maxHeartbeats 4000000 in
set_option maxRecDepth 100000 in
theorem c_X0_isDigit (g : Gl) (x : Int32) : Ctr g yX0_isDigit wsX0_isDigit ({ frames := 0, cells := 0, slots := 0, locals := 0 }) [.int x] [] (some (.int (b01 (bDig x)))) [] 0 0 := by
  refine Ctr.start (cc := cX0_isDigit) (maxL := 1) (ret := (some .boolean)) (by decide) rfl (Nat.le_of_ble_eq_true rfl) (lv0 := [(0, .int x)]) rfl ?_
  intro X C F
  have C : Ok g X cX0_isDigit RX0 wsX0_isDigit ({ frames := 0, cells := 0, slots := 0, locals := 0 }) (some .boolean) 1 := C
  refine g_iload_n C dX0_isDigit_0 0 rfl ?_
  refine g_bipush C dX0_isDigit_1 (v := 48) (by decide) ?_
  refine g_icmp_lt C dX0_isDigit_3 (tgt := 16) (by decide) (fun c1 => ?_) (fun c1 => ?_)
  · refine g_iconst C dX0_isDigit_16 (v := 0) (by decide) ?_
    have c1 := k_lt (b := 48) (by decide) c1
    exact g_zret C F (by decide) ((b01_f (by omega)).symm) (rfl) dX0_isDigit_17
  · refine g_iload_n C dX0_isDigit_6 0 rfl ?_
    refine g_bipush C dX0_isDigit_7 (v := 57) (by decide) ?_
    refine g_icmp_gt C dX0_isDigit_9 (tgt := 16) (by decide) (fun c2 => ?_) (fun c2 => ?_)
    · refine g_iconst C dX0_isDigit_16 (v := 0) (by decide) ?_
      have c1 := k_nlt (b := 48) (by decide) c1
      have c2 := k_gt (b := 57) (by decide) c2
      exact g_zret C F (by decide) ((b01_f (by omega)).symm) (rfl) dX0_isDigit_17
    · refine g_iconst C dX0_isDigit_12 (v := 1) (by decide) ?_
      refine g_goto C dX0_isDigit_13 (tgt := 17) (by decide) ?_
      have c1 := k_nlt (b := 48) (by decide) c1
      have c2 := k_ngt (b := 57) (by decide) c2
      exact g_zret C F (by decide) ((b01_t (by omega)).symm) (rfl) dX0_isDigit_17
set_option maxHeartbeats 4000000 in
set_option maxRecDepth 100000 in
theorem c_X0_isLetter (g : Gl) (x : Int32) : Ctr g yX0_isLetter wsX0_isLetter ({ frames := 0, cells := 0, slots := 0, locals := 0 }) [.int x] [] (some (.int (b01 (bLet x)))) [] 0 0 := by
  refine Ctr.start (cc := cX0_isLetter) (maxL := 1) (ret := (some .boolean)) (by decide) rfl (Nat.le_of_ble_eq_true rfl) (lv0 := [(0, .int x)]) rfl ?_
  intro X C F
  have C : Ok g X cX0_isLetter RX0 wsX0_isLetter ({ frames := 0, cells := 0, slots := 0, locals := 0 }) (some .boolean) 1 := C
  refine g_iload_n C dX0_isLetter_0 0 rfl ?_
  refine g_bipush C dX0_isLetter_1 (v := 97) (by decide) ?_
  refine g_icmp_lt C dX0_isLetter_3 (tgt := 12) (by decide) (fun c1 => ?_) (fun c1 => ?_)
  · refine g_iload_n C dX0_isLetter_12 0 rfl ?_
    refine g_bipush C dX0_isLetter_13 (v := 65) (by decide) ?_
    refine g_icmp_lt C dX0_isLetter_15 (tgt := 24) (by decide) (fun c2 => ?_) (fun c2 => ?_)
    · refine g_iload_n C dX0_isLetter_24 0 rfl ?_
      refine g_bipush C dX0_isLetter_25 (v := 95) (by decide) ?_
      refine g_icmp_ne C dX0_isLetter_27 (tgt := 34) (by decide) (fun c3 => ?_) (fun c3 => ?_)
      · refine g_iconst C dX0_isLetter_34 (v := 0) (by decide) ?_
        have c1 := k_lt (b := 97) (by decide) c1
        have c2 := k_lt (b := 65) (by decide) c2
        have c3 := k_ne (b := 95) (by decide) c3
        exact g_zret C F (by decide) ((b01_f (by omega)).symm) (rfl) dX0_isLetter_35
      · refine g_iconst C dX0_isLetter_30 (v := 1) (by decide) ?_
        refine g_goto C dX0_isLetter_31 (tgt := 35) (by decide) ?_
        have c1 := k_lt (b := 97) (by decide) c1
        have c2 := k_lt (b := 65) (by decide) c2
        have c3 := k_eq (b := 95) (by decide) c3
        exact g_zret C F (by decide) ((b01_t (by omega)).symm) (rfl) dX0_isLetter_35
    · refine g_iload_n C dX0_isLetter_18 0 rfl ?_
      refine g_bipush C dX0_isLetter_19 (v := 90) (by decide) ?_
      refine g_icmp_le C dX0_isLetter_21 (tgt := 30) (by decide) (fun c4 => ?_) (fun c4 => ?_)
      · refine g_iconst C dX0_isLetter_30 (v := 1) (by decide) ?_
        refine g_goto C dX0_isLetter_31 (tgt := 35) (by decide) ?_
        have c1 := k_lt (b := 97) (by decide) c1
        have c2 := k_nlt (b := 65) (by decide) c2
        have c4 := k_le (b := 90) (by decide) c4
        exact g_zret C F (by decide) ((b01_t (by omega)).symm) (rfl) dX0_isLetter_35
      · refine g_iload_n C dX0_isLetter_24 0 rfl ?_
        refine g_bipush C dX0_isLetter_25 (v := 95) (by decide) ?_
        refine g_icmp_ne C dX0_isLetter_27 (tgt := 34) (by decide) (fun c5 => ?_) (fun c5 => ?_)
        · refine g_iconst C dX0_isLetter_34 (v := 0) (by decide) ?_
          have c1 := k_lt (b := 97) (by decide) c1
          have c2 := k_nlt (b := 65) (by decide) c2
          have c4 := k_nle (b := 90) (by decide) c4
          have c5 := k_ne (b := 95) (by decide) c5
          exact g_zret C F (by decide) ((b01_f (by omega)).symm) (rfl) dX0_isLetter_35
        · refine g_iconst C dX0_isLetter_30 (v := 1) (by decide) ?_
          refine g_goto C dX0_isLetter_31 (tgt := 35) (by decide) ?_
          have c1 := k_lt (b := 97) (by decide) c1
          have c2 := k_nlt (b := 65) (by decide) c2
          have c4 := k_nle (b := 90) (by decide) c4
          have c5 := k_eq (b := 95) (by decide) c5
          exact g_zret C F (by decide) ((b01_t (by omega)).symm) (rfl) dX0_isLetter_35
  · refine g_iload_n C dX0_isLetter_6 0 rfl ?_
    refine g_bipush C dX0_isLetter_7 (v := 122) (by decide) ?_
    refine g_icmp_le C dX0_isLetter_9 (tgt := 30) (by decide) (fun c6 => ?_) (fun c6 => ?_)
    · refine g_iconst C dX0_isLetter_30 (v := 1) (by decide) ?_
      refine g_goto C dX0_isLetter_31 (tgt := 35) (by decide) ?_
      have c1 := k_nlt (b := 97) (by decide) c1
      have c6 := k_le (b := 122) (by decide) c6
      exact g_zret C F (by decide) ((b01_t (by omega)).symm) (rfl) dX0_isLetter_35
    · refine g_iload_n C dX0_isLetter_12 0 rfl ?_
      refine g_bipush C dX0_isLetter_13 (v := 65) (by decide) ?_
      refine g_icmp_lt C dX0_isLetter_15 (tgt := 24) (by decide) (fun c7 => ?_) (fun c7 => ?_)
      · refine g_iload_n C dX0_isLetter_24 0 rfl ?_
        refine g_bipush C dX0_isLetter_25 (v := 95) (by decide) ?_
        refine g_icmp_ne C dX0_isLetter_27 (tgt := 34) (by decide) (fun c8 => ?_) (fun c8 => ?_)
        · refine g_iconst C dX0_isLetter_34 (v := 0) (by decide) ?_
          have c1 := k_nlt (b := 97) (by decide) c1
          have c6 := k_nle (b := 122) (by decide) c6
          have c7 := k_lt (b := 65) (by decide) c7
          have c8 := k_ne (b := 95) (by decide) c8
          exact g_zret C F (by decide) ((b01_f (by omega)).symm) (rfl) dX0_isLetter_35
        · refine g_iconst C dX0_isLetter_30 (v := 1) (by decide) ?_
          refine g_goto C dX0_isLetter_31 (tgt := 35) (by decide) ?_
          have c1 := k_nlt (b := 97) (by decide) c1
          have c6 := k_nle (b := 122) (by decide) c6
          have c7 := k_lt (b := 65) (by decide) c7
          have c8 := k_eq (b := 95) (by decide) c8
          exact g_zret C F (by decide) ((b01_t (by omega)).symm) (rfl) dX0_isLetter_35
      · refine g_iload_n C dX0_isLetter_18 0 rfl ?_
        refine g_bipush C dX0_isLetter_19 (v := 90) (by decide) ?_
        refine g_icmp_le C dX0_isLetter_21 (tgt := 30) (by decide) (fun c9 => ?_) (fun c9 => ?_)
        · refine g_iconst C dX0_isLetter_30 (v := 1) (by decide) ?_
          refine g_goto C dX0_isLetter_31 (tgt := 35) (by decide) ?_
          have c1 := k_nlt (b := 97) (by decide) c1
          have c6 := k_nle (b := 122) (by decide) c6
          have c7 := k_nlt (b := 65) (by decide) c7
          have c9 := k_le (b := 90) (by decide) c9
          exact g_zret C F (by decide) ((b01_t (by omega)).symm) (rfl) dX0_isLetter_35
        · refine g_iload_n C dX0_isLetter_24 0 rfl ?_
          refine g_bipush C dX0_isLetter_25 (v := 95) (by decide) ?_
          refine g_icmp_ne C dX0_isLetter_27 (tgt := 34) (by decide) (fun c10 => ?_) (fun c10 => ?_)
          · refine g_iconst C dX0_isLetter_34 (v := 0) (by decide) ?_
            have c1 := k_nlt (b := 97) (by decide) c1
            have c6 := k_nle (b := 122) (by decide) c6
            have c7 := k_nlt (b := 65) (by decide) c7
            have c9 := k_nle (b := 90) (by decide) c9
            have c10 := k_ne (b := 95) (by decide) c10
            exact g_zret C F (by decide) ((b01_f (by omega)).symm) (rfl) dX0_isLetter_35
          · refine g_iconst C dX0_isLetter_30 (v := 1) (by decide) ?_
            refine g_goto C dX0_isLetter_31 (tgt := 35) (by decide) ?_
            have c1 := k_nlt (b := 97) (by decide) c1
            have c6 := k_nle (b := 122) (by decide) c6
            have c7 := k_nlt (b := 65) (by decide) c7
            have c9 := k_nle (b := 90) (by decide) c9
            have c10 := k_eq (b := 95) (by decide) c10
            exact g_zret C F (by decide) ((b01_t (by omega)).symm) (rfl) dX0_isLetter_35
set_option maxHeartbeats 4000000 in
set_option maxRecDepth 100000 in
theorem c_X0_isBlankByte (g : Gl) (x : Int32) : Ctr g yX0_isBlankByte wsX0_isBlankByte ({ frames := 0, cells := 0, slots := 0, locals := 0 }) [.int x] [] (some (.int (b01 (bBlk x)))) [] 0 0 := by
  refine Ctr.start (cc := cX0_isBlankByte) (maxL := 1) (ret := (some .boolean)) (by decide) rfl (Nat.le_of_ble_eq_true rfl) (lv0 := [(0, .int x)]) rfl ?_
  intro X C F
  have C : Ok g X cX0_isBlankByte RX0 wsX0_isBlankByte ({ frames := 0, cells := 0, slots := 0, locals := 0 }) (some .boolean) 1 := C
  refine g_iload_n C dX0_isBlankByte_0 0 rfl ?_
  refine g_bipush C dX0_isBlankByte_1 (v := 9) (by decide) ?_
  refine g_icmp_eq C dX0_isBlankByte_3 (tgt := 24) (by decide) (fun c1 => ?_) (fun c1 => ?_)
  · refine g_iconst C dX0_isBlankByte_24 (v := 1) (by decide) ?_
    refine g_goto C dX0_isBlankByte_25 (tgt := 29) (by decide) ?_
    have c1 := k_eq (b := 9) (by decide) c1
    exact g_zret C F (by decide) ((b01_t (by omega)).symm) (rfl) dX0_isBlankByte_29
  · refine g_iload_n C dX0_isBlankByte_6 0 rfl ?_
    refine g_bipush C dX0_isBlankByte_7 (v := 10) (by decide) ?_
    refine g_icmp_eq C dX0_isBlankByte_9 (tgt := 24) (by decide) (fun c2 => ?_) (fun c2 => ?_)
    · refine g_iconst C dX0_isBlankByte_24 (v := 1) (by decide) ?_
      refine g_goto C dX0_isBlankByte_25 (tgt := 29) (by decide) ?_
      have c1 := k_ne (b := 9) (by decide) c1
      have c2 := k_eq (b := 10) (by decide) c2
      exact g_zret C F (by decide) ((b01_t (by omega)).symm) (rfl) dX0_isBlankByte_29
    · refine g_iload_n C dX0_isBlankByte_12 0 rfl ?_
      refine g_bipush C dX0_isBlankByte_13 (v := 13) (by decide) ?_
      refine g_icmp_eq C dX0_isBlankByte_15 (tgt := 24) (by decide) (fun c3 => ?_) (fun c3 => ?_)
      · refine g_iconst C dX0_isBlankByte_24 (v := 1) (by decide) ?_
        refine g_goto C dX0_isBlankByte_25 (tgt := 29) (by decide) ?_
        have c1 := k_ne (b := 9) (by decide) c1
        have c2 := k_ne (b := 10) (by decide) c2
        have c3 := k_eq (b := 13) (by decide) c3
        exact g_zret C F (by decide) ((b01_t (by omega)).symm) (rfl) dX0_isBlankByte_29
      · refine g_iload_n C dX0_isBlankByte_18 0 rfl ?_
        refine g_bipush C dX0_isBlankByte_19 (v := 32) (by decide) ?_
        refine g_icmp_ne C dX0_isBlankByte_21 (tgt := 28) (by decide) (fun c4 => ?_) (fun c4 => ?_)
        · refine g_iconst C dX0_isBlankByte_28 (v := 0) (by decide) ?_
          have c1 := k_ne (b := 9) (by decide) c1
          have c2 := k_ne (b := 10) (by decide) c2
          have c3 := k_ne (b := 13) (by decide) c3
          have c4 := k_ne (b := 32) (by decide) c4
          exact g_zret C F (by decide) ((b01_f (by omega)).symm) (rfl) dX0_isBlankByte_29
        · refine g_iconst C dX0_isBlankByte_24 (v := 1) (by decide) ?_
          refine g_goto C dX0_isBlankByte_25 (tgt := 29) (by decide) ?_
          have c1 := k_ne (b := 9) (by decide) c1
          have c2 := k_ne (b := 10) (by decide) c2
          have c3 := k_ne (b := 13) (by decide) c3
          have c4 := k_eq (b := 32) (by decide) c4
          exact g_zret C F (by decide) ((b01_t (by omega)).symm) (rfl) dX0_isBlankByte_29
set_option maxHeartbeats 4000000 in
set_option maxRecDepth 100000 in
theorem c_X0_isNamePart (g : Gl) (x : Int32) : Ctr g yX0_isNamePart wsX0_isNamePart ({ frames := 1, cells := 0, slots := 0, locals := 20 }) [.int x] [] (some (.int (b01 (bNam x)))) [] 0 0 := by
  refine Ctr.start (cc := cX0_isNamePart) (maxL := 1) (ret := (some .boolean)) (by decide) rfl (Nat.le_of_ble_eq_true rfl) (lv0 := [(0, .int x)]) rfl ?_
  intro X C F
  have C : Ok g X cX0_isNamePart RX0 wsX0_isNamePart ({ frames := 1, cells := 0, slots := 0, locals := 20 }) (some .boolean) 1 := C
  refine g_iload_n C dX0_isNamePart_0 0 rfl ?_
  refine g_callSi (n := 1) C (c_X0_isLetter g x) gX0_isNamePart_X0_isLetter rfl rfl (by decide) (by decide) rfl (Nat.le_of_ble_eq_true rfl) dX0_isNamePart_1 ?_
  refine g_if_ne C dX0_isNamePart_4 (tgt := 14) (by decide) (fun c1 => ?_) (fun c1 => ?_)
  · refine g_iconst C dX0_isNamePart_14 (v := 1) (by decide) ?_
    refine g_goto C dX0_isNamePart_15 (tgt := 19) (by decide) ?_
    have c1 := bLet_t (b01_1.mp c1)
    exact g_zret C F (by decide) ((b01_t (by omega)).symm) (rfl) dX0_isNamePart_19
  · refine g_iload_n C dX0_isNamePart_7 0 rfl ?_
    refine g_callSi (n := 1) C (c_X0_isDigit g x) gX0_isNamePart_X0_isDigit rfl rfl (by decide) (by decide) rfl (Nat.le_of_ble_eq_true rfl) dX0_isNamePart_8 ?_
    refine g_if_eq C dX0_isNamePart_11 (tgt := 18) (by decide) (fun c2 => ?_) (fun c2 => ?_)
    · refine g_iconst C dX0_isNamePart_18 (v := 0) (by decide) ?_
      have c1 := bLet_f (b01_0.mp c1)
      have c2 := bDig_f (b01_0.mp c2)
      exact g_zret C F (by decide) ((b01_f (by omega)).symm) (rfl) dX0_isNamePart_19
    · refine g_iconst C dX0_isNamePart_14 (v := 1) (by decide) ?_
      refine g_goto C dX0_isNamePart_15 (tgt := 19) (by decide) ?_
      have c1 := bLet_f (b01_0.mp c1)
      have c2 := bDig_t (b01_1.mp c2)
      exact g_zret C F (by decide) ((b01_t (by omega)).symm) (rfl) dX0_isNamePart_19
set_option maxHeartbeats 4000000 in
set_option maxRecDepth 100000 in
theorem c_X0_mayOccur (g : Gl) (x : Int32) : Ctr g yX0_mayOccur wsX0_mayOccur ({ frames := 1, cells := 0, slots := 0, locals := 20 }) [.int x] [] (some (.int (b01 (bMay x)))) [] 0 0 := by
  refine Ctr.start (cc := cX0_mayOccur) (maxL := 1) (ret := (some .boolean)) (by decide) rfl (Nat.le_of_ble_eq_true rfl) (lv0 := [(0, .int x)]) rfl ?_
  intro X C F
  have C : Ok g X cX0_mayOccur RX0 wsX0_mayOccur ({ frames := 1, cells := 0, slots := 0, locals := 20 }) (some .boolean) 1 := C
  refine g_iload_n C dX0_mayOccur_0 0 rfl ?_
  refine g_bipush C dX0_mayOccur_1 (v := 32) (by decide) ?_
  refine g_icmp_lt C dX0_mayOccur_3 (tgt := 12) (by decide) (fun c1 => ?_) (fun c1 => ?_)
  · refine g_iload_n C dX0_mayOccur_12 0 rfl ?_
    refine g_callSi (n := 1) C (c_X0_isBlankByte g x) gX0_mayOccur_X0_isBlankByte rfl rfl (by decide) (by decide) rfl (Nat.le_of_ble_eq_true rfl) dX0_mayOccur_13 ?_
    refine g_if_eq C dX0_mayOccur_16 (tgt := 23) (by decide) (fun c2 => ?_) (fun c2 => ?_)
    · refine g_iconst C dX0_mayOccur_23 (v := 0) (by decide) ?_
      have c1 := k_lt (b := 32) (by decide) c1
      have c2 := bBlk_f (b01_0.mp c2)
      exact g_zret C F (by decide) ((b01_f (by omega)).symm) (rfl) dX0_mayOccur_24
    · refine g_iconst C dX0_mayOccur_19 (v := 1) (by decide) ?_
      refine g_goto C dX0_mayOccur_20 (tgt := 24) (by decide) ?_
      have c1 := k_lt (b := 32) (by decide) c1
      have c2 := bBlk_t (b01_1.mp c2)
      exact g_zret C F (by decide) ((b01_t (by omega)).symm) (rfl) dX0_mayOccur_24
  · refine g_iload_n C dX0_mayOccur_6 0 rfl ?_
    refine g_bipush C dX0_mayOccur_7 (v := 126) (by decide) ?_
    refine g_icmp_le C dX0_mayOccur_9 (tgt := 19) (by decide) (fun c3 => ?_) (fun c3 => ?_)
    · refine g_iconst C dX0_mayOccur_19 (v := 1) (by decide) ?_
      refine g_goto C dX0_mayOccur_20 (tgt := 24) (by decide) ?_
      have c1 := k_nlt (b := 32) (by decide) c1
      have c3 := k_le (b := 126) (by decide) c3
      exact g_zret C F (by decide) ((b01_t (by omega)).symm) (rfl) dX0_mayOccur_24
    · refine g_iload_n C dX0_mayOccur_12 0 rfl ?_
      refine g_callSi (n := 1) C (c_X0_isBlankByte g x) gX0_mayOccur_X0_isBlankByte rfl rfl (by decide) (by decide) rfl (Nat.le_of_ble_eq_true rfl) dX0_mayOccur_13 ?_
      refine g_if_eq C dX0_mayOccur_16 (tgt := 23) (by decide) (fun c4 => ?_) (fun c4 => ?_)
      · refine g_iconst C dX0_mayOccur_23 (v := 0) (by decide) ?_
        have c1 := k_nlt (b := 32) (by decide) c1
        have c3 := k_nle (b := 126) (by decide) c3
        have c4 := bBlk_f (b01_0.mp c4)
        exact g_zret C F (by decide) ((b01_f (by omega)).symm) (rfl) dX0_mayOccur_24
      · refine g_iconst C dX0_mayOccur_19 (v := 1) (by decide) ?_
        refine g_goto C dX0_mayOccur_20 (tgt := 24) (by decide) ?_
        have c1 := k_nlt (b := 32) (by decide) c1
        have c3 := k_nle (b := 126) (by decide) c3
        have c4 := bBlk_t (b01_1.mp c4)
        exact g_zret C F (by decide) ((b01_t (by omega)).symm) (rfl) dX0_mayOccur_24
set_option maxHeartbeats 4000000 in
set_option maxRecDepth 100000 in
theorem c_X1_isDigit (g : Gl) (x : Int32) : Ctr g yX1_isDigit wsX1_isDigit ({ frames := 0, cells := 0, slots := 0, locals := 0 }) [.int x] [] (some (.int (b01 (bDig x)))) [] 0 0 := by
  refine Ctr.start (cc := cX1_isDigit) (maxL := 1) (ret := (some .boolean)) (by decide) rfl (Nat.le_of_ble_eq_true rfl) (lv0 := [(0, .int x)]) rfl ?_
  intro X C F
  have C : Ok g X cX1_isDigit RX1 wsX1_isDigit ({ frames := 0, cells := 0, slots := 0, locals := 0 }) (some .boolean) 1 := C
  refine g_iload_n C dX1_isDigit_0 0 rfl ?_
  refine g_bipush C dX1_isDigit_1 (v := 48) (by decide) ?_
  refine g_icmp_lt C dX1_isDigit_3 (tgt := 16) (by decide) (fun c1 => ?_) (fun c1 => ?_)
  · refine g_iconst C dX1_isDigit_16 (v := 0) (by decide) ?_
    have c1 := k_lt (b := 48) (by decide) c1
    exact g_zret C F (by decide) ((b01_f (by omega)).symm) (rfl) dX1_isDigit_17
  · refine g_iload_n C dX1_isDigit_6 0 rfl ?_
    refine g_bipush C dX1_isDigit_7 (v := 57) (by decide) ?_
    refine g_icmp_gt C dX1_isDigit_9 (tgt := 16) (by decide) (fun c2 => ?_) (fun c2 => ?_)
    · refine g_iconst C dX1_isDigit_16 (v := 0) (by decide) ?_
      have c1 := k_nlt (b := 48) (by decide) c1
      have c2 := k_gt (b := 57) (by decide) c2
      exact g_zret C F (by decide) ((b01_f (by omega)).symm) (rfl) dX1_isDigit_17
    · refine g_iconst C dX1_isDigit_12 (v := 1) (by decide) ?_
      refine g_goto C dX1_isDigit_13 (tgt := 17) (by decide) ?_
      have c1 := k_nlt (b := 48) (by decide) c1
      have c2 := k_ngt (b := 57) (by decide) c2
      exact g_zret C F (by decide) ((b01_t (by omega)).symm) (rfl) dX1_isDigit_17
set_option maxHeartbeats 4000000 in
set_option maxRecDepth 100000 in
theorem c_X1_isBlank (g : Gl) (x : Int32) : Ctr g yX1_isBlank wsX1_isBlank ({ frames := 0, cells := 0, slots := 0, locals := 0 }) [.int x] [] (some (.int (b01 (bBlk x)))) [] 0 0 := by
  refine Ctr.start (cc := cX1_isBlank) (maxL := 1) (ret := (some .boolean)) (by decide) rfl (Nat.le_of_ble_eq_true rfl) (lv0 := [(0, .int x)]) rfl ?_
  intro X C F
  have C : Ok g X cX1_isBlank RX1 wsX1_isBlank ({ frames := 0, cells := 0, slots := 0, locals := 0 }) (some .boolean) 1 := C
  refine g_iload_n C dX1_isBlank_0 0 rfl ?_
  refine g_bipush C dX1_isBlank_1 (v := 9) (by decide) ?_
  refine g_icmp_eq C dX1_isBlank_3 (tgt := 24) (by decide) (fun c1 => ?_) (fun c1 => ?_)
  · refine g_iconst C dX1_isBlank_24 (v := 1) (by decide) ?_
    refine g_goto C dX1_isBlank_25 (tgt := 29) (by decide) ?_
    have c1 := k_eq (b := 9) (by decide) c1
    exact g_zret C F (by decide) ((b01_t (by omega)).symm) (rfl) dX1_isBlank_29
  · refine g_iload_n C dX1_isBlank_6 0 rfl ?_
    refine g_bipush C dX1_isBlank_7 (v := 10) (by decide) ?_
    refine g_icmp_eq C dX1_isBlank_9 (tgt := 24) (by decide) (fun c2 => ?_) (fun c2 => ?_)
    · refine g_iconst C dX1_isBlank_24 (v := 1) (by decide) ?_
      refine g_goto C dX1_isBlank_25 (tgt := 29) (by decide) ?_
      have c1 := k_ne (b := 9) (by decide) c1
      have c2 := k_eq (b := 10) (by decide) c2
      exact g_zret C F (by decide) ((b01_t (by omega)).symm) (rfl) dX1_isBlank_29
    · refine g_iload_n C dX1_isBlank_12 0 rfl ?_
      refine g_bipush C dX1_isBlank_13 (v := 13) (by decide) ?_
      refine g_icmp_eq C dX1_isBlank_15 (tgt := 24) (by decide) (fun c3 => ?_) (fun c3 => ?_)
      · refine g_iconst C dX1_isBlank_24 (v := 1) (by decide) ?_
        refine g_goto C dX1_isBlank_25 (tgt := 29) (by decide) ?_
        have c1 := k_ne (b := 9) (by decide) c1
        have c2 := k_ne (b := 10) (by decide) c2
        have c3 := k_eq (b := 13) (by decide) c3
        exact g_zret C F (by decide) ((b01_t (by omega)).symm) (rfl) dX1_isBlank_29
      · refine g_iload_n C dX1_isBlank_18 0 rfl ?_
        refine g_bipush C dX1_isBlank_19 (v := 32) (by decide) ?_
        refine g_icmp_ne C dX1_isBlank_21 (tgt := 28) (by decide) (fun c4 => ?_) (fun c4 => ?_)
        · refine g_iconst C dX1_isBlank_28 (v := 0) (by decide) ?_
          have c1 := k_ne (b := 9) (by decide) c1
          have c2 := k_ne (b := 10) (by decide) c2
          have c3 := k_ne (b := 13) (by decide) c3
          have c4 := k_ne (b := 32) (by decide) c4
          exact g_zret C F (by decide) ((b01_f (by omega)).symm) (rfl) dX1_isBlank_29
        · refine g_iconst C dX1_isBlank_24 (v := 1) (by decide) ?_
          refine g_goto C dX1_isBlank_25 (tgt := 29) (by decide) ?_
          have c1 := k_ne (b := 9) (by decide) c1
          have c2 := k_ne (b := 10) (by decide) c2
          have c3 := k_ne (b := 13) (by decide) c3
          have c4 := k_eq (b := 32) (by decide) c4
          exact g_zret C F (by decide) ((b01_t (by omega)).symm) (rfl) dX1_isBlank_29
set_option maxHeartbeats 4000000 in
set_option maxRecDepth 100000 in
theorem c_X1_isInName (g : Gl) (x : Int32) : Ctr g yX1_isInName wsX1_isInName ({ frames := 1, cells := 0, slots := 0, locals := 20 }) [.int x] [] (some (.int (b01 (bNam x)))) [] 0 0 := by
  refine Ctr.start (cc := cX1_isInName) (maxL := 1) (ret := (some .boolean)) (by decide) rfl (Nat.le_of_ble_eq_true rfl) (lv0 := [(0, .int x)]) rfl ?_
  intro X C F
  have C : Ok g X cX1_isInName RX1 wsX1_isInName ({ frames := 1, cells := 0, slots := 0, locals := 20 }) (some .boolean) 1 := C
  refine g_iload_n C dX1_isInName_0 0 rfl ?_
  refine g_callSi (n := 1) C (c_X1_isDigit g x) gX1_isInName_X1_isDigit rfl rfl (by decide) (by decide) rfl (Nat.le_of_ble_eq_true rfl) dX1_isInName_1 ?_
  refine g_if_ne C dX1_isInName_4 (tgt := 37) (by decide) (fun c1 => ?_) (fun c1 => ?_)
  · refine g_iconst C dX1_isInName_37 (v := 1) (by decide) ?_
    refine g_goto C dX1_isInName_38 (tgt := 42) (by decide) ?_
    have c1 := bDig_t (b01_1.mp c1)
    exact g_zret C F (by decide) ((b01_t (by omega)).symm) (rfl) dX1_isInName_42
  · refine g_iload_n C dX1_isInName_7 0 rfl ?_
    refine g_bipush C dX1_isInName_8 (v := 95) (by decide) ?_
    refine g_icmp_eq C dX1_isInName_10 (tgt := 37) (by decide) (fun c2 => ?_) (fun c2 => ?_)
    · refine g_iconst C dX1_isInName_37 (v := 1) (by decide) ?_
      refine g_goto C dX1_isInName_38 (tgt := 42) (by decide) ?_
      have c1 := bDig_f (b01_0.mp c1)
      have c2 := k_eq (b := 95) (by decide) c2
      exact g_zret C F (by decide) ((b01_t (by omega)).symm) (rfl) dX1_isInName_42
    · refine g_iload_n C dX1_isInName_13 0 rfl ?_
      refine g_bipush C dX1_isInName_14 (v := 97) (by decide) ?_
      refine g_icmp_lt C dX1_isInName_16 (tgt := 25) (by decide) (fun c3 => ?_) (fun c3 => ?_)
      · refine g_iload_n C dX1_isInName_25 0 rfl ?_
        refine g_bipush C dX1_isInName_26 (v := 65) (by decide) ?_
        refine g_icmp_lt C dX1_isInName_28 (tgt := 41) (by decide) (fun c4 => ?_) (fun c4 => ?_)
        · refine g_iconst C dX1_isInName_41 (v := 0) (by decide) ?_
          have c1 := bDig_f (b01_0.mp c1)
          have c2 := k_ne (b := 95) (by decide) c2
          have c3 := k_lt (b := 97) (by decide) c3
          have c4 := k_lt (b := 65) (by decide) c4
          exact g_zret C F (by decide) ((b01_f (by omega)).symm) (rfl) dX1_isInName_42
        · refine g_iload_n C dX1_isInName_31 0 rfl ?_
          refine g_bipush C dX1_isInName_32 (v := 90) (by decide) ?_
          refine g_icmp_gt C dX1_isInName_34 (tgt := 41) (by decide) (fun c5 => ?_) (fun c5 => ?_)
          · refine g_iconst C dX1_isInName_41 (v := 0) (by decide) ?_
            have c1 := bDig_f (b01_0.mp c1)
            have c2 := k_ne (b := 95) (by decide) c2
            have c3 := k_lt (b := 97) (by decide) c3
            have c4 := k_nlt (b := 65) (by decide) c4
            have c5 := k_gt (b := 90) (by decide) c5
            exact g_zret C F (by decide) ((b01_f (by omega)).symm) (rfl) dX1_isInName_42
          · refine g_iconst C dX1_isInName_37 (v := 1) (by decide) ?_
            refine g_goto C dX1_isInName_38 (tgt := 42) (by decide) ?_
            have c1 := bDig_f (b01_0.mp c1)
            have c2 := k_ne (b := 95) (by decide) c2
            have c3 := k_lt (b := 97) (by decide) c3
            have c4 := k_nlt (b := 65) (by decide) c4
            have c5 := k_ngt (b := 90) (by decide) c5
            exact g_zret C F (by decide) ((b01_t (by omega)).symm) (rfl) dX1_isInName_42
      · refine g_iload_n C dX1_isInName_19 0 rfl ?_
        refine g_bipush C dX1_isInName_20 (v := 122) (by decide) ?_
        refine g_icmp_le C dX1_isInName_22 (tgt := 37) (by decide) (fun c6 => ?_) (fun c6 => ?_)
        · refine g_iconst C dX1_isInName_37 (v := 1) (by decide) ?_
          refine g_goto C dX1_isInName_38 (tgt := 42) (by decide) ?_
          have c1 := bDig_f (b01_0.mp c1)
          have c2 := k_ne (b := 95) (by decide) c2
          have c3 := k_nlt (b := 97) (by decide) c3
          have c6 := k_le (b := 122) (by decide) c6
          exact g_zret C F (by decide) ((b01_t (by omega)).symm) (rfl) dX1_isInName_42
        · refine g_iload_n C dX1_isInName_25 0 rfl ?_
          refine g_bipush C dX1_isInName_26 (v := 65) (by decide) ?_
          refine g_icmp_lt C dX1_isInName_28 (tgt := 41) (by decide) (fun c7 => ?_) (fun c7 => ?_)
          · refine g_iconst C dX1_isInName_41 (v := 0) (by decide) ?_
            have c1 := bDig_f (b01_0.mp c1)
            have c2 := k_ne (b := 95) (by decide) c2
            have c3 := k_nlt (b := 97) (by decide) c3
            have c6 := k_nle (b := 122) (by decide) c6
            have c7 := k_lt (b := 65) (by decide) c7
            exact g_zret C F (by decide) ((b01_f (by omega)).symm) (rfl) dX1_isInName_42
          · refine g_iload_n C dX1_isInName_31 0 rfl ?_
            refine g_bipush C dX1_isInName_32 (v := 90) (by decide) ?_
            refine g_icmp_gt C dX1_isInName_34 (tgt := 41) (by decide) (fun c8 => ?_) (fun c8 => ?_)
            · refine g_iconst C dX1_isInName_41 (v := 0) (by decide) ?_
              have c1 := bDig_f (b01_0.mp c1)
              have c2 := k_ne (b := 95) (by decide) c2
              have c3 := k_nlt (b := 97) (by decide) c3
              have c6 := k_nle (b := 122) (by decide) c6
              have c7 := k_nlt (b := 65) (by decide) c7
              have c8 := k_gt (b := 90) (by decide) c8
              exact g_zret C F (by decide) ((b01_f (by omega)).symm) (rfl) dX1_isInName_42
            · refine g_iconst C dX1_isInName_37 (v := 1) (by decide) ?_
              refine g_goto C dX1_isInName_38 (tgt := 42) (by decide) ?_
              have c1 := bDig_f (b01_0.mp c1)
              have c2 := k_ne (b := 95) (by decide) c2
              have c3 := k_nlt (b := 97) (by decide) c3
              have c6 := k_nle (b := 122) (by decide) c6
              have c7 := k_nlt (b := 65) (by decide) c7
              have c8 := k_ngt (b := 90) (by decide) c8
              exact g_zret C F (by decide) ((b01_t (by omega)).symm) (rfl) dX1_isInName_42
set_option maxHeartbeats 4000000 in
set_option maxRecDepth 100000 in
theorem c_X1_isAllowed (g : Gl) (x : Int32) : Ctr g yX1_isAllowed wsX1_isAllowed ({ frames := 1, cells := 0, slots := 0, locals := 20 }) [.int x] [] (some (.int (b01 (bMay x)))) [] 0 0 := by
  refine Ctr.start (cc := cX1_isAllowed) (maxL := 1) (ret := (some .boolean)) (by decide) rfl (Nat.le_of_ble_eq_true rfl) (lv0 := [(0, .int x)]) rfl ?_
  intro X C F
  have C : Ok g X cX1_isAllowed RX1 wsX1_isAllowed ({ frames := 1, cells := 0, slots := 0, locals := 20 }) (some .boolean) 1 := C
  refine g_iload_n C dX1_isAllowed_0 0 rfl ?_
  refine g_callSi (n := 1) C (c_X1_isBlank g x) gX1_isAllowed_X1_isBlank rfl rfl (by decide) (by decide) rfl (Nat.le_of_ble_eq_true rfl) dX1_isAllowed_1 ?_
  refine g_if_ne C dX1_isAllowed_4 (tgt := 19) (by decide) (fun c1 => ?_) (fun c1 => ?_)
  · refine g_iconst C dX1_isAllowed_19 (v := 1) (by decide) ?_
    refine g_goto C dX1_isAllowed_20 (tgt := 24) (by decide) ?_
    have c1 := bBlk_t (b01_1.mp c1)
    exact g_zret C F (by decide) ((b01_t (by omega)).symm) (rfl) dX1_isAllowed_24
  · refine g_iload_n C dX1_isAllowed_7 0 rfl ?_
    refine g_bipush C dX1_isAllowed_8 (v := 32) (by decide) ?_
    refine g_icmp_lt C dX1_isAllowed_10 (tgt := 23) (by decide) (fun c2 => ?_) (fun c2 => ?_)
    · refine g_iconst C dX1_isAllowed_23 (v := 0) (by decide) ?_
      have c1 := bBlk_f (b01_0.mp c1)
      have c2 := k_lt (b := 32) (by decide) c2
      exact g_zret C F (by decide) ((b01_f (by omega)).symm) (rfl) dX1_isAllowed_24
    · refine g_iload_n C dX1_isAllowed_13 0 rfl ?_
      refine g_bipush C dX1_isAllowed_14 (v := 126) (by decide) ?_
      refine g_icmp_gt C dX1_isAllowed_16 (tgt := 23) (by decide) (fun c3 => ?_) (fun c3 => ?_)
      · refine g_iconst C dX1_isAllowed_23 (v := 0) (by decide) ?_
        have c1 := bBlk_f (b01_0.mp c1)
        have c2 := k_nlt (b := 32) (by decide) c2
        have c3 := k_gt (b := 126) (by decide) c3
        exact g_zret C F (by decide) ((b01_f (by omega)).symm) (rfl) dX1_isAllowed_24
      · refine g_iconst C dX1_isAllowed_19 (v := 1) (by decide) ?_
        refine g_goto C dX1_isAllowed_20 (tgt := 24) (by decide) ?_
        have c1 := bBlk_f (b01_0.mp c1)
        have c2 := k_nlt (b := 32) (by decide) c2
        have c3 := k_ngt (b := 126) (by decide) c3
        exact g_zret C F (by decide) ((b01_t (by omega)).symm) (rfl) dX1_isAllowed_24
theorem hx_a (x : Int32) : x - 97 + 10 = x - 87 := by
  rw [Int32.sub_eq_add_neg, Int32.add_assoc, Int32.sub_eq_add_neg]; rfl
theorem hx_b (x : Int32) : x - 65 + 10 = x - 55 := by
  rw [Int32.sub_eq_add_neg, Int32.add_assoc, Int32.sub_eq_add_neg]; rfl
set_option maxHeartbeats 4000000 in
set_option maxRecDepth 100000 in
theorem c_X0_hexDigit (g : Gl) (x : Int32) : Ctr g yX0_hexDigit wsX0_hexDigit ({ frames := 1, cells := 0, slots := 0, locals := 20 }) [.int x] [] (some (.int (hexv x))) [] 0 0 := by
  refine Ctr.start (cc := cX0_hexDigit) (maxL := 1) (ret := (some .int)) (by decide) rfl (Nat.le_of_ble_eq_true rfl) (lv0 := [(0, .int x)]) rfl ?_
  intro X C F
  have C : Ok g X cX0_hexDigit RX0 wsX0_hexDigit ({ frames := 1, cells := 0, slots := 0, locals := 20 }) (some .int) 1 := C
  refine g_iload_n C dX0_hexDigit_0 0 rfl ?_
  refine g_callSi (n := 1) C (c_X0_isDigit g x) gX0_hexDigit_X0_isDigit rfl rfl (by decide) (by decide) rfl (Nat.le_of_ble_eq_true rfl) dX0_hexDigit_1 ?_
  refine g_if_eq C dX0_hexDigit_4 (tgt := 12) (by decide) (fun c1 => ?_) (fun c1 => ?_)
  · refine g_iload_n C dX0_hexDigit_12 0 rfl ?_
    refine g_bipush C dX0_hexDigit_13 (v := 97) (by decide) ?_
    refine g_icmp_lt C dX0_hexDigit_15 (tgt := 32) (by decide) (fun c2 => ?_) (fun c2 => ?_)
    · refine g_iload_n C dX0_hexDigit_32 0 rfl ?_
      refine g_bipush C dX0_hexDigit_33 (v := 65) (by decide) ?_
      refine g_icmp_lt C dX0_hexDigit_35 (tgt := 54) (by decide) (fun c3 => ?_) (fun c3 => ?_)
      · refine g_iconst C dX0_hexDigit_54 (v := (-1)) (by decide) ?_
        have c1 := bDig_f (b01_0.mp c1)
        have c2 := k_lt (b := 97) (by decide) c2
        have c3 := k_lt (b := 65) (by decide) c3
        exact g_iret C F (by unfold hexv; first | (rw [if_pos (by omega)]; done) | (rw [if_neg (by omega), if_pos (by omega)]; exact hx_a x) | (rw [if_neg (by omega), if_pos (by omega)]; done) | (rw [if_neg (by omega), if_neg (by omega), if_pos (by omega)]; exact hx_b x) | (rw [if_neg (by omega), if_neg (by omega), if_pos (by omega)]; done) | (rw [if_neg (by omega), if_neg (by omega), if_neg (by omega)]; done)) (rfl) dX0_hexDigit_55
      · refine g_iload_n C dX0_hexDigit_38 0 rfl ?_
        refine g_bipush C dX0_hexDigit_39 (v := 70) (by decide) ?_
        refine g_icmp_gt C dX0_hexDigit_41 (tgt := 54) (by decide) (fun c4 => ?_) (fun c4 => ?_)
        · refine g_iconst C dX0_hexDigit_54 (v := (-1)) (by decide) ?_
          have c1 := bDig_f (b01_0.mp c1)
          have c2 := k_lt (b := 97) (by decide) c2
          have c3 := k_nlt (b := 65) (by decide) c3
          have c4 := k_gt (b := 70) (by decide) c4
          exact g_iret C F (by unfold hexv; first | (rw [if_pos (by omega)]; done) | (rw [if_neg (by omega), if_pos (by omega)]; exact hx_a x) | (rw [if_neg (by omega), if_pos (by omega)]; done) | (rw [if_neg (by omega), if_neg (by omega), if_pos (by omega)]; exact hx_b x) | (rw [if_neg (by omega), if_neg (by omega), if_pos (by omega)]; done) | (rw [if_neg (by omega), if_neg (by omega), if_neg (by omega)]; done)) (rfl) dX0_hexDigit_55
        · refine g_iload_n C dX0_hexDigit_44 0 rfl ?_
          refine g_bipush C dX0_hexDigit_45 (v := 65) (by decide) ?_
          refine g_isub C dX0_hexDigit_47 ?_
          refine g_bipush C dX0_hexDigit_48 (v := 10) (by decide) ?_
          refine g_iadd C dX0_hexDigit_50 ?_
          refine g_goto C dX0_hexDigit_51 (tgt := 55) (by decide) ?_
          have c1 := bDig_f (b01_0.mp c1)
          have c2 := k_lt (b := 97) (by decide) c2
          have c3 := k_nlt (b := 65) (by decide) c3
          have c4 := k_ngt (b := 70) (by decide) c4
          exact g_iret C F (by unfold hexv; first | (rw [if_pos (by omega)]; done) | (rw [if_neg (by omega), if_pos (by omega)]; exact hx_a x) | (rw [if_neg (by omega), if_pos (by omega)]; done) | (rw [if_neg (by omega), if_neg (by omega), if_pos (by omega)]; exact hx_b x) | (rw [if_neg (by omega), if_neg (by omega), if_pos (by omega)]; done) | (rw [if_neg (by omega), if_neg (by omega), if_neg (by omega)]; done)) (rfl) dX0_hexDigit_55
    · refine g_iload_n C dX0_hexDigit_18 0 rfl ?_
      refine g_bipush C dX0_hexDigit_19 (v := 102) (by decide) ?_
      refine g_icmp_gt C dX0_hexDigit_21 (tgt := 32) (by decide) (fun c5 => ?_) (fun c5 => ?_)
      · refine g_iload_n C dX0_hexDigit_32 0 rfl ?_
        refine g_bipush C dX0_hexDigit_33 (v := 65) (by decide) ?_
        refine g_icmp_lt C dX0_hexDigit_35 (tgt := 54) (by decide) (fun c6 => ?_) (fun c6 => ?_)
        · refine g_iconst C dX0_hexDigit_54 (v := (-1)) (by decide) ?_
          have c1 := bDig_f (b01_0.mp c1)
          have c2 := k_nlt (b := 97) (by decide) c2
          have c5 := k_gt (b := 102) (by decide) c5
          have c6 := k_lt (b := 65) (by decide) c6
          exact g_iret C F (by unfold hexv; first | (rw [if_pos (by omega)]; done) | (rw [if_neg (by omega), if_pos (by omega)]; exact hx_a x) | (rw [if_neg (by omega), if_pos (by omega)]; done) | (rw [if_neg (by omega), if_neg (by omega), if_pos (by omega)]; exact hx_b x) | (rw [if_neg (by omega), if_neg (by omega), if_pos (by omega)]; done) | (rw [if_neg (by omega), if_neg (by omega), if_neg (by omega)]; done)) (rfl) dX0_hexDigit_55
        · refine g_iload_n C dX0_hexDigit_38 0 rfl ?_
          refine g_bipush C dX0_hexDigit_39 (v := 70) (by decide) ?_
          refine g_icmp_gt C dX0_hexDigit_41 (tgt := 54) (by decide) (fun c7 => ?_) (fun c7 => ?_)
          · refine g_iconst C dX0_hexDigit_54 (v := (-1)) (by decide) ?_
            have c1 := bDig_f (b01_0.mp c1)
            have c2 := k_nlt (b := 97) (by decide) c2
            have c5 := k_gt (b := 102) (by decide) c5
            have c6 := k_nlt (b := 65) (by decide) c6
            have c7 := k_gt (b := 70) (by decide) c7
            exact g_iret C F (by unfold hexv; first | (rw [if_pos (by omega)]; done) | (rw [if_neg (by omega), if_pos (by omega)]; exact hx_a x) | (rw [if_neg (by omega), if_pos (by omega)]; done) | (rw [if_neg (by omega), if_neg (by omega), if_pos (by omega)]; exact hx_b x) | (rw [if_neg (by omega), if_neg (by omega), if_pos (by omega)]; done) | (rw [if_neg (by omega), if_neg (by omega), if_neg (by omega)]; done)) (rfl) dX0_hexDigit_55
          · refine g_iload_n C dX0_hexDigit_44 0 rfl ?_
            refine g_bipush C dX0_hexDigit_45 (v := 65) (by decide) ?_
            refine g_isub C dX0_hexDigit_47 ?_
            refine g_bipush C dX0_hexDigit_48 (v := 10) (by decide) ?_
            refine g_iadd C dX0_hexDigit_50 ?_
            refine g_goto C dX0_hexDigit_51 (tgt := 55) (by decide) ?_
            have c1 := bDig_f (b01_0.mp c1)
            have c2 := k_nlt (b := 97) (by decide) c2
            have c5 := k_gt (b := 102) (by decide) c5
            have c6 := k_nlt (b := 65) (by decide) c6
            have c7 := k_ngt (b := 70) (by decide) c7
            exact g_iret C F (by unfold hexv; first | (rw [if_pos (by omega)]; done) | (rw [if_neg (by omega), if_pos (by omega)]; exact hx_a x) | (rw [if_neg (by omega), if_pos (by omega)]; done) | (rw [if_neg (by omega), if_neg (by omega), if_pos (by omega)]; exact hx_b x) | (rw [if_neg (by omega), if_neg (by omega), if_pos (by omega)]; done) | (rw [if_neg (by omega), if_neg (by omega), if_neg (by omega)]; done)) (rfl) dX0_hexDigit_55
      · refine g_iload_n C dX0_hexDigit_24 0 rfl ?_
        refine g_bipush C dX0_hexDigit_25 (v := 97) (by decide) ?_
        refine g_isub C dX0_hexDigit_27 ?_
        refine g_bipush C dX0_hexDigit_28 (v := 10) (by decide) ?_
        refine g_iadd C dX0_hexDigit_30 ?_
        have c1 := bDig_f (b01_0.mp c1)
        have c2 := k_nlt (b := 97) (by decide) c2
        have c5 := k_ngt (b := 102) (by decide) c5
        exact g_iret C F (by unfold hexv; first | (rw [if_pos (by omega)]; done) | (rw [if_neg (by omega), if_pos (by omega)]; exact hx_a x) | (rw [if_neg (by omega), if_pos (by omega)]; done) | (rw [if_neg (by omega), if_neg (by omega), if_pos (by omega)]; exact hx_b x) | (rw [if_neg (by omega), if_neg (by omega), if_pos (by omega)]; done) | (rw [if_neg (by omega), if_neg (by omega), if_neg (by omega)]; done)) (rfl) dX0_hexDigit_31
  · refine g_iload_n C dX0_hexDigit_7 0 rfl ?_
    refine g_bipush C dX0_hexDigit_8 (v := 48) (by decide) ?_
    refine g_isub C dX0_hexDigit_10 ?_
    have c1 := bDig_t (b01_1.mp c1)
    exact g_iret C F (by unfold hexv; first | (rw [if_pos (by omega)]; done) | (rw [if_neg (by omega), if_pos (by omega)]; exact hx_a x) | (rw [if_neg (by omega), if_pos (by omega)]; done) | (rw [if_neg (by omega), if_neg (by omega), if_pos (by omega)]; exact hx_b x) | (rw [if_neg (by omega), if_neg (by omega), if_pos (by omega)]; done) | (rw [if_neg (by omega), if_neg (by omega), if_neg (by omega)]; done)) (rfl) dX0_hexDigit_11
set_option maxHeartbeats 4000000 in
set_option maxRecDepth 100000 in
theorem c_X1_sixteen (g : Gl) (x : Int32) : Ctr g yX1_sixteen wsX1_sixteen ({ frames := 1, cells := 0, slots := 0, locals := 20 }) [.int x] [] (some (.int (hexv x))) [] 0 0 := by
  refine Ctr.start (cc := cX1_sixteen) (maxL := 1) (ret := (some .int)) (by decide) rfl (Nat.le_of_ble_eq_true rfl) (lv0 := [(0, .int x)]) rfl ?_
  intro X C F
  have C : Ok g X cX1_sixteen RX1 wsX1_sixteen ({ frames := 1, cells := 0, slots := 0, locals := 20 }) (some .int) 1 := C
  refine g_iload_n C dX1_sixteen_0 0 rfl ?_
  refine g_callSi (n := 1) C (c_X1_isDigit g x) gX1_sixteen_X1_isDigit rfl rfl (by decide) (by decide) rfl (Nat.le_of_ble_eq_true rfl) dX1_sixteen_1 ?_
  refine g_if_eq C dX1_sixteen_4 (tgt := 14) (by decide) (fun c1 => ?_) (fun c1 => ?_)
  · refine g_iload_n C dX1_sixteen_14 0 rfl ?_
    refine g_bipush C dX1_sixteen_15 (v := 97) (by decide) ?_
    refine g_icmp_lt C dX1_sixteen_17 (tgt := 33) (by decide) (fun c2 => ?_) (fun c2 => ?_)
    · refine g_iload_n C dX1_sixteen_33 0 rfl ?_
      refine g_bipush C dX1_sixteen_34 (v := 65) (by decide) ?_
      refine g_icmp_lt C dX1_sixteen_36 (tgt := 52) (by decide) (fun c3 => ?_) (fun c3 => ?_)
      · refine g_iconst C dX1_sixteen_52 (v := (-1)) (by decide) ?_
        have c1 := bDig_f (b01_0.mp c1)
        have c2 := k_lt (b := 97) (by decide) c2
        have c3 := k_lt (b := 65) (by decide) c3
        exact g_iret C F (by unfold hexv; first | (rw [if_pos (by omega)]; done) | (rw [if_neg (by omega), if_pos (by omega)]; exact hx_a x) | (rw [if_neg (by omega), if_pos (by omega)]; done) | (rw [if_neg (by omega), if_neg (by omega), if_pos (by omega)]; exact hx_b x) | (rw [if_neg (by omega), if_neg (by omega), if_pos (by omega)]; done) | (rw [if_neg (by omega), if_neg (by omega), if_neg (by omega)]; done)) (rfl) dX1_sixteen_53
      · refine g_iload_n C dX1_sixteen_39 0 rfl ?_
        refine g_bipush C dX1_sixteen_40 (v := 70) (by decide) ?_
        refine g_icmp_gt C dX1_sixteen_42 (tgt := 52) (by decide) (fun c4 => ?_) (fun c4 => ?_)
        · refine g_iconst C dX1_sixteen_52 (v := (-1)) (by decide) ?_
          have c1 := bDig_f (b01_0.mp c1)
          have c2 := k_lt (b := 97) (by decide) c2
          have c3 := k_nlt (b := 65) (by decide) c3
          have c4 := k_gt (b := 70) (by decide) c4
          exact g_iret C F (by unfold hexv; first | (rw [if_pos (by omega)]; done) | (rw [if_neg (by omega), if_pos (by omega)]; exact hx_a x) | (rw [if_neg (by omega), if_pos (by omega)]; done) | (rw [if_neg (by omega), if_neg (by omega), if_pos (by omega)]; exact hx_b x) | (rw [if_neg (by omega), if_neg (by omega), if_pos (by omega)]; done) | (rw [if_neg (by omega), if_neg (by omega), if_neg (by omega)]; done)) (rfl) dX1_sixteen_53
        · refine g_iload_n C dX1_sixteen_45 0 rfl ?_
          refine g_bipush C dX1_sixteen_46 (v := 55) (by decide) ?_
          refine g_isub C dX1_sixteen_48 ?_
          refine g_goto C dX1_sixteen_49 (tgt := 53) (by decide) ?_
          have c1 := bDig_f (b01_0.mp c1)
          have c2 := k_lt (b := 97) (by decide) c2
          have c3 := k_nlt (b := 65) (by decide) c3
          have c4 := k_ngt (b := 70) (by decide) c4
          exact g_iret C F (by unfold hexv; first | (rw [if_pos (by omega)]; done) | (rw [if_neg (by omega), if_pos (by omega)]; exact hx_a x) | (rw [if_neg (by omega), if_pos (by omega)]; done) | (rw [if_neg (by omega), if_neg (by omega), if_pos (by omega)]; exact hx_b x) | (rw [if_neg (by omega), if_neg (by omega), if_pos (by omega)]; done) | (rw [if_neg (by omega), if_neg (by omega), if_neg (by omega)]; done)) (rfl) dX1_sixteen_53
    · refine g_iload_n C dX1_sixteen_20 0 rfl ?_
      refine g_bipush C dX1_sixteen_21 (v := 102) (by decide) ?_
      refine g_icmp_gt C dX1_sixteen_23 (tgt := 33) (by decide) (fun c5 => ?_) (fun c5 => ?_)
      · refine g_iload_n C dX1_sixteen_33 0 rfl ?_
        refine g_bipush C dX1_sixteen_34 (v := 65) (by decide) ?_
        refine g_icmp_lt C dX1_sixteen_36 (tgt := 52) (by decide) (fun c6 => ?_) (fun c6 => ?_)
        · refine g_iconst C dX1_sixteen_52 (v := (-1)) (by decide) ?_
          have c1 := bDig_f (b01_0.mp c1)
          have c2 := k_nlt (b := 97) (by decide) c2
          have c5 := k_gt (b := 102) (by decide) c5
          have c6 := k_lt (b := 65) (by decide) c6
          exact g_iret C F (by unfold hexv; first | (rw [if_pos (by omega)]; done) | (rw [if_neg (by omega), if_pos (by omega)]; exact hx_a x) | (rw [if_neg (by omega), if_pos (by omega)]; done) | (rw [if_neg (by omega), if_neg (by omega), if_pos (by omega)]; exact hx_b x) | (rw [if_neg (by omega), if_neg (by omega), if_pos (by omega)]; done) | (rw [if_neg (by omega), if_neg (by omega), if_neg (by omega)]; done)) (rfl) dX1_sixteen_53
        · refine g_iload_n C dX1_sixteen_39 0 rfl ?_
          refine g_bipush C dX1_sixteen_40 (v := 70) (by decide) ?_
          refine g_icmp_gt C dX1_sixteen_42 (tgt := 52) (by decide) (fun c7 => ?_) (fun c7 => ?_)
          · refine g_iconst C dX1_sixteen_52 (v := (-1)) (by decide) ?_
            have c1 := bDig_f (b01_0.mp c1)
            have c2 := k_nlt (b := 97) (by decide) c2
            have c5 := k_gt (b := 102) (by decide) c5
            have c6 := k_nlt (b := 65) (by decide) c6
            have c7 := k_gt (b := 70) (by decide) c7
            exact g_iret C F (by unfold hexv; first | (rw [if_pos (by omega)]; done) | (rw [if_neg (by omega), if_pos (by omega)]; exact hx_a x) | (rw [if_neg (by omega), if_pos (by omega)]; done) | (rw [if_neg (by omega), if_neg (by omega), if_pos (by omega)]; exact hx_b x) | (rw [if_neg (by omega), if_neg (by omega), if_pos (by omega)]; done) | (rw [if_neg (by omega), if_neg (by omega), if_neg (by omega)]; done)) (rfl) dX1_sixteen_53
          · refine g_iload_n C dX1_sixteen_45 0 rfl ?_
            refine g_bipush C dX1_sixteen_46 (v := 55) (by decide) ?_
            refine g_isub C dX1_sixteen_48 ?_
            refine g_goto C dX1_sixteen_49 (tgt := 53) (by decide) ?_
            have c1 := bDig_f (b01_0.mp c1)
            have c2 := k_nlt (b := 97) (by decide) c2
            have c5 := k_gt (b := 102) (by decide) c5
            have c6 := k_nlt (b := 65) (by decide) c6
            have c7 := k_ngt (b := 70) (by decide) c7
            exact g_iret C F (by unfold hexv; first | (rw [if_pos (by omega)]; done) | (rw [if_neg (by omega), if_pos (by omega)]; exact hx_a x) | (rw [if_neg (by omega), if_pos (by omega)]; done) | (rw [if_neg (by omega), if_neg (by omega), if_pos (by omega)]; exact hx_b x) | (rw [if_neg (by omega), if_neg (by omega), if_pos (by omega)]; done) | (rw [if_neg (by omega), if_neg (by omega), if_neg (by omega)]; done)) (rfl) dX1_sixteen_53
      · refine g_iload_n C dX1_sixteen_26 0 rfl ?_
        refine g_bipush C dX1_sixteen_27 (v := 87) (by decide) ?_
        refine g_isub C dX1_sixteen_29 ?_
        refine g_goto C dX1_sixteen_30 (tgt := 53) (by decide) ?_
        have c1 := bDig_f (b01_0.mp c1)
        have c2 := k_nlt (b := 97) (by decide) c2
        have c5 := k_ngt (b := 102) (by decide) c5
        exact g_iret C F (by unfold hexv; first | (rw [if_pos (by omega)]; done) | (rw [if_neg (by omega), if_pos (by omega)]; exact hx_a x) | (rw [if_neg (by omega), if_pos (by omega)]; done) | (rw [if_neg (by omega), if_neg (by omega), if_pos (by omega)]; exact hx_b x) | (rw [if_neg (by omega), if_neg (by omega), if_pos (by omega)]; done) | (rw [if_neg (by omega), if_neg (by omega), if_neg (by omega)]; done)) (rfl) dX1_sixteen_53
  · refine g_iload_n C dX1_sixteen_7 0 rfl ?_
    refine g_bipush C dX1_sixteen_8 (v := 48) (by decide) ?_
    refine g_isub C dX1_sixteen_10 ?_
    refine g_goto C dX1_sixteen_11 (tgt := 53) (by decide) ?_
    have c1 := bDig_t (b01_1.mp c1)
    exact g_iret C F (by unfold hexv; first | (rw [if_pos (by omega)]; done) | (rw [if_neg (by omega), if_pos (by omega)]; exact hx_a x) | (rw [if_neg (by omega), if_pos (by omega)]; done) | (rw [if_neg (by omega), if_neg (by omega), if_pos (by omega)]; exact hx_b x) | (rw [if_neg (by omega), if_neg (by omega), if_pos (by omega)]; done) | (rw [if_neg (by omega), if_neg (by omega), if_neg (by omega)]; done)) (rfl) dX1_sixteen_53
end
section
/-- the number of a sign of one byte, -1 of others -/
def sg1 (x : Int32) : Int32 := if x = 33 then 39 else if x = 37 then 38 else if x = 38 then 25 else if x = 40 then 0 else if x = 41 then 1 else if x = 42 then 36 else if x = 43 then 34 else if x = 44 then 6 else if x = 45 then 35 else if x = 47 then 37 else if x = 58 then 9 else if x = 59 then 7 else if x = 60 then 28 else if x = 61 then 10 else if x = 62 then 29 else if x = 63 then 8 else if x = 91 then 4 else if x = 93 then 5 else if x = 94 then 24 else if x = 123 then 2 else if x = 124 then 23 else if x = 125 then 3 else if x = 126 then 40 else -1
/-- the number of a sign of a byte and the equal sign -/
def sgE (x : Int32) : Int32 := if x = 33 then 27 else if x = 37 then 15 else if x = 38 then 16 else if x = 42 then 13 else if x = 43 then 11 else if x = 45 then 12 else if x = 47 then 14 else if x = 60 then 30 else if x = 61 then 26 else if x = 62 then 31 else if x = 94 then 18 else if x = 124 then 17 else -1
/-- the number of a sign of the same byte twice, the equal sign apart -/
def sgT (x : Int32) : Int32 := if x = 38 then 22 else if x = 43 then 41 else if x = 45 then 42 else if x = 60 then 32 else if x = 62 then 33 else if x = 124 then 21 else -1
def sg2 (x y : Int32) : Int32 := if y = 61 then sgE x else if y = x then sgT x else -1
def sg3 (x y z : Int32) : Int32 := if x = y ∧ z = 61 then (if x = 60 then 19 else if x = 62 then 20 else -1) else -1
theorem tab_dflt {offs : Array Int} {d : Int} {n : Nat} (ks : List Nat) (h : (List.range n).all (fun j => decide (j ∈ ks) || decide (offs[j]? = some d)) = true) {j : Nat} (hj : j < n) (hk : j ∉ ks) : offs[j]? = some d := by
  have h1 := List.all_eq_true.mp h j (List.mem_range.mpr hj)
  rcases Bool.or_eq_true_iff.mp h1 with h2 | h2
  · exact absurd (of_decide_eq_true h2) hk
  · exact of_decide_eq_true h2
set_option maxHeartbeats 4000000 in
set_option maxRecDepth 100000 in
theorem c_X0_escapedCode (g : Gl) (x : Int32) : Ctr g yX0_escapedCode wsX0_escapedCode ({ frames := 0, cells := 0, slots := 0, locals := 0 }) [.int x] [] (some (.int (escv x))) [] 0 0 := by
  refine Ctr.start (cc := cX0_escapedCode) (maxL := 1) (ret := (some .int)) (by decide) rfl (Nat.le_of_ble_eq_true rfl) (lv0 := [(0, .int x)]) rfl ?_
  intro X C F
  have C : Ok g X cX0_escapedCode RX0 wsX0_escapedCode ({ frames := 0, cells := 0, slots := 0, locals := 0 }) (some .int) 1 := C
  refine g_iload_n C dX0_escapedCode_0 0 rfl ?_
  by_cases e34 : x = 34
  · subst e34
    refine g_lookup C dX0_escapedCode_1 (by decide) (off := 62) (by decide) (tgt := 63) (by decide) ?_
    refine g_bipush C dX0_escapedCode_63 (v := 34) (by decide) ?_
    exact g_iret C F (by decide) (rfl) dX0_escapedCode_65
  by_cases e39 : x = 39
  · subst e39
    refine g_lookup C dX0_escapedCode_1 (by decide) (off := 59) (by decide) (tgt := 60) (by decide) ?_
    refine g_bipush C dX0_escapedCode_60 (v := 39) (by decide) ?_
    exact g_iret C F (by decide) (rfl) dX0_escapedCode_62
  by_cases e48 : x = 48
  · subst e48
    refine g_lookup C dX0_escapedCode_1 (by decide) (off := 54) (by decide) (tgt := 55) (by decide) ?_
    refine g_iconst C dX0_escapedCode_55 (v := 0) (by decide) ?_
    exact g_iret C F (by decide) (rfl) dX0_escapedCode_56
  by_cases e92 : x = 92
  · subst e92
    refine g_lookup C dX0_escapedCode_1 (by decide) (off := 56) (by decide) (tgt := 57) (by decide) ?_
    refine g_bipush C dX0_escapedCode_57 (v := 92) (by decide) ?_
    exact g_iret C F (by decide) (rfl) dX0_escapedCode_59
  by_cases e110 : x = 110
  · subst e110
    refine g_lookup C dX0_escapedCode_1 (by decide) (off := 51) (by decide) (tgt := 52) (by decide) ?_
    refine g_bipush C dX0_escapedCode_52 (v := 10) (by decide) ?_
    exact g_iret C F (by decide) (rfl) dX0_escapedCode_54
  refine g_lookup C dX0_escapedCode_1 (by decide) (off := 65) ((lv_osw e34 (by decide)).trans ((lv_osw e39 (by decide)).trans ((lv_osw e48 (by decide)).trans ((lv_osw e92 (by decide)).trans ((lv_osw e110 (by decide)).trans (rfl)))))) (tgt := 66) (by decide) ?_
  refine g_iconst C dX0_escapedCode_66 (v := (-1)) (by decide) ?_
  exact g_iret C F (by unfold escv; rw [if_neg e110, if_neg e48, if_neg e92, if_neg e39, if_neg e34]) (rfl) dX0_escapedCode_67
set_option maxHeartbeats 4000000 in
set_option maxRecDepth 100000 in
theorem c_X0_signWithEqual (g : Gl) (x : Int32) : Ctr g yX0_signWithEqual wsX0_signWithEqual ({ frames := 0, cells := 0, slots := 0, locals := 0 }) [.int x] [] (some (.int (sgE x))) [] 0 0 := by
  refine Ctr.start (cc := cX0_signWithEqual) (maxL := 1) (ret := (some .int)) (by decide) rfl (Nat.le_of_ble_eq_true rfl) (lv0 := [(0, .int x)]) rfl ?_
  intro X C F
  have C : Ok g X cX0_signWithEqual RX0 wsX0_signWithEqual ({ frames := 0, cells := 0, slots := 0, locals := 0 }) (some .int) 1 := C
  refine g_iload_n C dX0_signWithEqual_0 0 rfl ?_
  by_cases e33 : x = 33
  · subst e33
    refine g_lookup C dX0_signWithEqual_1 (by decide) (off := 134) (by decide) (tgt := 135) (by decide) ?_
    refine g_bipush C dX0_signWithEqual_135 (v := 27) (by decide) ?_
    exact g_iret C F (by decide) (rfl) dX0_signWithEqual_137
  by_cases e37 : x = 37
  · subst e37
    refine g_lookup C dX0_signWithEqual_1 (by decide) (off := 119) (by decide) (tgt := 120) (by decide) ?_
    refine g_bipush C dX0_signWithEqual_120 (v := 15) (by decide) ?_
    exact g_iret C F (by decide) (rfl) dX0_signWithEqual_122
  by_cases e38 : x = 38
  · subst e38
    refine g_lookup C dX0_signWithEqual_1 (by decide) (off := 122) (by decide) (tgt := 123) (by decide) ?_
    refine g_bipush C dX0_signWithEqual_123 (v := 16) (by decide) ?_
    exact g_iret C F (by decide) (rfl) dX0_signWithEqual_125
  by_cases e42 : x = 42
  · subst e42
    refine g_lookup C dX0_signWithEqual_1 (by decide) (off := 113) (by decide) (tgt := 114) (by decide) ?_
    refine g_bipush C dX0_signWithEqual_114 (v := 13) (by decide) ?_
    exact g_iret C F (by decide) (rfl) dX0_signWithEqual_116
  by_cases e43 : x = 43
  · subst e43
    refine g_lookup C dX0_signWithEqual_1 (by decide) (off := 107) (by decide) (tgt := 108) (by decide) ?_
    refine g_bipush C dX0_signWithEqual_108 (v := 11) (by decide) ?_
    exact g_iret C F (by decide) (rfl) dX0_signWithEqual_110
  by_cases e45 : x = 45
  · subst e45
    refine g_lookup C dX0_signWithEqual_1 (by decide) (off := 110) (by decide) (tgt := 111) (by decide) ?_
    refine g_bipush C dX0_signWithEqual_111 (v := 12) (by decide) ?_
    exact g_iret C F (by decide) (rfl) dX0_signWithEqual_113
  by_cases e47 : x = 47
  · subst e47
    refine g_lookup C dX0_signWithEqual_1 (by decide) (off := 116) (by decide) (tgt := 117) (by decide) ?_
    refine g_bipush C dX0_signWithEqual_117 (v := 14) (by decide) ?_
    exact g_iret C F (by decide) (rfl) dX0_signWithEqual_119
  by_cases e60 : x = 60
  · subst e60
    refine g_lookup C dX0_signWithEqual_1 (by decide) (off := 137) (by decide) (tgt := 138) (by decide) ?_
    refine g_bipush C dX0_signWithEqual_138 (v := 30) (by decide) ?_
    exact g_iret C F (by decide) (rfl) dX0_signWithEqual_140
  by_cases e61 : x = 61
  · subst e61
    refine g_lookup C dX0_signWithEqual_1 (by decide) (off := 131) (by decide) (tgt := 132) (by decide) ?_
    refine g_bipush C dX0_signWithEqual_132 (v := 26) (by decide) ?_
    exact g_iret C F (by decide) (rfl) dX0_signWithEqual_134
  by_cases e62 : x = 62
  · subst e62
    refine g_lookup C dX0_signWithEqual_1 (by decide) (off := 140) (by decide) (tgt := 141) (by decide) ?_
    refine g_bipush C dX0_signWithEqual_141 (v := 31) (by decide) ?_
    exact g_iret C F (by decide) (rfl) dX0_signWithEqual_143
  by_cases e94 : x = 94
  · subst e94
    refine g_lookup C dX0_signWithEqual_1 (by decide) (off := 128) (by decide) (tgt := 129) (by decide) ?_
    refine g_bipush C dX0_signWithEqual_129 (v := 18) (by decide) ?_
    exact g_iret C F (by decide) (rfl) dX0_signWithEqual_131
  by_cases e124 : x = 124
  · subst e124
    refine g_lookup C dX0_signWithEqual_1 (by decide) (off := 125) (by decide) (tgt := 126) (by decide) ?_
    refine g_bipush C dX0_signWithEqual_126 (v := 17) (by decide) ?_
    exact g_iret C F (by decide) (rfl) dX0_signWithEqual_128
  refine g_lookup C dX0_signWithEqual_1 (by decide) (off := 143) ((lv_osw e33 (by decide)).trans ((lv_osw e37 (by decide)).trans ((lv_osw e38 (by decide)).trans ((lv_osw e42 (by decide)).trans ((lv_osw e43 (by decide)).trans ((lv_osw e45 (by decide)).trans ((lv_osw e47 (by decide)).trans ((lv_osw e60 (by decide)).trans ((lv_osw e61 (by decide)).trans ((lv_osw e62 (by decide)).trans ((lv_osw e94 (by decide)).trans ((lv_osw e124 (by decide)).trans (rfl))))))))))))) (tgt := 144) (by decide) ?_
  refine g_iconst C dX0_signWithEqual_144 (v := (-1)) (by decide) ?_
  exact g_iret C F (by unfold sgE; rw [if_neg e33, if_neg e37, if_neg e38, if_neg e42, if_neg e43, if_neg e45, if_neg e47, if_neg e60, if_neg e61, if_neg e62, if_neg e94, if_neg e124]) (rfl) dX0_signWithEqual_145
set_option maxHeartbeats 4000000 in
set_option maxRecDepth 100000 in
theorem c_X0_signOfTwins (g : Gl) (x : Int32) : Ctr g yX0_signOfTwins wsX0_signOfTwins ({ frames := 0, cells := 0, slots := 0, locals := 0 }) [.int x] [] (some (.int (sgT x))) [] 0 0 := by
  refine Ctr.start (cc := cX0_signOfTwins) (maxL := 1) (ret := (some .int)) (by decide) rfl (Nat.le_of_ble_eq_true rfl) (lv0 := [(0, .int x)]) rfl ?_
  intro X C F
  have C : Ok g X cX0_signOfTwins RX0 wsX0_signOfTwins ({ frames := 0, cells := 0, slots := 0, locals := 0 }) (some .int) 1 := C
  refine g_iload_n C dX0_signOfTwins_0 0 rfl ?_
  by_cases e38 : x = 38
  · subst e38
    refine g_lookup C dX0_signOfTwins_1 (by decide) (off := 62) (by decide) (tgt := 63) (by decide) ?_
    refine g_bipush C dX0_signOfTwins_63 (v := 22) (by decide) ?_
    exact g_iret C F (by decide) (rfl) dX0_signOfTwins_65
  by_cases e43 : x = 43
  · subst e43
    refine g_lookup C dX0_signOfTwins_1 (by decide) (off := 71) (by decide) (tgt := 72) (by decide) ?_
    refine g_bipush C dX0_signOfTwins_72 (v := 41) (by decide) ?_
    exact g_iret C F (by decide) (rfl) dX0_signOfTwins_74
  by_cases e45 : x = 45
  · subst e45
    refine g_lookup C dX0_signOfTwins_1 (by decide) (off := 74) (by decide) (tgt := 75) (by decide) ?_
    refine g_bipush C dX0_signOfTwins_75 (v := 42) (by decide) ?_
    exact g_iret C F (by decide) (rfl) dX0_signOfTwins_77
  by_cases e60 : x = 60
  · subst e60
    refine g_lookup C dX0_signOfTwins_1 (by decide) (off := 65) (by decide) (tgt := 66) (by decide) ?_
    refine g_bipush C dX0_signOfTwins_66 (v := 32) (by decide) ?_
    exact g_iret C F (by decide) (rfl) dX0_signOfTwins_68
  by_cases e62 : x = 62
  · subst e62
    refine g_lookup C dX0_signOfTwins_1 (by decide) (off := 68) (by decide) (tgt := 69) (by decide) ?_
    refine g_bipush C dX0_signOfTwins_69 (v := 33) (by decide) ?_
    exact g_iret C F (by decide) (rfl) dX0_signOfTwins_71
  by_cases e124 : x = 124
  · subst e124
    refine g_lookup C dX0_signOfTwins_1 (by decide) (off := 59) (by decide) (tgt := 60) (by decide) ?_
    refine g_bipush C dX0_signOfTwins_60 (v := 21) (by decide) ?_
    exact g_iret C F (by decide) (rfl) dX0_signOfTwins_62
  refine g_lookup C dX0_signOfTwins_1 (by decide) (off := 77) ((lv_osw e38 (by decide)).trans ((lv_osw e43 (by decide)).trans ((lv_osw e45 (by decide)).trans ((lv_osw e60 (by decide)).trans ((lv_osw e62 (by decide)).trans ((lv_osw e124 (by decide)).trans (rfl))))))) (tgt := 78) (by decide) ?_
  refine g_iconst C dX0_signOfTwins_78 (v := (-1)) (by decide) ?_
  exact g_iret C F (by unfold sgT; rw [if_neg e38, if_neg e43, if_neg e45, if_neg e60, if_neg e62, if_neg e124]) (rfl) dX0_signOfTwins_79
set_option maxHeartbeats 4000000 in
set_option maxRecDepth 100000 in
theorem c_X0_signOfOne (g : Gl) (x : Int32) : Ctr g yX0_signOfOne wsX0_signOfOne ({ frames := 0, cells := 0, slots := 0, locals := 0 }) [.int x] [] (some (.int (sg1 x))) [] 0 0 := by
  refine Ctr.start (cc := cX0_signOfOne) (maxL := 1) (ret := (some .int)) (by decide) rfl (Nat.le_of_ble_eq_true rfl) (lv0 := [(0, .int x)]) rfl ?_
  intro X C F
  have C : Ok g X cX0_signOfOne RX0 wsX0_signOfOne ({ frames := 0, cells := 0, slots := 0, locals := 0 }) (some .int) 1 := C
  refine g_iload_n C dX0_signOfOne_0 0 rfl ?_
  by_cases e33 : x = 33
  · subst e33
    refine g_tableIn C dX0_signOfOne_1 (by decide) (by decide) (off := 448) (by decide) (tgt := 449) (by decide) ?_
    refine g_bipush C dX0_signOfOne_449 (v := 39) (by decide) ?_
    exact g_iret C F (by decide) (rfl) dX0_signOfOne_451
  by_cases e37 : x = 37
  · subst e37
    refine g_tableIn C dX0_signOfOne_1 (by decide) (by decide) (off := 445) (by decide) (tgt := 446) (by decide) ?_
    refine g_bipush C dX0_signOfOne_446 (v := 38) (by decide) ?_
    exact g_iret C F (by decide) (rfl) dX0_signOfOne_448
  by_cases e38 : x = 38
  · subst e38
    refine g_tableIn C dX0_signOfOne_1 (by decide) (by decide) (off := 424) (by decide) (tgt := 425) (by decide) ?_
    refine g_bipush C dX0_signOfOne_425 (v := 25) (by decide) ?_
    exact g_iret C F (by decide) (rfl) dX0_signOfOne_427
  by_cases e40 : x = 40
  · subst e40
    refine g_tableIn C dX0_signOfOne_1 (by decide) (by decide) (off := 391) (by decide) (tgt := 392) (by decide) ?_
    refine g_iconst C dX0_signOfOne_392 (v := 0) (by decide) ?_
    exact g_iret C F (by decide) (rfl) dX0_signOfOne_393
  by_cases e41 : x = 41
  · subst e41
    refine g_tableIn C dX0_signOfOne_1 (by decide) (by decide) (off := 393) (by decide) (tgt := 394) (by decide) ?_
    refine g_iconst C dX0_signOfOne_394 (v := 1) (by decide) ?_
    exact g_iret C F (by decide) (rfl) dX0_signOfOne_395
  by_cases e42 : x = 42
  · subst e42
    refine g_tableIn C dX0_signOfOne_1 (by decide) (by decide) (off := 439) (by decide) (tgt := 440) (by decide) ?_
    refine g_bipush C dX0_signOfOne_440 (v := 36) (by decide) ?_
    exact g_iret C F (by decide) (rfl) dX0_signOfOne_442
  by_cases e43 : x = 43
  · subst e43
    refine g_tableIn C dX0_signOfOne_1 (by decide) (by decide) (off := 433) (by decide) (tgt := 434) (by decide) ?_
    refine g_bipush C dX0_signOfOne_434 (v := 34) (by decide) ?_
    exact g_iret C F (by decide) (rfl) dX0_signOfOne_436
  by_cases e44 : x = 44
  · subst e44
    refine g_tableIn C dX0_signOfOne_1 (by decide) (by decide) (off := 403) (by decide) (tgt := 404) (by decide) ?_
    refine g_bipush C dX0_signOfOne_404 (v := 6) (by decide) ?_
    exact g_iret C F (by decide) (rfl) dX0_signOfOne_406
  by_cases e45 : x = 45
  · subst e45
    refine g_tableIn C dX0_signOfOne_1 (by decide) (by decide) (off := 436) (by decide) (tgt := 437) (by decide) ?_
    refine g_bipush C dX0_signOfOne_437 (v := 35) (by decide) ?_
    exact g_iret C F (by decide) (rfl) dX0_signOfOne_439
  by_cases e47 : x = 47
  · subst e47
    refine g_tableIn C dX0_signOfOne_1 (by decide) (by decide) (off := 442) (by decide) (tgt := 443) (by decide) ?_
    refine g_bipush C dX0_signOfOne_443 (v := 37) (by decide) ?_
    exact g_iret C F (by decide) (rfl) dX0_signOfOne_445
  by_cases e58 : x = 58
  · subst e58
    refine g_tableIn C dX0_signOfOne_1 (by decide) (by decide) (off := 412) (by decide) (tgt := 413) (by decide) ?_
    refine g_bipush C dX0_signOfOne_413 (v := 9) (by decide) ?_
    exact g_iret C F (by decide) (rfl) dX0_signOfOne_415
  by_cases e59 : x = 59
  · subst e59
    refine g_tableIn C dX0_signOfOne_1 (by decide) (by decide) (off := 406) (by decide) (tgt := 407) (by decide) ?_
    refine g_bipush C dX0_signOfOne_407 (v := 7) (by decide) ?_
    exact g_iret C F (by decide) (rfl) dX0_signOfOne_409
  by_cases e60 : x = 60
  · subst e60
    refine g_tableIn C dX0_signOfOne_1 (by decide) (by decide) (off := 427) (by decide) (tgt := 428) (by decide) ?_
    refine g_bipush C dX0_signOfOne_428 (v := 28) (by decide) ?_
    exact g_iret C F (by decide) (rfl) dX0_signOfOne_430
  by_cases e61 : x = 61
  · subst e61
    refine g_tableIn C dX0_signOfOne_1 (by decide) (by decide) (off := 415) (by decide) (tgt := 416) (by decide) ?_
    refine g_bipush C dX0_signOfOne_416 (v := 10) (by decide) ?_
    exact g_iret C F (by decide) (rfl) dX0_signOfOne_418
  by_cases e62 : x = 62
  · subst e62
    refine g_tableIn C dX0_signOfOne_1 (by decide) (by decide) (off := 430) (by decide) (tgt := 431) (by decide) ?_
    refine g_bipush C dX0_signOfOne_431 (v := 29) (by decide) ?_
    exact g_iret C F (by decide) (rfl) dX0_signOfOne_433
  by_cases e63 : x = 63
  · subst e63
    refine g_tableIn C dX0_signOfOne_1 (by decide) (by decide) (off := 409) (by decide) (tgt := 410) (by decide) ?_
    refine g_bipush C dX0_signOfOne_410 (v := 8) (by decide) ?_
    exact g_iret C F (by decide) (rfl) dX0_signOfOne_412
  by_cases e91 : x = 91
  · subst e91
    refine g_tableIn C dX0_signOfOne_1 (by decide) (by decide) (off := 399) (by decide) (tgt := 400) (by decide) ?_
    refine g_iconst C dX0_signOfOne_400 (v := 4) (by decide) ?_
    exact g_iret C F (by decide) (rfl) dX0_signOfOne_401
  by_cases e93 : x = 93
  · subst e93
    refine g_tableIn C dX0_signOfOne_1 (by decide) (by decide) (off := 401) (by decide) (tgt := 402) (by decide) ?_
    refine g_iconst C dX0_signOfOne_402 (v := 5) (by decide) ?_
    exact g_iret C F (by decide) (rfl) dX0_signOfOne_403
  by_cases e94 : x = 94
  · subst e94
    refine g_tableIn C dX0_signOfOne_1 (by decide) (by decide) (off := 421) (by decide) (tgt := 422) (by decide) ?_
    refine g_bipush C dX0_signOfOne_422 (v := 24) (by decide) ?_
    exact g_iret C F (by decide) (rfl) dX0_signOfOne_424
  by_cases e123 : x = 123
  · subst e123
    refine g_tableIn C dX0_signOfOne_1 (by decide) (by decide) (off := 395) (by decide) (tgt := 396) (by decide) ?_
    refine g_iconst C dX0_signOfOne_396 (v := 2) (by decide) ?_
    exact g_iret C F (by decide) (rfl) dX0_signOfOne_397
  by_cases e124 : x = 124
  · subst e124
    refine g_tableIn C dX0_signOfOne_1 (by decide) (by decide) (off := 418) (by decide) (tgt := 419) (by decide) ?_
    refine g_bipush C dX0_signOfOne_419 (v := 23) (by decide) ?_
    exact g_iret C F (by decide) (rfl) dX0_signOfOne_421
  by_cases e125 : x = 125
  · subst e125
    refine g_tableIn C dX0_signOfOne_1 (by decide) (by decide) (off := 397) (by decide) (tgt := 398) (by decide) ?_
    refine g_iconst C dX0_signOfOne_398 (v := 3) (by decide) ?_
    exact g_iret C F (by decide) (rfl) dX0_signOfOne_399
  by_cases e126 : x = 126
  · subst e126
    refine g_tableIn C dX0_signOfOne_1 (by decide) (by decide) (off := 451) (by decide) (tgt := 452) (by decide) ?_
    refine g_bipush C dX0_signOfOne_452 (v := 40) (by decide) ?_
    exact g_iret C F (by decide) (rfl) dX0_signOfOne_454
  have n33 := k_ne (b := 33) (by decide) e33
  have n37 := k_ne (b := 37) (by decide) e37
  have n38 := k_ne (b := 38) (by decide) e38
  have n40 := k_ne (b := 40) (by decide) e40
  have n41 := k_ne (b := 41) (by decide) e41
  have n42 := k_ne (b := 42) (by decide) e42
  have n43 := k_ne (b := 43) (by decide) e43
  have n44 := k_ne (b := 44) (by decide) e44
  have n45 := k_ne (b := 45) (by decide) e45
  have n47 := k_ne (b := 47) (by decide) e47
  have n58 := k_ne (b := 58) (by decide) e58
  have n59 := k_ne (b := 59) (by decide) e59
  have n60 := k_ne (b := 60) (by decide) e60
  have n61 := k_ne (b := 61) (by decide) e61
  have n62 := k_ne (b := 62) (by decide) e62
  have n63 := k_ne (b := 63) (by decide) e63
  have n91 := k_ne (b := 91) (by decide) e91
  have n93 := k_ne (b := 93) (by decide) e93
  have n94 := k_ne (b := 94) (by decide) e94
  have n123 := k_ne (b := 123) (by decide) e123
  have n124 := k_ne (b := 124) (by decide) e124
  have n125 := k_ne (b := 125) (by decide) e125
  have n126 := k_ne (b := 126) (by decide) e126
  by_cases hlo : x.toInt < 33 ∨ 126 < x.toInt
  · refine g_tableOut C dX0_signOfOne_1 hlo (tgt := 455) (by decide) ?_
    refine g_iconst C dX0_signOfOne_455 (v := (-1)) (by decide) ?_
    exact g_iret C F (by unfold sg1; rw [if_neg e33, if_neg e37, if_neg e38, if_neg e40, if_neg e41, if_neg e42, if_neg e43, if_neg e44, if_neg e45, if_neg e47, if_neg e58, if_neg e59, if_neg e60, if_neg e61, if_neg e62, if_neg e63, if_neg e91, if_neg e93, if_neg e94, if_neg e123, if_neg e124, if_neg e125, if_neg e126]) (rfl) dX0_signOfOne_456
  · refine g_tableIn C dX0_signOfOne_1 (by omega) (by omega) (off := 454) (tab_dflt [0, 4, 5, 7, 8, 9, 10, 11, 12, 14, 25, 26, 27, 28, 29, 30, 58, 60, 61, 90, 91, 92, 93] (n := 94) (by decide +kernel) (by omega) (by simp only [List.mem_cons, List.not_mem_nil, or_false, not_or]; omega)) (tgt := 455) (by decide) ?_
    refine g_iconst C dX0_signOfOne_455 (v := (-1)) (by decide) ?_
    exact g_iret C F (by unfold sg1; rw [if_neg e33, if_neg e37, if_neg e38, if_neg e40, if_neg e41, if_neg e42, if_neg e43, if_neg e44, if_neg e45, if_neg e47, if_neg e58, if_neg e59, if_neg e60, if_neg e61, if_neg e62, if_neg e63, if_neg e91, if_neg e93, if_neg e94, if_neg e123, if_neg e124, if_neg e125, if_neg e126]) (rfl) dX0_signOfOne_456
set_option maxHeartbeats 4000000 in
set_option maxRecDepth 100000 in
theorem c_X0_signOfThree (g : Gl) (x y z : Int32) : Ctr g yX0_signOfThree wsX0_signOfThree ({ frames := 0, cells := 0, slots := 0, locals := 0 }) [.int x, .int y, .int z] [] (some (.int (sg3 x y z))) [] 0 0 := by
  refine Ctr.start (cc := cX0_signOfThree) (maxL := 3) (ret := (some .int)) (by decide) rfl (Nat.le_of_ble_eq_true rfl) (lv0 := [(0, .int x), (1, .int y), (2, .int z)]) rfl ?_
  intro X C F
  have C : Ok g X cX0_signOfThree RX0 wsX0_signOfThree ({ frames := 0, cells := 0, slots := 0, locals := 0 }) (some .int) 3 := C
  refine g_iload_n C dX0_signOfThree_0 0 rfl ?_
  refine g_iload_n C dX0_signOfThree_1 1 rfl ?_
  refine g_icmp_ne C dX0_signOfThree_2 (tgt := 11) (by decide) (fun c1 => ?_) (fun c1 => ?_)
  · refine g_iconst C dX0_signOfThree_11 (v := (-1)) (by decide) ?_
    exact g_iret C F (by unfold sg3; rw [if_neg (fun h => c1 h.1)]) (rfl) dX0_signOfThree_12
  · refine g_iload_n C dX0_signOfThree_5 2 rfl ?_
    refine g_bipush C dX0_signOfThree_6 (v := 61) (by decide) ?_
    refine g_icmp_eq C dX0_signOfThree_8 (tgt := 13) (by decide) (fun c2 => ?_) (fun c2 => ?_)
    · refine g_iload_n C dX0_signOfThree_13 0 rfl ?_
      refine g_bipush C dX0_signOfThree_14 (v := 60) (by decide) ?_
      refine g_icmp_ne C dX0_signOfThree_16 (tgt := 24) (by decide) (fun c3 => ?_) (fun c3 => ?_)
      · refine g_iload_n C dX0_signOfThree_24 0 rfl ?_
        refine g_bipush C dX0_signOfThree_25 (v := 62) (by decide) ?_
        refine g_icmp_ne C dX0_signOfThree_27 (tgt := 35) (by decide) (fun c4 => ?_) (fun c4 => ?_)
        · refine g_iconst C dX0_signOfThree_35 (v := (-1)) (by decide) ?_
          exact g_iret C F (by unfold sg3; rw [if_pos ⟨c1, c2⟩, if_neg c3, if_neg c4]) (rfl) dX0_signOfThree_36
        · refine g_bipush C dX0_signOfThree_30 (v := 20) (by decide) ?_
          refine g_goto C dX0_signOfThree_32 (tgt := 36) (by decide) ?_
          exact g_iret C F (by unfold sg3; rw [if_pos ⟨c1, c2⟩, if_neg c3, if_pos c4]) (rfl) dX0_signOfThree_36
      · refine g_bipush C dX0_signOfThree_19 (v := 19) (by decide) ?_
        refine g_goto C dX0_signOfThree_21 (tgt := 36) (by decide) ?_
        exact g_iret C F (by unfold sg3; rw [if_pos ⟨c1, c2⟩, if_pos c3]) (rfl) dX0_signOfThree_36
    · refine g_iconst C dX0_signOfThree_11 (v := (-1)) (by decide) ?_
      exact g_iret C F (by unfold sg3; rw [if_neg (fun h => c2 h.2)]) (rfl) dX0_signOfThree_12
set_option maxHeartbeats 4000000 in
set_option maxRecDepth 100000 in
theorem c_X0_signOfTwo (g : Gl) (x y : Int32) : Ctr g yX0_signOfTwo wsX0_signOfTwo ({ frames := 1, cells := 0, slots := 0, locals := 20 }) [.int x, .int y] [] (some (.int (sg2 x y))) [] 0 0 := by
  refine Ctr.start (cc := cX0_signOfTwo) (maxL := 2) (ret := (some .int)) (by decide) rfl (Nat.le_of_ble_eq_true rfl) (lv0 := [(0, .int x), (1, .int y)]) rfl ?_
  intro X C F
  have C : Ok g X cX0_signOfTwo RX0 wsX0_signOfTwo ({ frames := 1, cells := 0, slots := 0, locals := 20 }) (some .int) 2 := C
  refine g_iload_n C dX0_signOfTwo_0 1 rfl ?_
  refine g_bipush C dX0_signOfTwo_1 (v := 61) (by decide) ?_
  refine g_icmp_ne C dX0_signOfTwo_3 (tgt := 11) (by decide) (fun c1 => ?_) (fun c1 => ?_)
  · refine g_iload_n C dX0_signOfTwo_11 1 rfl ?_
    refine g_iload_n C dX0_signOfTwo_12 0 rfl ?_
    refine g_icmp_ne C dX0_signOfTwo_13 (tgt := 23) (by decide) (fun c2 => ?_) (fun c2 => ?_)
    · refine g_iconst C dX0_signOfTwo_23 (v := (-1)) (by decide) ?_
      exact g_iret C F (by unfold sg2; rw [if_neg c1, if_neg c2]) (rfl) dX0_signOfTwo_24
    · refine g_iload_n C dX0_signOfTwo_16 0 rfl ?_
      refine g_callSi (n := 1) C (c_X0_signOfTwins g x) gX0_signOfTwo_X0_signOfTwins rfl rfl (by decide) (by decide) rfl (Nat.le_of_ble_eq_true rfl) dX0_signOfTwo_17 ?_
      refine g_goto C dX0_signOfTwo_20 (tgt := 24) (by decide) ?_
      exact g_iret C F (by unfold sg2; rw [if_neg c1, if_pos c2]) (rfl) dX0_signOfTwo_24
  · refine g_iload_n C dX0_signOfTwo_6 0 rfl ?_
    refine g_callSi (n := 1) C (c_X0_signWithEqual g x) gX0_signOfTwo_X0_signWithEqual rfl rfl (by decide) (by decide) rfl (Nat.le_of_ble_eq_true rfl) dX0_signOfTwo_7 ?_
    exact g_iret C F (by unfold sg2; rw [if_pos c1]) (rfl) dX0_signOfTwo_10
end
section
/-- is there a token i -/
def bTok (c : Nat) (x : Int32) : Bool := decide (0 ≤ x.toInt ∧ x.toInt < (c : Int))
theorem bTok_t {c : Nat} {x : Int32} (h : bTok c x = true) : 0 ≤ x.toInt ∧ x.toInt < (c : Int) := of_decide_eq_true h
theorem bTok_f {c : Nat} {x : Int32} (h : bTok c x = false) : ¬ (0 ≤ x.toInt ∧ x.toInt < (c : Int)) := of_decide_eq_false h
theorem bTok_in {c : Nat} {x : Int32} (h : bTok c x = true) (hc : c ≤ 16000) : vp_in x 16000 := vp_in_iff.mpr (by have := bTok_t h; omega)
/-- a token more -/
def tpush (T : TK) (c : Nat) (k t at0 sz ln : Int32) : TK := (upd T.1 c k, upd T.2.1 c at0, upd T.2.2.1 c sz, upd T.2.2.2.1 c ln, upd T.2.2.2.2.1 c t, nI (c + 1))
/-- how many bytes the code at a place has within quotes q, 0 if there is none -/
def cwd (L : Nat → Int32) (i : Nat) (q : Int32) : Nat := if L i = 92 then (if 0 ≤ (escv (L (i + 1))).toInt then 2 else 0) else if 32 ≤ (L i).toInt ∧ (L i).toInt ≤ 126 ∧ ¬ L i = q then 1 else 0
/-- the code at a place -/
def cat (L : Nat → Int32) (i : Nat) : Int32 := if L i = 92 then escv (L (i + 1)) else L i
set_option maxHeartbeats 4000000 in
set_option maxRecDepth 100000 in
theorem c_X0_byteAt (g : Gl) (a : Nat → Nat) (aT aX : Nat) (tr : Nat → Int32) (n fed : Int32) (tx : Nat → Int32) (ln fa : Int32) (T : TK) (N i : Nat) (hN : N ≤ 16000) (hi : i < 2 ^ 30) : Ctr g yX0_byteAt wsX0_byteAt ({ frames := 0, cells := 0, slots := 0, locals := 0 }) [.ref (a 0), .int (nI i)] (tw g a aT aX tr n fed tx (nI N) ln fa T) (some (.int (look tx N i))) (tw g a aT aX tr n fed tx (nI N) ln fa T) 0 0 := by
  refine Ctr.start (cc := cX0_byteAt) (maxL := 2) (ret := (some .int)) (by decide) rfl (Nat.le_of_ble_eq_true rfl) (lv0 := [(0, .ref (a 0)), (1, .int (nI i))]) rfl ?_
  intro X C F
  have C : Ok g X cX0_byteAt RX0 wsX0_byteAt ({ frames := 0, cells := 0, slots := 0, locals := 0 }) (some .int) 2 := C
  have hin : ∀ w ∈ wsX00, w ∈ wsX0_byteAt := fun _ h => List.mem_cons_of_mem _ (List.mem_append_right _ h)
  have lk13 : Cond.fieldLink RX0 13 "TokenRows" "text" "[B" ∈ wsX0_byteAt := by decide +kernel
  have lk39 : Cond.fieldLink RX0 39 "TokenRows" "textSize" "I" ∈ wsX0_byteAt := by decide +kernel
  refine g_iload_n C dX0_byteAt_0 1 rfl ?_
  refine g_if_lt C dX0_byteAt_1 (tgt := 21) (by decide) (fun c1 => ?_) (fun c1 => ?_)
  · exact absurd c1 (nI_pos (by omega))
  · refine g_iload_n C dX0_byteAt_4 1 rfl ?_
    refine g_aload_n C dX0_byteAt_5 0 rfl ?_
    refine g_get0 C hin 0 rfl 4 (by decide) lk39 rfl dX0_byteAt_6 ?_
    refine g_icmp_ge C dX0_byteAt_9 (tgt := 21) (by decide) (fun c2 => ?_) (fun c2 => ?_)
    · have hio : N ≤ i := (nI_leI (by omega) (by omega)).mp c2
      refine g_iconst C dX0_byteAt_21 (v := (-1)) (by decide) ?_
      exact g_iret C F ((look_out hio).symm) (rfl) dX0_byteAt_22
    · have hii : i < N := Nat.not_le.mp (fun z => c2 (nI_le z (by omega)))
      refine g_iload_n C dX0_byteAt_12 1 rfl ?_
      refine g_aload_n C dX0_byteAt_13 0 rfl ?_
      refine g_get0 C hin 0 rfl 3 (by decide) lk13 rfl dX0_byteAt_14 ?_
      refine g_alenB C 2 rfl (v := 16000) (by decide) dX0_byteAt_17 ?_
      refine g_icmp_lt C dX0_byteAt_18 (tgt := 23) (by decide) (fun c3 => ?_) (fun c3 => ?_)
      · refine g_aload_n C dX0_byteAt_23 0 rfl ?_
        refine g_get0 C hin 0 rfl 3 (by decide) lk13 rfl dX0_byteAt_24 ?_
        refine g_iload_n C dX0_byteAt_27 1 rfl ?_
        refine g_bald C 2 rfl (vp_in_nI (by omega) (by omega)) dX0_byteAt_28 ?_
        refine g_top (y := tx i) (by rw [nI_clamp (by omega)]) ?_
        refine g_sipush C dX0_byteAt_29 (v := 255) (by decide) ?_
        refine g_iand C dX0_byteAt_32 ?_
        exact g_iret C F ((look_in hii).symm) (rfl) dX0_byteAt_33
      · exact absurd (nI_lt (a := i) (b := 16000) (by omega) (by omega)) c3
set_option maxHeartbeats 4000000 in
set_option maxRecDepth 100000 in
theorem c_X0_isToken (g : Gl) (a : Nat → Nat) (aT aX : Nat) (tr : Nat → Int32) (n fed : Int32) (tx : Nat → Int32) (m ln fa : Int32) (T : TK) (c : Nat) (hT : T.2.2.2.2.2 = nI c) (hc : c ≤ 16000) (x : Int32) : Ctr g yX0_isToken wsX0_isToken ({ frames := 0, cells := 0, slots := 0, locals := 0 }) [.ref (a 0), .int x] (tw g a aT aX tr n fed tx m ln fa T) (some (.int (b01 (bTok c x)))) (tw g a aT aX tr n fed tx m ln fa T) 0 0 := by
  refine Ctr.start (cc := cX0_isToken) (maxL := 2) (ret := (some .boolean)) (by decide) rfl (Nat.le_of_ble_eq_true rfl) (lv0 := [(0, .ref (a 0)), (1, .int x)]) rfl ?_
  intro X C F
  have C : Ok g X cX0_isToken RX0 wsX0_isToken ({ frames := 0, cells := 0, slots := 0, locals := 0 }) (some .boolean) 2 := C
  have hin : ∀ w ∈ wsX00, w ∈ wsX0_isToken := fun _ h => List.mem_cons_of_mem _ (List.mem_append_right _ h)
  have lk16 : Cond.fieldLink RX0 16 "TokenRows" "kinds" "[I" ∈ wsX0_isToken := by decide +kernel
  have lk48 : Cond.fieldLink RX0 48 "TokenRows" "count" "I" ∈ wsX0_isToken := by decide +kernel
  refine g_iload_n C dX0_isToken_0 1 rfl ?_
  refine g_if_lt C dX0_isToken_1 (tgt := 25) (by decide) (fun c1 => ?_) (fun c1 => ?_)
  · refine g_iconst C dX0_isToken_25 (v := 0) (by decide) ?_
    have c1 := k_lt (b := 0) (by decide) c1
    exact g_zret C F (by decide) ((b01_f (by omega)).symm) (rfl) dX0_isToken_26
  · refine g_iload_n C dX0_isToken_4 1 rfl ?_
    refine g_aload_n C dX0_isToken_5 0 rfl ?_
    refine g_get0 C hin 0 rfl 12 (by decide) lk48 rfl dX0_isToken_6 ?_
    refine g_top hT ?_
    refine g_icmp_ge C dX0_isToken_9 (tgt := 25) (by decide) (fun c2 => ?_) (fun c2 => ?_)
    · refine g_iconst C dX0_isToken_25 (v := 0) (by decide) ?_
      have c1 := k_nlt (b := 0) (by decide) c1
      have c2 := k_ge rfl c2
      have hcc := nI_toInt (n := c) (by omega)
      exact g_zret C F (by decide) ((b01_f (by omega)).symm) (rfl) dX0_isToken_26
    · refine g_iload_n C dX0_isToken_12 1 rfl ?_
      refine g_aload_n C dX0_isToken_13 0 rfl ?_
      refine g_get0 C hin 0 rfl 7 (by decide) lk16 rfl dX0_isToken_14 ?_
      refine g_alenI C 3 rfl (v := 16000) (by decide) dX0_isToken_17 ?_
      refine g_icmp_ge C dX0_isToken_18 (tgt := 25) (by decide) (fun c3 => ?_) (fun c3 => ?_)
      · refine g_iconst C dX0_isToken_25 (v := 0) (by decide) ?_
        have c1 := k_nlt (b := 0) (by decide) c1
        have c2 := k_nge rfl c2
        have c3 := k_ge (b := 16000) (by decide) c3
        have hcc := nI_toInt (n := c) (by omega)
        exact g_zret C F (by decide) ((b01_f (by omega)).symm) (rfl) dX0_isToken_26
      · refine g_iconst C dX0_isToken_21 (v := 1) (by decide) ?_
        refine g_goto C dX0_isToken_22 (tgt := 26) (by decide) ?_
        have c1 := k_nlt (b := 0) (by decide) c1
        have c2 := k_nge rfl c2
        have c3 := k_nge (b := 16000) (by decide) c3
        have hcc := nI_toInt (n := c) (by omega)
        exact g_zret C F (by decide) ((b01_t (by omega)).symm) (rfl) dX0_isToken_26
set_option maxHeartbeats 4000000 in
set_option maxRecDepth 100000 in
theorem c_X0_isOfKind (g : Gl) (a : Nat → Nat) (aT aX : Nat) (tr : Nat → Int32) (n fed : Int32) (tx : Nat → Int32) (m ln fa : Int32) (T : TK) (c : Nat) (hT : T.2.2.2.2.2 = nI c) (hc : c ≤ 16000) (x : Int32) (k : Int32) : Ctr g yX0_isOfKind wsX0_isOfKind ({ frames := 1, cells := 0, slots := 0, locals := 21 }) [.ref (a 0), .int x, .int k] (tw g a aT aX tr n fed tx m ln fa T) (some (.int (b01 (bTok c x && decide (T.1 x.toNatClampNeg = k))))) (tw g a aT aX tr n fed tx m ln fa T) 0 0 := by
  refine Ctr.start (cc := cX0_isOfKind) (maxL := 3) (ret := (some .boolean)) (by decide) rfl (Nat.le_of_ble_eq_true rfl) (lv0 := [(0, .ref (a 0)), (1, .int x), (2, .int k)]) rfl ?_
  intro X C F
  have C : Ok g X cX0_isOfKind RX0 wsX0_isOfKind ({ frames := 1, cells := 0, slots := 0, locals := 21 }) (some .boolean) 3 := C
  have hin : ∀ w ∈ wsX00, w ∈ wsX0_isOfKind := fun _ h => List.mem_cons_of_mem _ (List.mem_append_right _ h)
  have lk16 : Cond.fieldLink RX0 16 "TokenRows" "kinds" "[I" ∈ wsX0_isOfKind := by decide +kernel
  refine g_aload_n C dX0_isOfKind_0 0 rfl ?_
  refine g_iload_n C dX0_isOfKind_1 1 rfl ?_
  refine g_callVi (n := 1) C (c_X0_isToken g a aT aX tr n fed tx m ln fa T c hT hc x) gX0_isOfKind_X0_isToken rfl rfl rfl rfl (by decide) (by decide) rfl (Nat.le_of_ble_eq_true rfl) dX0_isOfKind_2 ?_
  refine g_if_eq C dX0_isOfKind_5 (tgt := 22) (by decide) (fun c1 => ?_) (fun c1 => ?_)
  · refine g_iconst C dX0_isOfKind_22 (v := 0) (by decide) ?_
    exact g_zret C F (by decide) (by rw [b01_0.mp c1]; rfl) (rfl) dX0_isOfKind_23
  · refine g_aload_n C dX0_isOfKind_8 0 rfl ?_
    refine g_get0 C hin 0 rfl 7 (by decide) lk16 rfl dX0_isOfKind_9 ?_
    refine g_iload_n C dX0_isOfKind_12 1 rfl ?_
    refine g_iald C 3 rfl (bTok_in (b01_1.mp c1) hc) dX0_isOfKind_13 ?_
    refine g_top (y := T.1 x.toNatClampNeg) (rfl) ?_
    refine g_iload_n C dX0_isOfKind_14 2 rfl ?_
    refine g_icmp_ne C dX0_isOfKind_15 (tgt := 22) (by decide) (fun c2 => ?_) (fun c2 => ?_)
    · refine g_iconst C dX0_isOfKind_22 (v := 0) (by decide) ?_
      exact g_zret C F (by decide) (by rw [b01_1.mp c1, decide_eq_false c2]; rfl) (rfl) dX0_isOfKind_23
    · refine g_iconst C dX0_isOfKind_18 (v := 1) (by decide) ?_
      refine g_goto C dX0_isOfKind_19 (tgt := 23) (by decide) ?_
      exact g_zret C F (by decide) (by rw [b01_1.mp c1, decide_eq_true c2]; rfl) (rfl) dX0_isOfKind_23
set_option maxHeartbeats 4000000 in
set_option maxRecDepth 100000 in
theorem c_X0_fail (g : Gl) (a : Nat → Nat) (aT aX : Nat) (tr : Nat → Int32) (n fed : Int32) (tx : Nat → Int32) (m ln fa : Int32) (T : TK) (x : Int32) : Ctr g yX0_fail wsX0_fail ({ frames := 0, cells := 0, slots := 0, locals := 0 }) [.ref (a 0), .int x] (tw g a aT aX tr n fed tx m ln fa T) (some (.int x)) (tw g a aT aX tr n fed tx m ln x T) 0 0 := by
  refine Ctr.start (cc := cX0_fail) (maxL := 2) (ret := (some .int)) (by decide) rfl (Nat.le_of_ble_eq_true rfl) (lv0 := [(0, .ref (a 0)), (1, .int x)]) rfl ?_
  intro X C F
  have C : Ok g X cX0_fail RX0 wsX0_fail ({ frames := 0, cells := 0, slots := 0, locals := 0 }) (some .int) 2 := C
  have hin : ∀ w ∈ wsX00, w ∈ wsX0_fail := fun _ h => List.mem_cons_of_mem _ (List.mem_append_right _ h)
  have lk45 : Cond.fieldLink RX0 45 "TokenRows" "fault" "I" ∈ wsX0_fail := by decide +kernel
  refine g_aload_n C dX0_fail_0 0 rfl ?_
  refine g_iload_n C dX0_fail_1 1 rfl ?_
  refine g_put0 (ws' := (tw g a aT aX tr n fed tx m ln x T)) C hin 0 rfl 6 (by decide) lk45 rfl rfl rfl (Nat.le_of_ble_eq_true rfl) rfl dX0_fail_2 ?_
  refine g_iload_n C dX0_fail_5 1 rfl ?_
  exact g_iret C F (rfl) (rfl) dX0_fail_6
set_option maxHeartbeats 4000000 in
set_option maxRecDepth 100000 in
theorem c_X0_countLine (g : Gl) (a : Nat → Nat) (aT aX : Nat) (tr : Nat → Int32) (n fed : Int32) (tx : Nat → Int32) (m ln fa : Int32) (T : TK) (x : Int32) : Ctr g yX0_countLine wsX0_countLine ({ frames := 0, cells := 0, slots := 0, locals := 0 }) [.ref (a 0), .int x] (tw g a aT aX tr n fed tx m ln fa T) (none) (tw g a aT aX tr n fed tx m (if x = 10 then ln + 1 else ln) fa T) 0 0 := by
  refine Ctr.start (cc := cX0_countLine) (maxL := 2) (ret := none) (by decide) rfl (Nat.le_of_ble_eq_true rfl) (lv0 := [(0, .ref (a 0)), (1, .int x)]) rfl ?_
  intro X C F
  have C : Ok g X cX0_countLine RX0 wsX0_countLine ({ frames := 0, cells := 0, slots := 0, locals := 0 }) none 2 := C
  have hin : ∀ w ∈ wsX00, w ∈ wsX0_countLine := fun _ h => List.mem_cons_of_mem _ (List.mem_append_right _ h)
  have lk42 : Cond.fieldLink RX0 42 "TokenRows" "lineNow" "I" ∈ wsX0_countLine := by decide +kernel
  refine g_iload_n C dX0_countLine_0 1 rfl ?_
  refine g_bipush C dX0_countLine_1 (v := 10) (by decide) ?_
  refine g_icmp_ne C dX0_countLine_3 (tgt := 16) (by decide) (fun c1 => ?_) (fun c1 => ?_)
  · exact g_vret C F (by rw [if_neg c1]) dX0_countLine_16
  · refine g_aload_n C dX0_countLine_6 0 rfl ?_
    refine g_dup C dX0_countLine_7 rfl ?_
    refine g_get0 C hin 0 rfl 5 (by decide) lk42 rfl dX0_countLine_8 ?_
    refine g_iconst C dX0_countLine_11 (v := 1) (by decide) ?_
    refine g_iadd C dX0_countLine_12 ?_
    refine g_put0 (ws' := (tw g a aT aX tr n fed tx m (ln + 1) fa T)) C hin 0 rfl 5 (by decide) lk42 rfl rfl rfl (Nat.le_of_ble_eq_true rfl) rfl dX0_countLine_13 ?_
    exact g_vret C F (by rw [if_pos c1]) dX0_countLine_16
set_option maxHeartbeats 4000000 in
set_option maxRecDepth 100000 in
theorem c_X0_keep (g : Gl) (a : Nat → Nat) (aT aX : Nat) (tr : Nat → Int32) (n fed : Int32) (tx : Nat → Int32) (m ln fa : Int32) (T : TK) (c : Nat) (hT : T.2.2.2.2.2 = nI c) (hc : c < 16000) (k t x y : Int32) : Ctr g yX0_keep wsX0_keep ({ frames := 0, cells := 0, slots := 0, locals := 0 }) [.ref (a 0), .int k, .int t, .int x, .int y] (tw g a aT aX tr n fed tx m ln fa T) (some (.int y)) (tw g a aT aX tr n fed tx m ln fa (tpush T c k t x (y - x) ln)) 0 0 := by
  refine Ctr.start (cc := cX0_keep) (maxL := 5) (ret := (some .int)) (by decide) rfl (Nat.le_of_ble_eq_true rfl) (lv0 := [(0, .ref (a 0)), (1, .int k), (2, .int t), (3, .int x), (4, .int y)]) rfl ?_
  intro X C F
  have C : Ok g X cX0_keep RX0 wsX0_keep ({ frames := 0, cells := 0, slots := 0, locals := 0 }) (some .int) 5 := C
  have hin : ∀ w ∈ wsX00, w ∈ wsX0_keep := fun _ h => List.mem_cons_of_mem _ (List.mem_append_right _ h)
  have lk16 : Cond.fieldLink RX0 16 "TokenRows" "kinds" "[I" ∈ wsX0_keep := by decide +kernel
  have lk20 : Cond.fieldLink RX0 20 "TokenRows" "starts" "[I" ∈ wsX0_keep := by decide +kernel
  have lk23 : Cond.fieldLink RX0 23 "TokenRows" "sizes" "[I" ∈ wsX0_keep := by decide +kernel
  have lk26 : Cond.fieldLink RX0 26 "TokenRows" "lines" "[I" ∈ wsX0_keep := by decide +kernel
  have lk29 : Cond.fieldLink RX0 29 "TokenRows" "tells" "[I" ∈ wsX0_keep := by decide +kernel
  have lk42 : Cond.fieldLink RX0 42 "TokenRows" "lineNow" "I" ∈ wsX0_keep := by decide +kernel
  have lk48 : Cond.fieldLink RX0 48 "TokenRows" "count" "I" ∈ wsX0_keep := by decide +kernel
  refine g_aload_n C dX0_keep_0 0 rfl ?_
  refine g_get0 C hin 0 rfl 12 (by decide) lk48 rfl dX0_keep_1 ?_
  refine g_top hT ?_
  refine g_if_lt C dX0_keep_4 (tgt := 85) (by decide) (fun c1 => ?_) (fun c1 => ?_)
  · exact absurd c1 (nI_pos (by omega))
  · refine g_aload_n C dX0_keep_7 0 rfl ?_
    refine g_get0 C hin 0 rfl 12 (by decide) lk48 rfl dX0_keep_8 ?_
    refine g_top hT ?_
    refine g_aload_n C dX0_keep_11 0 rfl ?_
    refine g_get0 C hin 0 rfl 7 (by decide) lk16 rfl dX0_keep_12 ?_
    refine g_alenI C 3 rfl (v := 16000) (by decide) dX0_keep_15 ?_
    refine g_icmp_ge C dX0_keep_16 (tgt := 85) (by decide) (fun c2 => ?_) (fun c2 => ?_)
    · exact absurd (nI_lt (a := c) (b := 16000) hc (by omega)) (Int32.not_lt.mpr c2)
    · refine g_aload_n C dX0_keep_19 0 rfl ?_
      refine g_get0 C hin 0 rfl 7 (by decide) lk16 rfl dX0_keep_20 ?_
      refine g_aload_n C dX0_keep_23 0 rfl ?_
      refine g_get0 C hin 0 rfl 12 (by decide) lk48 rfl dX0_keep_24 ?_
      refine g_top hT ?_
      refine g_iload_n C dX0_keep_27 1 rfl ?_
      refine g_iast (ws' := (tw g a aT aX tr n fed tx m ln fa (upd T.1 c k, T.2.1, T.2.2.1, T.2.2.2.1, T.2.2.2.2.1, T.2.2.2.2.2))) C 3 rfl (vp_in_nI hc (by omega)) (by rw [nI_clamp (by omega)]; rfl) dX0_keep_28 ?_
      refine g_aload_n C dX0_keep_29 0 rfl ?_
      refine g_get0 C hin 0 rfl 11 (by decide) lk29 rfl dX0_keep_30 ?_
      refine g_aload_n C dX0_keep_33 0 rfl ?_
      refine g_get0 C hin 0 rfl 12 (by decide) lk48 rfl dX0_keep_34 ?_
      refine g_top hT ?_
      refine g_iload_n C dX0_keep_37 2 rfl ?_
      refine g_iast (ws' := (tw g a aT aX tr n fed tx m ln fa (upd T.1 c k, T.2.1, T.2.2.1, T.2.2.2.1, upd T.2.2.2.2.1 c t, T.2.2.2.2.2))) C 7 rfl (vp_in_nI hc (by omega)) (by rw [nI_clamp (by omega)]; rfl) dX0_keep_38 ?_
      refine g_aload_n C dX0_keep_39 0 rfl ?_
      refine g_get0 C hin 0 rfl 8 (by decide) lk20 rfl dX0_keep_40 ?_
      refine g_aload_n C dX0_keep_43 0 rfl ?_
      refine g_get0 C hin 0 rfl 12 (by decide) lk48 rfl dX0_keep_44 ?_
      refine g_top hT ?_
      refine g_iload_n C dX0_keep_47 3 rfl ?_
      refine g_iast (ws' := (tw g a aT aX tr n fed tx m ln fa (upd T.1 c k, upd T.2.1 c x, T.2.2.1, T.2.2.2.1, upd T.2.2.2.2.1 c t, T.2.2.2.2.2))) C 4 rfl (vp_in_nI hc (by omega)) (by rw [nI_clamp (by omega)]; rfl) dX0_keep_48 ?_
      refine g_aload_n C dX0_keep_49 0 rfl ?_
      refine g_get0 C hin 0 rfl 9 (by decide) lk23 rfl dX0_keep_50 ?_
      refine g_aload_n C dX0_keep_53 0 rfl ?_
      refine g_get0 C hin 0 rfl 12 (by decide) lk48 rfl dX0_keep_54 ?_
      refine g_top hT ?_
      refine g_iload C dX0_keep_57 4 rfl ?_
      refine g_iload_n C dX0_keep_59 3 rfl ?_
      refine g_isub C dX0_keep_60 ?_
      refine g_iast (ws' := (tw g a aT aX tr n fed tx m ln fa (upd T.1 c k, upd T.2.1 c x, upd T.2.2.1 c (y - x), T.2.2.2.1, upd T.2.2.2.2.1 c t, T.2.2.2.2.2))) C 5 rfl (vp_in_nI hc (by omega)) (by rw [nI_clamp (by omega)]; rfl) dX0_keep_61 ?_
      refine g_aload_n C dX0_keep_62 0 rfl ?_
      refine g_get0 C hin 0 rfl 10 (by decide) lk26 rfl dX0_keep_63 ?_
      refine g_aload_n C dX0_keep_66 0 rfl ?_
      refine g_get0 C hin 0 rfl 12 (by decide) lk48 rfl dX0_keep_67 ?_
      refine g_top hT ?_
      refine g_aload_n C dX0_keep_70 0 rfl ?_
      refine g_get0 C hin 0 rfl 5 (by decide) lk42 rfl dX0_keep_71 ?_
      refine g_iast (ws' := (tw g a aT aX tr n fed tx m ln fa (upd T.1 c k, upd T.2.1 c x, upd T.2.2.1 c (y - x), upd T.2.2.2.1 c ln, upd T.2.2.2.2.1 c t, T.2.2.2.2.2))) C 6 rfl (vp_in_nI hc (by omega)) (by rw [nI_clamp (by omega)]; rfl) dX0_keep_74 ?_
      refine g_aload_n C dX0_keep_75 0 rfl ?_
      refine g_dup C dX0_keep_76 rfl ?_
      refine g_get0 C hin 0 rfl 12 (by decide) lk48 rfl dX0_keep_77 ?_
      refine g_top hT ?_
      refine g_iconst C dX0_keep_80 (v := 1) (by decide) ?_
      refine g_iadd C dX0_keep_81 ?_
      refine g_top (nI_add c 1) ?_
      refine g_put0 (ws' := (tw g a aT aX tr n fed tx m ln fa (upd T.1 c k, upd T.2.1 c x, upd T.2.2.1 c (y - x), upd T.2.2.2.1 c ln, upd T.2.2.2.2.1 c t, nI (c + 1)))) C hin 0 rfl 12 (by decide) lk48 rfl rfl rfl (Nat.le_of_ble_eq_true rfl) rfl dX0_keep_82 ?_
      refine g_iload C dX0_keep_85 4 rfl ?_
      exact g_iret C F (rfl) (rfl) dX0_keep_87
set_option maxHeartbeats 4000000 in
set_option maxRecDepth 100000 in
theorem c_X0_codeWidth (g : Gl) (a : Nat → Nat) (aT aX : Nat) (tr : Nat → Int32) (n fed : Int32) (tx : Nat → Int32) (ln fa : Int32) (T : TK) (N i : Nat) (hN : N ≤ 16000) (hi : i < 2 ^ 29) (q : Int32) : Ctr g yX0_codeWidth wsX0_codeWidth ({ frames := 1, cells := 0, slots := 0, locals := 21 }) [.ref (a 0), .int (nI i), .int q] (tw g a aT aX tr n fed tx (nI N) ln fa T) (some (.int (nI (cwd (look tx N) i q)))) (tw g a aT aX tr n fed tx (nI N) ln fa T) 0 0 := by
  refine Ctr.start (cc := cX0_codeWidth) (maxL := 4) (ret := (some .int)) (by decide) rfl (Nat.le_of_ble_eq_true rfl) (lv0 := [(0, .ref (a 0)), (1, .int (nI i)), (2, .int q)]) rfl ?_
  intro X C F
  have C : Ok g X cX0_codeWidth RX0 wsX0_codeWidth ({ frames := 1, cells := 0, slots := 0, locals := 21 }) (some .int) 4 := C
  have hin : ∀ w ∈ wsX00, w ∈ wsX0_codeWidth := fun _ h => List.mem_cons_of_mem _ (List.mem_append_right _ h)
  refine g_aload_n C dX0_codeWidth_0 0 rfl ?_
  refine g_iload_n C dX0_codeWidth_1 1 rfl ?_
  refine g_callVi (n := 1) C (c_X0_byteAt g a aT aX tr n fed tx ln fa T N i hN (by omega)) gX0_codeWidth_X0_byteAt rfl rfl rfl rfl (by decide) (by decide) rfl (Nat.le_of_ble_eq_true rfl) dX0_codeWidth_2 ?_
  refine g_istore_n (lv' := [(3, .int (look tx N i)), (0, .ref (a 0)), (1, .int (nI i)), (2, .int q)]) C dX0_codeWidth_5 (by decide) rfl ?_
  refine g_iload_n C dX0_codeWidth_6 0 rfl ?_
  refine g_bipush C dX0_codeWidth_7 (v := 92) (by decide) ?_
  refine g_icmp_ne C dX0_codeWidth_9 (tgt := 31) (by decide) (fun c1 => ?_) (fun c1 => ?_)
  · refine g_iload_n C dX0_codeWidth_31 0 rfl ?_
    refine g_bipush C dX0_codeWidth_32 (v := 32) (by decide) ?_
    refine g_icmp_lt C dX0_codeWidth_34 (tgt := 52) (by decide) (fun c2 => ?_) (fun c2 => ?_)
    · refine g_iconst C dX0_codeWidth_52 (v := 0) (by decide) ?_
      have c2 := k_lt (b := 32) (by decide) c2
      exact g_iret C F (by unfold cwd; rw [if_neg c1, if_neg (by omega)]; rfl) (rfl) dX0_codeWidth_53
    · refine g_iload_n C dX0_codeWidth_37 0 rfl ?_
      refine g_bipush C dX0_codeWidth_38 (v := 126) (by decide) ?_
      refine g_icmp_gt C dX0_codeWidth_40 (tgt := 52) (by decide) (fun c3 => ?_) (fun c3 => ?_)
      · refine g_iconst C dX0_codeWidth_52 (v := 0) (by decide) ?_
        have c2 := k_nlt (b := 32) (by decide) c2
        have c3 := k_gt (b := 126) (by decide) c3
        exact g_iret C F (by unfold cwd; rw [if_neg c1, if_neg (by omega)]; rfl) (rfl) dX0_codeWidth_53
      · refine g_iload_n C dX0_codeWidth_43 0 rfl ?_
        refine g_iload_n C dX0_codeWidth_44 3 rfl ?_
        refine g_icmp_eq C dX0_codeWidth_45 (tgt := 52) (by decide) (fun c4 => ?_) (fun c4 => ?_)
        · refine g_iconst C dX0_codeWidth_52 (v := 0) (by decide) ?_
          have c2 := k_nlt (b := 32) (by decide) c2
          have c3 := k_ngt (b := 126) (by decide) c3
          exact g_iret C F (by unfold cwd; rw [if_neg c1, if_neg (fun z => absurd z.2.2 (fun y => y c4))]; rfl) (rfl) dX0_codeWidth_53
        · refine g_iconst C dX0_codeWidth_48 (v := 1) (by decide) ?_
          refine g_goto C dX0_codeWidth_49 (tgt := 53) (by decide) ?_
          have c2 := k_nlt (b := 32) (by decide) c2
          have c3 := k_ngt (b := 126) (by decide) c3
          exact g_iret C F (by unfold cwd; rw [if_neg c1, if_pos (⟨by omega, by omega, c4⟩)]; rfl) (rfl) dX0_codeWidth_53
  · refine g_aload_n C dX0_codeWidth_12 1 rfl ?_
    refine g_iload_n C dX0_codeWidth_13 2 rfl ?_
    refine g_iconst C dX0_codeWidth_14 (v := 1) (by decide) ?_
    refine g_iadd C dX0_codeWidth_15 ?_
    refine g_top (nI_add i 1) ?_
    refine g_callVi (n := 1) C (c_X0_byteAt g a aT aX tr n fed tx ln fa T N (i + 1) hN (by omega)) gX0_codeWidth_X0_byteAt rfl rfl rfl rfl (by decide) (by decide) rfl (Nat.le_of_ble_eq_true rfl) dX0_codeWidth_16 ?_
    refine g_callSi (n := 1) C (c_X0_escapedCode g (look tx N (i + 1))) gX0_codeWidth_X0_escapedCode rfl rfl (by decide) (by decide) rfl (Nat.le_of_ble_eq_true rfl) dX0_codeWidth_19 ?_
    refine g_if_lt C dX0_codeWidth_22 (tgt := 29) (by decide) (fun c5 => ?_) (fun c5 => ?_)
    · refine g_iconst C dX0_codeWidth_29 (v := 0) (by decide) ?_
      have c5 := k_lt (b := 0) (by decide) c5
      exact g_iret C F (by unfold cwd; rw [if_pos c1, if_neg (by omega)]; rfl) (rfl) dX0_codeWidth_30
    · refine g_iconst C dX0_codeWidth_25 (v := 2) (by decide) ?_
      refine g_goto C dX0_codeWidth_26 (tgt := 30) (by decide) ?_
      have c5 := k_nlt (b := 0) (by decide) c5
      exact g_iret C F (by unfold cwd; rw [if_pos c1, if_pos (by omega)]; rfl) (rfl) dX0_codeWidth_30
set_option maxHeartbeats 4000000 in
set_option maxRecDepth 100000 in
theorem c_X0_codeAt (g : Gl) (a : Nat → Nat) (aT aX : Nat) (tr : Nat → Int32) (n fed : Int32) (tx : Nat → Int32) (ln fa : Int32) (T : TK) (N i : Nat) (hN : N ≤ 16000) (hi : i < 2 ^ 29) : Ctr g yX0_codeAt wsX0_codeAt ({ frames := 1, cells := 0, slots := 0, locals := 21 }) [.ref (a 0), .int (nI i)] (tw g a aT aX tr n fed tx (nI N) ln fa T) (some (.int (cat (look tx N) i))) (tw g a aT aX tr n fed tx (nI N) ln fa T) 0 0 := by
  refine Ctr.start (cc := cX0_codeAt) (maxL := 3) (ret := (some .int)) (by decide) rfl (Nat.le_of_ble_eq_true rfl) (lv0 := [(0, .ref (a 0)), (1, .int (nI i))]) rfl ?_
  intro X C F
  have C : Ok g X cX0_codeAt RX0 wsX0_codeAt ({ frames := 1, cells := 0, slots := 0, locals := 21 }) (some .int) 3 := C
  have hin : ∀ w ∈ wsX00, w ∈ wsX0_codeAt := fun _ h => List.mem_cons_of_mem _ (List.mem_append_right _ h)
  refine g_aload_n C dX0_codeAt_0 0 rfl ?_
  refine g_iload_n C dX0_codeAt_1 1 rfl ?_
  refine g_callVi (n := 1) C (c_X0_byteAt g a aT aX tr n fed tx ln fa T N i hN (by omega)) gX0_codeAt_X0_byteAt rfl rfl rfl rfl (by decide) (by decide) rfl (Nat.le_of_ble_eq_true rfl) dX0_codeAt_2 ?_
  refine g_istore_n (lv' := [(2, .int (look tx N i)), (0, .ref (a 0)), (1, .int (nI i))]) C dX0_codeAt_5 (by decide) rfl ?_
  refine g_iload_n C dX0_codeAt_6 0 rfl ?_
  refine g_bipush C dX0_codeAt_7 (v := 92) (by decide) ?_
  refine g_icmp_ne C dX0_codeAt_9 (tgt := 25) (by decide) (fun c1 => ?_) (fun c1 => ?_)
  · refine g_iload_n C dX0_codeAt_25 0 rfl ?_
    exact g_iret C F (by unfold cat; rw [if_neg c1]) (rfl) dX0_codeAt_26
  · refine g_aload_n C dX0_codeAt_12 1 rfl ?_
    refine g_iload_n C dX0_codeAt_13 2 rfl ?_
    refine g_iconst C dX0_codeAt_14 (v := 1) (by decide) ?_
    refine g_iadd C dX0_codeAt_15 ?_
    refine g_top (nI_add i 1) ?_
    refine g_callVi (n := 1) C (c_X0_byteAt g a aT aX tr n fed tx ln fa T N (i + 1) hN (by omega)) gX0_codeAt_X0_byteAt rfl rfl rfl rfl (by decide) (by decide) rfl (Nat.le_of_ble_eq_true rfl) dX0_codeAt_16 ?_
    refine g_callSi (n := 1) C (c_X0_escapedCode g (look tx N (i + 1))) gX0_codeAt_X0_escapedCode rfl rfl (by decide) (by decide) rfl (Nat.le_of_ble_eq_true rfl) dX0_codeAt_19 ?_
    refine g_goto C dX0_codeAt_22 (tgt := 26) (by decide) ?_
    exact g_iret C F (by unfold cat; rw [if_pos c1]) (rfl) dX0_codeAt_26
end
section
/-! PURE: scans and the tokens -/
def sc (p : Nat → Bool) : Nat → Nat → Nat
  | 0, i => i
  | f + 1, i => if p i = true then sc p f (i + 1) else i
/-- the first place from i on, below N, where p fails (N if there is none) -/
def scan (p : Nat → Bool) (N i : Nat) : Nat := sc p (N - i) i
theorem scan_step {p : Nat → Bool} {N i : Nat} (h : i < N) (hp : p i = true) : scan p N i = scan p N (i + 1) := by
  unfold scan
  rw [show N - i = (N - (i + 1)) + 1 by omega, sc, if_pos hp]
theorem scan_stop {p : Nat → Bool} {N i : Nat} (hp : p i = false) : scan p N i = i := by
  unfold scan
  cases N - i with
  | zero => rfl
  | succ f => rw [sc, if_neg (by rw [hp]; decide)]
theorem scan_end {p : Nat → Bool} {N i : Nat} (h : N ≤ i) : scan p N i = i := by
  unfold scan
  rw [show N - i = 0 by omega, sc]
theorem sc_ge (p : Nat → Bool) : ∀ f i, i ≤ sc p f i
  | 0, i => Nat.le_refl i
  | f + 1, i => by
    rw [sc]
    split
    · exact Nat.le_trans (Nat.le_succ i) (sc_ge p f (i + 1))
    · exact Nat.le_refl i
theorem sc_le (p : Nat → Bool) : ∀ f i, sc p f i ≤ i + f
  | 0, i => Nat.le_refl i
  | f + 1, i => by
    rw [sc]
    split
    · have := sc_le p f (i + 1); omega
    · omega
theorem sc_all (p : Nat → Bool) : ∀ f i j, i ≤ j → j < sc p f i → p j = true
  | 0, i, j, h1, h2 => by rw [sc] at h2; omega
  | f + 1, i, j, h1, h2 => by
    rw [sc] at h2
    split at h2
    · rename_i hp
      by_cases e : i = j
      · rw [← e]; exact hp
      · exact sc_all p f (i + 1) j (by omega) h2
    · omega
theorem sc_at (p : Nat → Bool) : ∀ f i, sc p f i < i + f → p (sc p f i) = false
  | 0, i, h => by rw [sc] at h; omega
  | f + 1, i, h => by
    rw [sc] at h ⊢
    split
    · rename_i hp
      rw [if_pos hp] at h
      exact sc_at p f (i + 1) (by omega)
    · rename_i hp
      exact Bool.eq_false_iff.mpr hp
theorem scan_ge (p : Nat → Bool) (N i : Nat) : i ≤ scan p N i := sc_ge p _ i
theorem scan_le {p : Nat → Bool} {N i : Nat} (h : i ≤ N) : scan p N i ≤ N := by
  have := sc_le p (N - i) i
  unfold scan; omega
theorem scan_all {p : Nat → Bool} {N i j : Nat} (h1 : i ≤ j) (h2 : j < scan p N i) : p j = true := sc_all p _ i j h1 h2
theorem scan_at {p : Nat → Bool} {N i : Nat} (h : scan p N i < N) : p (scan p N i) = false := by
  by_cases hi : i ≤ N
  · exact sc_at p _ i (by unfold scan at h; omega)
  · have := scan_ge p N i; omega
/-- a token: kind, what it tells, the place behind it; none: a fault at its first byte -/
abbrev Tok : Type := Option (Int32 × Int32 × Nat)
def tkR (o : Tok) (i : Nat) : Int32 := match o with
  | none => nI i
  | some q => nI q.2.2
def tkF (o : Tok) (fa : Int32) (i : Nat) : Int32 := match o with
  | none => nI i
  | some _ => fa
def tkT (o : Tok) (T : TK) (c i : Nat) (ln : Int32) : TK := match o with
  | none => T
  | some q => tpush T c q.1 q.2.1 (nI i) (nI q.2.2 - nI i) ln
/-- the class's search of a word: the rest of the table, the word's number, how many letters agreed (-1: no more) -/
def wgo (L : Nat → Int32) (i z : Nat) : List Nat → Nat → Int32 → Int32
  | [], _, _ => -1
  | c :: r, w, ag => if c = 32 then (if ag = nI z then nI w else wgo L i z r (w + 1) 0) else if 0 ≤ ag.toInt ∧ ag.toInt < (z : Int) ∧ L (i + ag.toNatClampNeg) = nI c then wgo L i z r w (ag + 1) else wgo L i z r w (-1)
def wnum (L : Nat → Int32) (i z : Nat) : Int32 := wgo L i z wWd 0 0
def pNam (L : Nat → Int32) (j : Nat) : Bool := bNam (L j)
def pDig (L : Nat → Int32) (j : Nat) : Bool := bDig (L j)
def pHex (L : Nat → Int32) (j : Nat) : Bool := decide (0 ≤ (hexv (L j)).toInt)
def tokName (L : Nat → Int32) (N i : Nat) : Tok :=
  if 24 < scan (pNam L) N (i + 1) - i then none else if 0 ≤ (wnum L i (scan (pNam L) N (i + 1) - i)).toInt then some (4, wnum L i (scan (pNam L) N (i + 1) - i), scan (pNam L) N (i + 1)) else some (1, 0, scan (pNam L) N (i + 1))
/-- the worth of a digit -/
def dg (x : Int32) : Nat := (x.toInt - 48).toNat
/-- the worth of k digits from i on -/
def dval (L : Nat → Int32) (i : Nat) : Nat → Nat
  | 0 => 0
  | k + 1 => dval L i k * 10 + dg (L (i + k))
def tokDig (L : Nat → Int32) (N i : Nat) : Tok :=
  if 2147483647 < dval L i (scan (pDig L) N i - i) then none else some (2, nI (dval L i (scan (pDig L) N i - i)), scan (pDig L) N i)
/-- the worth of k digits of sixteen from i on, as an int -/
def hval (L : Nat → Int32) (i : Nat) : Nat → Int32
  | 0 => 0
  | k + 1 => (hval L i k <<< ((4 : Int32) &&& 31)) ||| hexv (L (i + k))
def tokHex (L : Nat → Int32) (N i : Nat) : Tok :=
  if 8 < scan (pHex L) N (i + 2) - i - 2 then none else some (2, hval L (i + 2) (scan (pHex L) N (i + 2) - (i + 2)), scan (pHex L) N (i + 2))
def tokQuo (L : Nat → Int32) (i : Nat) : Tok :=
  if cwd L (i + 1) 39 = 0 then none else if L (i + 1 + cwd L (i + 1) 39) = 39 then some (2, cat L (i + 1), i + 1 + cwd L (i + 1) 39 + 1) else none
def sgo (L : Nat → Int32) : Nat → Nat → Nat → Tok
  | 0, _, _ => none
  | f + 1, k, p => if L p = 34 then some (3, nI k, p + 1) else if cwd L p 34 = 0 then none else sgo L f (k + 1) (p + cwd L p 34)
def tokStr (L : Nat → Int32) (i : Nat) : Tok := sgo L 201 0 (i + 1)
def tokSgn (L : Nat → Int32) (i : Nat) : Tok :=
  if 0 ≤ (sg3 (L i) (L (i + 1)) (L (i + 2))).toInt then some (5, sg3 (L i) (L (i + 1)) (L (i + 2)), i + 3) else if 0 ≤ (sg2 (L i) (L (i + 1))).toInt then some (5, sg2 (L i) (L (i + 1)), i + 2) else if 0 ≤ (sg1 (L i)).toInt then some (5, sg1 (L i), i + 1) else none
def bHex (L : Nat → Int32) (i : Nat) : Bool := decide (L i = 48 ∧ L (i + 1) = 120 ∧ 0 ≤ (hexv (L (i + 2))).toInt)
/-- within a line's remark, a star's remark: goes on -/
def pLin (L : Nat → Int32) (j : Nat) : Bool := decide (¬ L j = 10) && bMay (L j)
def pStar (L : Nat → Int32) (j : Nat) : Bool := decide (¬ (L j = 42 ∧ L (j + 1) = 47)) && bMay (L j)
/-- how many bytes 10 among k bytes from i on -/
def cnt (L : Nat → Int32) (i : Nat) : Nat → Nat
  | 0 => 0
  | k + 1 => cnt L i k + if L (i + k) = 10 then 1 else 0
theorem cwd_le (L : Nat → Int32) (i : Nat) (q : Int32) : cwd L i q ≤ 2 := by
  unfold cwd
  repeat' split
  all_goals omega
theorem nI_subI {a b : Nat} (h : b ≤ a) : nI a - nI b = nI (a - b) := pk_sub h
end
section
/-! PURE: digits, lines -/
theorem g_lv {g : Gl} {X : Cx} {q : Nat × Nat} {ws : va_W} {pc : Nat} {lv lv' : List (Nat × Value)} {st : List Value} (h : lv = lv') (k : G g X q ws pc lv' st) : G g X q ws pc lv st := h ▸ k
theorem dig_nI {x : Int32} (h : bDig x = true) : dg x ≤ 9 ∧ x = nI (48 + dg x) ∧ x - 48 = nI (dg x) := by
  have h1 := bDig_t h
  obtain ⟨b, hb, rfl⟩ := nI_of (x := x) (fun z => by have := k_lt (b := 0) (by decide) z; omega)
  rw [nI_toInt hb] at h1
  have hd : dg (nI b) = b - 48 := by unfold dg; rw [nI_toInt hb]; omega
  rw [hd]
  refine ⟨by omega, by rw [show 48 + (b - 48) = b by omega], ?_⟩
  exact pk_sub (a := b) (b := 48) (by omega)
/-- the worth, held just above the limit -/
def cap (v : Nat) : Nat := if v ≤ 2147483648 then v else 2147483648
theorem cap_le (v : Nat) : cap v ≤ 2147483648 := by unfold cap; split <;> omega
theorem cap_step (v d : Nat) (hd : d ≤ 9) : (if 2147483648 < cap v * 10 + d then 2147483648 else cap v * 10 + d) = cap (v * 10 + d) := by
  unfold cap
  by_cases h : v ≤ 2147483648
  · rw [if_pos h]
    by_cases h2 : v * 10 + d ≤ 2147483648
    · rw [if_pos h2, if_neg (by omega)]
    · rw [if_neg h2, if_pos (by omega)]
  · rw [if_neg h, if_pos (by omega), if_neg (by omega)]
theorem dig_step {L : Nat → Int32} {i j : Nat} (h : bDig (L j) = true) (hij : i ≤ j) : (if (2147483648 : Int64) < lN (cap (dval L i (j - i))) * 10 + (L j - 48).toInt64 then (2147483648 : Int64) else lN (cap (dval L i (j - i))) * 10 + (L j - 48).toInt64) = lN (cap (dval L i (j + 1 - i))) := by
  obtain ⟨h1, -, h3⟩ := dig_nI h
  have hc := cap_le (dval L i (j - i))
  have e1 : lN (cap (dval L i (j - i))) * 10 + (L j - 48).toInt64 = lN (cap (dval L i (j - i)) * 10 + dg (L j)) := by
    rw [h3, nI_l (by omega), show (10 : Int64) = lN 10 from rfl, lN_mul, lN_add]
  rw [e1, show (2147483648 : Int64) = lN 2147483648 from rfl]
  have e2 : dval L i (j + 1 - i) = dval L i (j - i) * 10 + dg (L j) := by
    rw [show j + 1 - i = (j - i) + 1 by omega, dval, show i + (j - i) = j by omega]
  rw [e2, ← cap_step _ _ h1]
  by_cases hlt : 2147483648 < cap (dval L i (j - i)) * 10 + dg (L j)
  · rw [if_pos ((pk_lLT (by omega) (by omega)).mpr hlt), if_pos hlt]
  · rw [if_neg (fun z => hlt ((pk_lLT (by omega) (by omega)).mp z)), if_neg hlt]
theorem cmp_le {v : Nat} (h : v < 2 ^ 63) : lg_cmp (lN v) 2147483647 ≤ 0 ↔ v ≤ 2147483647 := by
  rw [show (2147483647 : Int64) = lN 2147483647 from rfl]
  unfold lg_cmp
  by_cases h1 : 2147483647 < v
  · rw [if_pos (show lN v > lN 2147483647 from (pk_lLT (by omega) h).mpr h1)]
    constructor
    · intro z; exact absurd z (by decide)
    · intro z; omega
  · rw [if_neg (show ¬ lN v > lN 2147483647 from fun z => h1 ((pk_lLT (by omega) h).mp z))]
    constructor
    · intro _; omega
    · intro _
      split
      · decide
      · decide
theorem cnt_step {L : Nat → Int32} {i j : Nat} (hij : i ≤ j) (ln : Int32) : (if L j = 10 then ln + nI (cnt L i (j - i)) + 1 else ln + nI (cnt L i (j - i))) = ln + nI (cnt L i (j + 1 - i)) := by
  rw [show j + 1 - i = (j - i) + 1 by omega, cnt, show i + (j - i) = j by omega]
  by_cases h : L j = 10
  · rw [if_pos h, if_pos h, Int32.add_assoc, nI_1]
  · rw [if_neg h, if_neg h, Nat.add_zero]
theorem drop_getD {l : List Nat} {k : Nat} (h : k < l.length) : l.drop k = l.getD k 0 :: l.drop (k + 1) := by
  rw [List.drop_eq_getElem_cons h]
  simp [List.getD, h]
theorem wWd_lt (k : Nat) : wWd.getD k 0 < 128 := by
  by_cases h : k < 66
  · have h1 : (List.range 66).all (fun j => decide (wWd.getD j 0 < 128)) = true := by decide
    exact of_decide_eq_true (List.all_eq_true.mp h1 k (List.mem_range.mpr h))
  · have h2 : wWd.length ≤ k := by rw [show wWd.length = 66 from rfl]; omega
    have h3 : wWd[k]? = none := List.getElem?_eq_none h2
    simp [List.getD, h3]
end
section
set_option maxHeartbeats 4000000 in
set_option maxRecDepth 100000 in
theorem c_X0_wordNumber (g : Gl) (a : Nat → Nat) (aT aX : Nat) (tr : Nat → Int32) (n fed : Int32) (tx : Nat → Int32) (ln fa : Int32) (T : TK) (N i z : Nat) (hN : N ≤ 16000) (hi : i < 2 ^ 28) (hz : z < 2 ^ 28) : Ctr g yX0_wordNumber wsX0_wordNumber ({ frames := 1, cells := 0, slots := 0, locals := 21 }) [.ref (a 0), .int (nI i), .int (nI z)] (tw g a aT aX tr n fed tx (nI N) ln fa T) (some (.int (wnum (look tx N) i z))) (tw g a aT aX tr n fed tx (nI N) ln fa T) 0 0 := by
  refine Ctr.start (cc := cX0_wordNumber) (maxL := 6) (ret := (some .int)) (by decide) rfl (Nat.le_of_ble_eq_true rfl) (lv0 := [(0, .ref (a 0)), (1, .int (nI i)), (2, .int (nI z))]) rfl ?_
  intro X C F
  have C : Ok g X cX0_wordNumber RX0 wsX0_wordNumber ({ frames := 1, cells := 0, slots := 0, locals := 21 }) (some .int) 6 := C
  have hin : ∀ w ∈ wsX00, w ∈ wsX0_wordNumber := fun _ h => List.mem_cons_of_mem _ (List.mem_append_right _ h)
  have lk167 : Cond.fieldLink RX0 167 "TokenRows" "WORDS" "[C" ∈ wsX0_wordNumber := by decide +kernel
  obtain ⟨res, hres⟩ : ∃ r, r = wnum (look tx N) i z := ⟨_, rfl⟩
  rw [← hres] at F
  have loop : ∀ (k0 k w : Nat) (ag : Int32), k ≤ 66 → 67 ≤ k + k0 → w ≤ k → (ag = -1 ∨ ∃ m, m ≤ z ∧ ag = nI m) → wgo (look tx N) i z (wWd.drop k) w ag = res → G g X (0, 0) (tw g a aT aX tr n fed tx (nI N) ln fa T) 8 [(5, .int (nI k)), (4, .int ag), (3, .int (nI w)), (0, .ref (a 0)), (1, .int (nI i)), (2, .int (nI z))] [] := by
    intro k0
    induction k0 with
    | zero => intro k w ag h1 h2 h3 hag hw; omega
    | succ k0 ih =>
      intro k w ag h1 h2 h3 hag hw
      refine g_iload C dX0_wordNumber_8 0 rfl ?_
      refine g_getsW C lk167 dX0_wordNumber_10 ?_
      refine g_alenW C dX0_wordNumber_13 ?_
      refine g_icmp_ge C dX0_wordNumber_14 (tgt := 88) (by decide) (fun c1 => ?_) (fun c1 => ?_)
      · have hk := (nI_leI (a := 66) (by omega) (by omega)).mp c1
        have hk : k = 66 := by omega
        subst hk
        have hw : -1 = res := hw
        refine g_iconst C dX0_wordNumber_88 (v := (-1)) (by decide) ?_
        exact g_iret C F (hw) (rfl) dX0_wordNumber_89
      · have hk : k < 66 := Nat.not_le.mp (fun q => c1 (nI_le (a := 66) q (by omega)))
        have hd := drop_getD (l := wWd) (k := k) hk
        have hw9 := wWd_lt k
        refine g_getsW C lk167 dX0_wordNumber_17 ?_
        refine g_iload C dX0_wordNumber_20 0 rfl ?_
        refine g_caldW C (v := nI (wWd.getD k 0)) (vp_in_nI hk (by omega)) (by rw [nI_clamp (by omega)]) dX0_wordNumber_22 ?_
        refine g_bipush C dX0_wordNumber_23 (v := 32) (by decide) ?_
        refine g_icmp_ne C dX0_wordNumber_25 (tgt := 45) (by decide) (fun c2 => ?_) (fun c2 => ?_)
        · have hc : ¬ wWd.getD k 0 = 32 := fun q => c2 (by rw [q]; rfl)
          refine g_iload C dX0_wordNumber_45 1 rfl ?_
          refine g_if_lt C dX0_wordNumber_47 (tgt := 79) (by decide) (fun c3 => ?_) (fun c3 => ?_)
          · have hq := k_lt (b := 0) (by decide) c3
            rw [hd, wgo, if_neg hc, if_neg (fun q => by omega)] at hw
            refine g_iconst C dX0_wordNumber_79 (v := (-1)) (by decide) ?_
            refine g_istore (lv' := [(4, .int (-1)), (5, .int (nI k)), (3, .int (nI w)), (0, .ref (a 0)), (1, .int (nI i)), (2, .int (nI z))]) C dX0_wordNumber_80 (by decide) rfl ?_
            refine g_iinc (o := 1) (v := nI (k + 1)) (lv' := [(5, .int (nI (k + 1))), (4, .int (-1)), (3, .int (nI w)), (0, .ref (a 0)), (1, .int (nI i)), (2, .int (nI z))]) C dX0_wordNumber_82 rfl (nI_add k 1) (by decide) rfl ?_
            refine g_goto C dX0_wordNumber_85 (tgt := 8) (by decide) ?_
            exact ih (k + 1) w (-1) (by omega) (by omega) (by omega) (Or.inl rfl) hw
          · obtain ⟨m, hm, rfl⟩ : ∃ m, m ≤ z ∧ ag = nI m := by
              rcases hag with q | q
              · exact absurd (by rw [q]; decide) c3
              · exact q
            refine g_iload C dX0_wordNumber_50 1 rfl ?_
            refine g_iload_n C dX0_wordNumber_52 5 rfl ?_
            refine g_icmp_ge C dX0_wordNumber_53 (tgt := 79) (by decide) (fun c4 => ?_) (fun c4 => ?_)
            · have hq := (nI_leI (by omega) (by omega)).mp c4
              rw [hd, wgo, if_neg hc, if_neg (fun q => by rw [nI_toInt (by omega)] at q; omega)] at hw
              refine g_iconst C dX0_wordNumber_79 (v := (-1)) (by decide) ?_
              refine g_istore (lv' := [(4, .int (-1)), (5, .int (nI k)), (3, .int (nI w)), (0, .ref (a 0)), (1, .int (nI i)), (2, .int (nI z))]) C dX0_wordNumber_80 (by decide) rfl ?_
              refine g_iinc (o := 1) (v := nI (k + 1)) (lv' := [(5, .int (nI (k + 1))), (4, .int (-1)), (3, .int (nI w)), (0, .ref (a 0)), (1, .int (nI i)), (2, .int (nI z))]) C dX0_wordNumber_82 rfl (nI_add k 1) (by decide) rfl ?_
              refine g_goto C dX0_wordNumber_85 (tgt := 8) (by decide) ?_
              exact ih (k + 1) w (-1) (by omega) (by omega) (by omega) (Or.inl rfl) hw
            · have hmz : m < z := Nat.not_le.mp (fun q => c4 (nI_le q (by omega)))
              refine g_aload_n C dX0_wordNumber_56 3 rfl ?_
              refine g_iload_n C dX0_wordNumber_57 4 rfl ?_
              refine g_iload C dX0_wordNumber_58 1 rfl ?_
              refine g_iadd C dX0_wordNumber_60 ?_
              refine g_top (nI_add i m) ?_
              refine g_callVi (n := 1) C (c_X0_byteAt g a aT aX tr n fed tx ln fa T N (i + m) hN (by omega)) gX0_wordNumber_X0_byteAt rfl rfl rfl rfl (by decide) (by decide) rfl (Nat.le_of_ble_eq_true rfl) dX0_wordNumber_61 ?_
              refine g_getsW C lk167 dX0_wordNumber_64 ?_
              refine g_iload C dX0_wordNumber_67 0 rfl ?_
              refine g_caldW C (v := nI (wWd.getD k 0)) (vp_in_nI hk (by omega)) (by rw [nI_clamp (by omega)]) dX0_wordNumber_69 ?_
              refine g_icmp_ne C dX0_wordNumber_70 (tgt := 79) (by decide) (fun c5 => ?_) (fun c5 => ?_)
              · rw [hd, wgo, if_neg hc, if_neg (fun q => c5 (by have q2 := q.2.2; rw [nI_clamp (by omega)] at q2; exact q2))] at hw
                refine g_iconst C dX0_wordNumber_79 (v := (-1)) (by decide) ?_
                refine g_istore (lv' := [(4, .int (-1)), (5, .int (nI k)), (3, .int (nI w)), (0, .ref (a 0)), (1, .int (nI i)), (2, .int (nI z))]) C dX0_wordNumber_80 (by decide) rfl ?_
                refine g_iinc (o := 1) (v := nI (k + 1)) (lv' := [(5, .int (nI (k + 1))), (4, .int (-1)), (3, .int (nI w)), (0, .ref (a 0)), (1, .int (nI i)), (2, .int (nI z))]) C dX0_wordNumber_82 rfl (nI_add k 1) (by decide) rfl ?_
                refine g_goto C dX0_wordNumber_85 (tgt := 8) (by decide) ?_
                exact ih (k + 1) w (-1) (by omega) (by omega) (by omega) (Or.inl rfl) hw
              · rw [hd, wgo, if_neg hc, if_pos ⟨by rw [nI_toInt (by omega)]; omega, by rw [nI_toInt (by omega)]; omega, by rw [nI_clamp (by omega)]; exact c5⟩, nI_1] at hw
                refine g_iinc (o := 1) (v := nI (m + 1)) (lv' := [(4, .int (nI (m + 1))), (5, .int (nI k)), (3, .int (nI w)), (0, .ref (a 0)), (1, .int (nI i)), (2, .int (nI z))]) C dX0_wordNumber_73 rfl (nI_add m 1) (by decide) rfl ?_
                refine g_goto C dX0_wordNumber_76 (tgt := 82) (by decide) ?_
                refine g_iinc (o := 1) (v := nI (k + 1)) (lv' := [(5, .int (nI (k + 1))), (4, .int (nI (m + 1))), (3, .int (nI w)), (0, .ref (a 0)), (1, .int (nI i)), (2, .int (nI z))]) C dX0_wordNumber_82 rfl (nI_add k 1) (by decide) rfl ?_
                refine g_goto C dX0_wordNumber_85 (tgt := 8) (by decide) ?_
                exact ih (k + 1) w (nI (m + 1)) (by omega) (by omega) (by omega) (Or.inr ⟨m + 1, by omega, rfl⟩) hw
        · have hc : wWd.getD k 0 = 32 := (nI_eq (by omega) (by omega)).mp c2
          refine g_iload C dX0_wordNumber_28 1 rfl ?_
          refine g_iload_n C dX0_wordNumber_30 5 rfl ?_
          refine g_icmp_ne C dX0_wordNumber_31 (tgt := 36) (by decide) (fun c6 => ?_) (fun c6 => ?_)
          · rw [hd, wgo, if_pos hc, if_neg c6] at hw
            refine g_iinc (o := 2) (v := nI (w + 1)) (lv' := [(3, .int (nI (w + 1))), (5, .int (nI k)), (4, .int ag), (0, .ref (a 0)), (1, .int (nI i)), (2, .int (nI z))]) C dX0_wordNumber_36 rfl (nI_add w 1) (by decide) rfl ?_
            refine g_iconst C dX0_wordNumber_39 (v := 0) (by decide) ?_
            refine g_istore (lv' := [(4, .int 0), (3, .int (nI (w + 1))), (5, .int (nI k)), (0, .ref (a 0)), (1, .int (nI i)), (2, .int (nI z))]) C dX0_wordNumber_40 (by decide) rfl ?_
            refine g_goto C dX0_wordNumber_42 (tgt := 82) (by decide) ?_
            refine g_iinc (o := 2) (v := nI (k + 1)) (lv' := [(5, .int (nI (k + 1))), (4, .int 0), (3, .int (nI (w + 1))), (0, .ref (a 0)), (1, .int (nI i)), (2, .int (nI z))]) C dX0_wordNumber_82 rfl (nI_add k 1) (by decide) rfl ?_
            refine g_goto C dX0_wordNumber_85 (tgt := 8) (by decide) ?_
            exact ih (k + 1) (w + 1) 0 (by omega) (by omega) (by omega) (Or.inr ⟨0, by omega, rfl⟩) hw
          · rw [hd, wgo, if_pos hc, if_pos c6] at hw
            refine g_iload_n C dX0_wordNumber_34 2 rfl ?_
            exact g_iret C F (hw) (rfl) dX0_wordNumber_35
  refine g_iconst C dX0_wordNumber_0 (v := 0) (by decide) ?_
  refine g_istore_n (lv' := [(3, .int 0), (0, .ref (a 0)), (1, .int (nI i)), (2, .int (nI z))]) C dX0_wordNumber_1 (by decide) rfl ?_
  refine g_iconst C dX0_wordNumber_2 (v := 0) (by decide) ?_
  refine g_istore (lv' := [(4, .int 0), (3, .int 0), (0, .ref (a 0)), (1, .int (nI i)), (2, .int (nI z))]) C dX0_wordNumber_3 (by decide) rfl ?_
  refine g_iconst C dX0_wordNumber_5 (v := 0) (by decide) ?_
  refine g_istore (lv' := [(5, .int 0), (4, .int 0), (3, .int 0), (0, .ref (a 0)), (1, .int (nI i)), (2, .int (nI z))]) C dX0_wordNumber_6 (by decide) rfl ?_
  exact loop 67 0 0 0 (by omega) (by omega) (by omega) (Or.inr ⟨0, by omega, rfl⟩) hres.symm
set_option maxHeartbeats 4000000 in
set_option maxRecDepth 100000 in
theorem c_X0_pastName (g : Gl) (a : Nat → Nat) (aT aX : Nat) (tr : Nat → Int32) (n fed : Int32) (tx : Nat → Int32) (ln fa : Int32) (T : TK) (N c i : Nat) (hN : N ≤ 16000) (hi : i < N) (hT : T.2.2.2.2.2 = nI c) (hc : c < 16000) : Ctr g yX0_pastName wsX0_pastName ({ frames := 2, cells := 0, slots := 0, locals := 46 }) [.ref (a 0), .int (nI i)] (tw g a aT aX tr n fed tx (nI N) ln fa T) (some (.int (tkR (tokName (look tx N) N i) i))) (tw g a aT aX tr n fed tx (nI N) ln (tkF (tokName (look tx N) N i) fa i) (tkT (tokName (look tx N) N i) T c i ln)) 0 0 := by
  refine Ctr.start (cc := cX0_pastName) (maxL := 4) (ret := (some .int)) (by decide) rfl (Nat.le_of_ble_eq_true rfl) (lv0 := [(0, .ref (a 0)), (1, .int (nI i))]) rfl ?_
  intro X C F
  have C : Ok g X cX0_pastName RX0 wsX0_pastName ({ frames := 2, cells := 0, slots := 0, locals := 46 }) (some .int) 4 := C
  have hin : ∀ w ∈ wsX00, w ∈ wsX0_pastName := fun _ h => List.mem_cons_of_mem _ (List.mem_append_right _ h)
  have lk39 : Cond.fieldLink RX0 39 "TokenRows" "textSize" "I" ∈ wsX0_pastName := by decide +kernel
  obtain ⟨e, he⟩ : ∃ e, e = scan (pNam (look tx N)) N (i + 1) := ⟨_, rfl⟩
  have he1 : i + 1 ≤ e := by rw [he]; exact scan_ge _ _ _
  have he2 : e ≤ N := by rw [he]; exact scan_le (by omega)
  have hs : tokName (look tx N) N i = if 24 < e - i then none else if 0 ≤ (wnum (look tx N) i (e - i)).toInt then some (4, wnum (look tx N) i (e - i), e) else some (1, 0, e) := by rw [he]; rfl
  have ex : G g X (0, 0) (tw g a aT aX tr n fed tx (nI N) ln fa T) 29 [(2, .int (nI e)), (0, .ref (a 0)), (1, .int (nI i))] [] := by
    refine g_iload_n C dX0_pastName_29 0 rfl ?_
    refine g_iload_n C dX0_pastName_30 2 rfl ?_
    refine g_isub C dX0_pastName_31 ?_
    refine g_top (y := nI (e - i)) (nI_subI (b := i) (by omega)) ?_
    refine g_bipush C dX0_pastName_32 (v := 24) (by decide) ?_
    refine g_icmp_le C dX0_pastName_34 (tgt := 43) (by decide) (fun c1 => ?_) (fun c1 => ?_)
    · have hz : e - i ≤ 24 := (nI_leI (b := 24) (by omega) (by omega)).mp c1
      refine g_aload_n C dX0_pastName_43 1 rfl ?_
      refine g_iload_n C dX0_pastName_44 2 rfl ?_
      refine g_iload_n C dX0_pastName_45 0 rfl ?_
      refine g_iload_n C dX0_pastName_46 2 rfl ?_
      refine g_isub C dX0_pastName_47 ?_
      refine g_top (y := nI (e - i)) (nI_subI (b := i) (by omega)) ?_
      refine g_callVi (n := 2) C (c_X0_wordNumber g a aT aX tr n fed tx ln fa T N i (e - i) hN (by omega) (by omega)) gX0_pastName_X0_wordNumber rfl rfl rfl rfl (by decide) (by decide) rfl (Nat.le_of_ble_eq_true rfl) dX0_pastName_48 ?_
      refine g_istore_n (lv' := [(3, .int (wnum (look tx N) i (e - i))), (2, .int (nI e)), (0, .ref (a 0)), (1, .int (nI i))]) C dX0_pastName_51 (by decide) rfl ?_
      refine g_iload_n C dX0_pastName_52 0 rfl ?_
      refine g_if_lt C dX0_pastName_53 (tgt := 67) (by decide) (fun c2 => ?_) (fun c2 => ?_)
      · have hq := k_lt (b := 0) (by decide) c2
        refine g_aload_n C dX0_pastName_67 2 rfl ?_
        refine g_iconst C dX0_pastName_68 (v := 1) (by decide) ?_
        refine g_iconst C dX0_pastName_69 (v := 0) (by decide) ?_
        refine g_iload_n C dX0_pastName_70 3 rfl ?_
        refine g_iload_n C dX0_pastName_71 1 rfl ?_
        refine g_callVi (n := 4) C (c_X0_keep g a aT aX tr n fed tx (nI N) ln fa T c hT hc 1 0 (nI i) (nI e)) gX0_pastName_X0_keep rfl rfl rfl rfl (by decide) (by decide) rfl (Nat.le_of_ble_eq_true rfl) dX0_pastName_72 ?_
        exact g_iret C F (by rw [hs, if_neg (by omega), if_neg (by omega)]; rfl) (by rw [hs, if_neg (by omega), if_neg (by omega)]; rfl) dX0_pastName_75
      · have hq := k_nlt (b := 0) (by decide) c2
        refine g_aload_n C dX0_pastName_56 2 rfl ?_
        refine g_iconst C dX0_pastName_57 (v := 4) (by decide) ?_
        refine g_iload_n C dX0_pastName_58 0 rfl ?_
        refine g_iload_n C dX0_pastName_59 3 rfl ?_
        refine g_iload_n C dX0_pastName_60 1 rfl ?_
        refine g_callVi (n := 4) C (c_X0_keep g a aT aX tr n fed tx (nI N) ln fa T c hT hc 4 (wnum (look tx N) i (e - i)) (nI i) (nI e)) gX0_pastName_X0_keep rfl rfl rfl rfl (by decide) (by decide) rfl (Nat.le_of_ble_eq_true rfl) dX0_pastName_61 ?_
        refine g_goto C dX0_pastName_64 (tgt := 75) (by decide) ?_
        exact g_iret C F (by rw [hs, if_neg (by omega), if_pos (by omega)]; rfl) (by rw [hs, if_neg (by omega), if_pos (by omega)]; rfl) dX0_pastName_75
    · have hz : 24 < e - i := Nat.not_le.mp (fun z => c1 (nI_le (b := 24) z (by omega)))
      refine g_aload_n C dX0_pastName_37 1 rfl ?_
      refine g_iload_n C dX0_pastName_38 2 rfl ?_
      refine g_callVi (n := 1) C (c_X0_fail g a aT aX tr n fed tx (nI N) ln fa T (nI i)) gX0_pastName_X0_fail rfl rfl rfl rfl (by decide) (by decide) rfl (Nat.le_of_ble_eq_true rfl) dX0_pastName_39 ?_
      exact g_iret C F (by rw [hs, if_pos hz]; rfl) (by rw [hs, if_pos hz]; rfl) dX0_pastName_42
  have loop : ∀ (k j : Nat), j ≤ N → N + 1 ≤ j + k → scan (pNam (look tx N)) N j = e → G g X (0, 0) (tw g a aT aX tr n fed tx (nI N) ln fa T) 4 [(2, .int (nI j)), (0, .ref (a 0)), (1, .int (nI i))] [] := by
    intro k
    induction k with
    | zero => intro j h1 h2 h3; omega
    | succ k ih =>
      intro j h1 h2 h3
      refine g_iload_n C dX0_pastName_4 0 rfl ?_
      refine g_aload_n C dX0_pastName_5 1 rfl ?_
      refine g_get0 C hin 0 rfl 4 (by decide) lk39 rfl dX0_pastName_6 ?_
      refine g_icmp_ge C dX0_pastName_9 (tgt := 29) (by decide) (fun c3 => ?_) (fun c3 => ?_)
      · have hj := (nI_leI (by omega) (by omega)).mp c3
        rw [scan_end hj] at h3
        subst h3
        exact ex
      · have hj : j < N := Nat.not_le.mp (fun z => c3 (nI_le z (by omega)))
        refine g_aload_n C dX0_pastName_12 1 rfl ?_
        refine g_iload_n C dX0_pastName_13 0 rfl ?_
        refine g_callVi (n := 1) C (c_X0_byteAt g a aT aX tr n fed tx ln fa T N j hN (by omega)) gX0_pastName_X0_byteAt rfl rfl rfl rfl (by decide) (by decide) rfl (Nat.le_of_ble_eq_true rfl) dX0_pastName_14 ?_
        refine g_callSi (n := 1) C (c_X0_isNamePart g (look tx N j)) gX0_pastName_X0_isNamePart rfl rfl (by decide) (by decide) rfl (Nat.le_of_ble_eq_true rfl) dX0_pastName_17 ?_
        refine g_if_eq C dX0_pastName_20 (tgt := 29) (by decide) (fun c4 => ?_) (fun c4 => ?_)
        · rw [scan_stop (show pNam (look tx N) j = false from b01_0.mp c4)] at h3
          subst h3
          exact ex
        · rw [scan_step hj (show pNam (look tx N) j = true from b01_1.mp c4)] at h3
          refine g_iinc (o := 0) (v := nI (j + 1)) (lv' := [(2, .int (nI (j + 1))), (0, .ref (a 0)), (1, .int (nI i))]) C dX0_pastName_23 rfl (nI_add j 1) (by decide) rfl ?_
          refine g_goto C dX0_pastName_26 (tgt := 4) (by decide) ?_
          exact ih (j + 1) (by omega) (by omega) h3
  refine g_iload_n C dX0_pastName_0 1 rfl ?_
  refine g_iconst C dX0_pastName_1 (v := 1) (by decide) ?_
  refine g_iadd C dX0_pastName_2 ?_
  refine g_top (nI_add i 1) ?_
  refine g_istore_n (lv' := [(2, .int (nI (i + 1))), (0, .ref (a 0)), (1, .int (nI i))]) C dX0_pastName_3 (by decide) rfl ?_
  exact loop (N + 1) (i + 1) (by omega) (by omega) he.symm
set_option maxHeartbeats 4000000 in
set_option maxRecDepth 100000 in
theorem c_X0_pastDigits (g : Gl) (a : Nat → Nat) (aT aX : Nat) (tr : Nat → Int32) (n fed : Int32) (tx : Nat → Int32) (ln fa : Int32) (T : TK) (N c i : Nat) (hN : N ≤ 16000) (hi : i < N) (hT : T.2.2.2.2.2 = nI c) (hc : c < 16000) : Ctr g yX0_pastDigits wsX0_pastDigits ({ frames := 1, cells := 0, slots := 0, locals := 24 }) [.ref (a 0), .int (nI i)] (tw g a aT aX tr n fed tx (nI N) ln fa T) (some (.int (tkR (tokDig (look tx N) N i) i))) (tw g a aT aX tr n fed tx (nI N) ln (tkF (tokDig (look tx N) N i) fa i) (tkT (tokDig (look tx N) N i) T c i ln)) 0 0 := by
  refine Ctr.start (cc := cX0_pastDigits) (maxL := 5) (ret := (some .int)) (by decide) rfl (Nat.le_of_ble_eq_true rfl) (lv0 := [(0, .ref (a 0)), (1, .int (nI i))]) rfl ?_
  intro X C F
  have C : Ok g X cX0_pastDigits RX0 wsX0_pastDigits ({ frames := 1, cells := 0, slots := 0, locals := 24 }) (some .int) 5 := C
  have hin : ∀ w ∈ wsX00, w ∈ wsX0_pastDigits := fun _ h => List.mem_cons_of_mem _ (List.mem_append_right _ h)
  have lc139 : Cond.constantLong RX0 139 (10) ∈ wsX0_pastDigits := by decide +kernel
  have lc141 : Cond.constantLong RX0 141 (2147483648) ∈ wsX0_pastDigits := by decide +kernel
  have lc149 : Cond.constantLong RX0 149 (2147483647) ∈ wsX0_pastDigits := by decide +kernel
  have lk39 : Cond.fieldLink RX0 39 "TokenRows" "textSize" "I" ∈ wsX0_pastDigits := by decide +kernel
  obtain ⟨e, he⟩ : ∃ e, e = scan (pDig (look tx N)) N i := ⟨_, rfl⟩
  have he1 : i ≤ e := by rw [he]; exact scan_ge _ _ _
  have he2 : e ≤ N := by rw [he]; exact scan_le (by omega)
  have hs : tokDig (look tx N) N i = if 2147483647 < dval (look tx N) i (e - i) then none else some (2, nI (dval (look tx N) i (e - i)), e) := by rw [he]; rfl
  have hcp := cap_le (dval (look tx N) i (e - i))
  have ex : G g X (0, 0) (tw g a aT aX tr n fed tx (nI N) ln fa T) 55 [(4, .int (nI e)), (2, .long (lN (cap (dval (look tx N) i (e - i))))), (0, .ref (a 0)), (1, .int (nI i))] [] := by
    refine g_lload_n C dX0_pastDigits_55 1 rfl ?_
    refine g_ldc2 C dX0_pastDigits_56 (v := 2147483647) lc149 ?_
    refine g_lcmp C dX0_pastDigits_59 ?_
    refine g_if_le C dX0_pastDigits_60 (tgt := 71) (by decide) (fun c1 => ?_) (fun c1 => ?_)
    · have hv := (cmp_le (by omega)).mp c1
      have hz : dval (look tx N) i (e - i) ≤ 2147483647 := by unfold cap at hv; split at hv <;> omega
      have hcv : cap (dval (look tx N) i (e - i)) = dval (look tx N) i (e - i) := if_pos (by omega)
      refine g_aload_n C dX0_pastDigits_71 2 rfl ?_
      refine g_iconst C dX0_pastDigits_72 (v := 2) (by decide) ?_
      refine g_lload_n C dX0_pastDigits_73 1 rfl ?_
      refine g_l2i C dX0_pastDigits_74 (v := nI (dval (look tx N) i (e - i))) (by rw [hcv, lN_i]) ?_
      refine g_iload_n C dX0_pastDigits_75 3 rfl ?_
      refine g_iload C dX0_pastDigits_76 0 rfl ?_
      refine g_callVi (n := 4) C (c_X0_keep g a aT aX tr n fed tx (nI N) ln fa T c hT hc 2 (nI (dval (look tx N) i (e - i))) (nI i) (nI e)) gX0_pastDigits_X0_keep rfl rfl rfl rfl (by decide) (by decide) rfl (Nat.le_of_ble_eq_true rfl) dX0_pastDigits_78 ?_
      exact g_iret C F (by rw [hs, if_neg (by omega)]; rfl) (by rw [hs, if_neg (by omega)]; rfl) dX0_pastDigits_81
    · have hv : ¬ cap (dval (look tx N) i (e - i)) ≤ 2147483647 := fun z => c1 ((cmp_le (by omega)).mpr z)
      have hz : 2147483647 < dval (look tx N) i (e - i) := by unfold cap at hv; split at hv <;> omega
      refine g_aload_n C dX0_pastDigits_63 2 rfl ?_
      refine g_iload_n C dX0_pastDigits_64 3 rfl ?_
      refine g_callVi (n := 1) C (c_X0_fail g a aT aX tr n fed tx (nI N) ln fa T (nI i)) gX0_pastDigits_X0_fail rfl rfl rfl rfl (by decide) (by decide) rfl (Nat.le_of_ble_eq_true rfl) dX0_pastDigits_65 ?_
      refine g_goto C dX0_pastDigits_68 (tgt := 81) (by decide) ?_
      exact g_iret C F (by rw [hs, if_pos hz]; rfl) (by rw [hs, if_pos hz]; rfl) dX0_pastDigits_81
  have loop : ∀ (k j : Nat), i ≤ j → j ≤ N → N + 1 ≤ j + k → scan (pDig (look tx N)) N j = e → G g X (0, 0) (tw g a aT aX tr n fed tx (nI N) ln fa T) 5 [(4, .int (nI j)), (2, .long (lN (cap (dval (look tx N) i (j - i))))), (0, .ref (a 0)), (1, .int (nI i))] [] := by
    intro k
    induction k with
    | zero => intro j h0 h1 h2 h3; omega
    | succ k ih =>
      intro j h0 h1 h2 h3
      refine g_iload C dX0_pastDigits_5 0 rfl ?_
      refine g_aload_n C dX0_pastDigits_7 2 rfl ?_
      refine g_get0 C hin 0 rfl 4 (by decide) lk39 rfl dX0_pastDigits_8 ?_
      refine g_icmp_ge C dX0_pastDigits_11 (tgt := 55) (by decide) (fun c2 => ?_) (fun c2 => ?_)
      · have hj := (nI_leI (by omega) (by omega)).mp c2
        rw [scan_end hj] at h3
        subst h3
        exact ex
      · have hj : j < N := Nat.not_le.mp (fun z => c2 (nI_le z (by omega)))
        refine g_aload_n C dX0_pastDigits_14 2 rfl ?_
        refine g_iload C dX0_pastDigits_15 0 rfl ?_
        refine g_callVi (n := 1) C (c_X0_byteAt g a aT aX tr n fed tx ln fa T N j hN (by omega)) gX0_pastDigits_X0_byteAt rfl rfl rfl rfl (by decide) (by decide) rfl (Nat.le_of_ble_eq_true rfl) dX0_pastDigits_17 ?_
        refine g_callSi (n := 1) C (c_X0_isDigit g (look tx N j)) gX0_pastDigits_X0_isDigit rfl rfl (by decide) (by decide) rfl (Nat.le_of_ble_eq_true rfl) dX0_pastDigits_20 ?_
        refine g_if_eq C dX0_pastDigits_23 (tgt := 55) (by decide) (fun c3 => ?_) (fun c3 => ?_)
        · rw [scan_stop (show pDig (look tx N) j = false from b01_0.mp c3)] at h3
          subst h3
          exact ex
        · have hdg := b01_1.mp c3
          rw [scan_step hj (show pDig (look tx N) j = true from hdg)] at h3
          refine g_lload_n C dX0_pastDigits_26 1 rfl ?_
          refine g_ldc2 C dX0_pastDigits_27 (v := 10) lc139 ?_
          refine g_lmul C dX0_pastDigits_30 ?_
          refine g_aload_n C dX0_pastDigits_31 2 rfl ?_
          refine g_iload C dX0_pastDigits_32 0 rfl ?_
          refine g_callVi (n := 1) C (c_X0_byteAt g a aT aX tr n fed tx ln fa T N j hN (by omega)) gX0_pastDigits_X0_byteAt rfl rfl rfl rfl (by decide) (by decide) rfl (Nat.le_of_ble_eq_true rfl) dX0_pastDigits_34 ?_
          refine g_bipush C dX0_pastDigits_37 (v := 48) (by decide) ?_
          refine g_isub C dX0_pastDigits_39 ?_
          refine g_i2l C dX0_pastDigits_40 (v := Int32.toInt64 ((look tx N j) - 48)) rfl ?_
          refine g_ladd C dX0_pastDigits_41 ?_
          refine g_ldc2 C dX0_pastDigits_42 (v := 2147483648) lc141 ?_
          refine g_minl (v := lN (cap (dval (look tx N) i (j + 1 - i)))) C (by decide +kernel) (by decide) (dig_step hdg h0) dX0_pastDigits_45 ?_
          refine g_lstore_n (lv' := [(2, .long (lN (cap (dval (look tx N) i (j + 1 - i))))), (4, .int (nI j)), (0, .ref (a 0)), (1, .int (nI i))]) C dX0_pastDigits_48 (by decide) rfl ?_
          refine g_iinc (o := 1) (v := nI (j + 1)) (lv' := [(4, .int (nI (j + 1))), (2, .long (lN (cap (dval (look tx N) i (j + 1 - i))))), (0, .ref (a 0)), (1, .int (nI i))]) C dX0_pastDigits_49 rfl (nI_add j 1) (by decide) rfl ?_
          refine g_goto C dX0_pastDigits_52 (tgt := 5) (by decide) ?_
          exact ih (j + 1) (by omega) (by omega) (by omega) h3
  refine g_lconst C dX0_pastDigits_0 (v := 0) (by decide) ?_
  refine g_lstore_n (lv' := [(2, .long 0), (0, .ref (a 0)), (1, .int (nI i))]) C dX0_pastDigits_1 (by decide) rfl ?_
  refine g_iload_n C dX0_pastDigits_2 2 rfl ?_
  refine g_istore (lv' := [(4, .int (nI i)), (2, .long 0), (0, .ref (a 0)), (1, .int (nI i))]) C dX0_pastDigits_3 (by decide) rfl ?_
  refine g_lv (lv' := [(4, .int (nI i)), (2, .long (lN (cap (dval (look tx N) i (i - i))))), (0, .ref (a 0)), (1, .int (nI i))]) (by rw [Nat.sub_self]; rfl) ?_
  exact loop (N + 1) i (by omega) (by omega) (by omega) he.symm
set_option maxHeartbeats 4000000 in
set_option maxRecDepth 100000 in
theorem c_X0_isHexNumber (g : Gl) (a : Nat → Nat) (aT aX : Nat) (tr : Nat → Int32) (n fed : Int32) (tx : Nat → Int32) (ln fa : Int32) (T : TK) (N i : Nat) (hN : N ≤ 16000) (hi : i < 2 ^ 28) : Ctr g yX0_isHexNumber wsX0_isHexNumber ({ frames := 2, cells := 0, slots := 0, locals := 40 }) [.ref (a 0), .int (nI i)] (tw g a aT aX tr n fed tx (nI N) ln fa T) (some (.int (b01 (bHex (look tx N) i)))) (tw g a aT aX tr n fed tx (nI N) ln fa T) 0 0 := by
  refine Ctr.start (cc := cX0_isHexNumber) (maxL := 2) (ret := (some .boolean)) (by decide) rfl (Nat.le_of_ble_eq_true rfl) (lv0 := [(0, .ref (a 0)), (1, .int (nI i))]) rfl ?_
  intro X C F
  have C : Ok g X cX0_isHexNumber RX0 wsX0_isHexNumber ({ frames := 2, cells := 0, slots := 0, locals := 40 }) (some .boolean) 2 := C
  have hin : ∀ w ∈ wsX00, w ∈ wsX0_isHexNumber := fun _ h => List.mem_cons_of_mem _ (List.mem_append_right _ h)
  refine g_aload_n C dX0_isHexNumber_0 0 rfl ?_
  refine g_iload_n C dX0_isHexNumber_1 1 rfl ?_
  refine g_callVi (n := 1) C (c_X0_byteAt g a aT aX tr n fed tx ln fa T N i hN (by omega)) gX0_isHexNumber_X0_byteAt rfl rfl rfl rfl (by decide) (by decide) rfl (Nat.le_of_ble_eq_true rfl) dX0_isHexNumber_2 ?_
  refine g_bipush C dX0_isHexNumber_5 (v := 48) (by decide) ?_
  refine g_icmp_ne C dX0_isHexNumber_7 (tgt := 39) (by decide) (fun c1 => ?_) (fun c1 => ?_)
  · refine g_iconst C dX0_isHexNumber_39 (v := 0) (by decide) ?_
    exact g_zret C F (by decide) ((b01_f (fun h => c1 h.1)).symm) (rfl) dX0_isHexNumber_40
  · refine g_aload_n C dX0_isHexNumber_10 0 rfl ?_
    refine g_iload_n C dX0_isHexNumber_11 1 rfl ?_
    refine g_iconst C dX0_isHexNumber_12 (v := 1) (by decide) ?_
    refine g_iadd C dX0_isHexNumber_13 ?_
    refine g_top (nI_add i 1) ?_
    refine g_callVi (n := 1) C (c_X0_byteAt g a aT aX tr n fed tx ln fa T N (i + 1) hN (by omega)) gX0_isHexNumber_X0_byteAt rfl rfl rfl rfl (by decide) (by decide) rfl (Nat.le_of_ble_eq_true rfl) dX0_isHexNumber_14 ?_
    refine g_bipush C dX0_isHexNumber_17 (v := 120) (by decide) ?_
    refine g_icmp_ne C dX0_isHexNumber_19 (tgt := 39) (by decide) (fun c2 => ?_) (fun c2 => ?_)
    · refine g_iconst C dX0_isHexNumber_39 (v := 0) (by decide) ?_
      exact g_zret C F (by decide) ((b01_f (fun h => c2 h.2.1)).symm) (rfl) dX0_isHexNumber_40
    · refine g_aload_n C dX0_isHexNumber_22 0 rfl ?_
      refine g_iload_n C dX0_isHexNumber_23 1 rfl ?_
      refine g_iconst C dX0_isHexNumber_24 (v := 2) (by decide) ?_
      refine g_iadd C dX0_isHexNumber_25 ?_
      refine g_top (nI_add i 2) ?_
      refine g_callVi (n := 1) C (c_X0_byteAt g a aT aX tr n fed tx ln fa T N (i + 2) hN (by omega)) gX0_isHexNumber_X0_byteAt rfl rfl rfl rfl (by decide) (by decide) rfl (Nat.le_of_ble_eq_true rfl) dX0_isHexNumber_26 ?_
      refine g_callSi (n := 1) C (c_X0_hexDigit g (look tx N (i + 2))) gX0_isHexNumber_X0_hexDigit rfl rfl (by decide) (by decide) rfl (Nat.le_of_ble_eq_true rfl) dX0_isHexNumber_29 ?_
      refine g_if_lt C dX0_isHexNumber_32 (tgt := 39) (by decide) (fun c3 => ?_) (fun c3 => ?_)
      · refine g_iconst C dX0_isHexNumber_39 (v := 0) (by decide) ?_
        exact g_zret C F (by decide) ((b01_f (fun h => by have := k_lt (b := 0) (by decide) c3; have := h.2.2; omega)).symm) (rfl) dX0_isHexNumber_40
      · refine g_iconst C dX0_isHexNumber_35 (v := 1) (by decide) ?_
        refine g_goto C dX0_isHexNumber_36 (tgt := 40) (by decide) ?_
        exact g_zret C F (by decide) ((b01_t ⟨c1, c2, k_nlt (b := 0) (by decide) c3⟩).symm) (rfl) dX0_isHexNumber_40
set_option maxHeartbeats 4000000 in
set_option maxRecDepth 100000 in
theorem c_X0_pastHexNumber (g : Gl) (a : Nat → Nat) (aT aX : Nat) (tr : Nat → Int32) (n fed : Int32) (tx : Nat → Int32) (ln fa : Int32) (T : TK) (N c i : Nat) (hN : N ≤ 16000) (hi : i < N) (hT : T.2.2.2.2.2 = nI c) (hc : c < 16000) (hi2 : i + 2 ≤ N) : Ctr g yX0_pastHexNumber wsX0_pastHexNumber ({ frames := 2, cells := 0, slots := 0, locals := 40 }) [.ref (a 0), .int (nI i)] (tw g a aT aX tr n fed tx (nI N) ln fa T) (some (.int (tkR (tokHex (look tx N) N i) i))) (tw g a aT aX tr n fed tx (nI N) ln (tkF (tokHex (look tx N) N i) fa i) (tkT (tokHex (look tx N) N i) T c i ln)) 0 0 := by
  refine Ctr.start (cc := cX0_pastHexNumber) (maxL := 4) (ret := (some .int)) (by decide) rfl (Nat.le_of_ble_eq_true rfl) (lv0 := [(0, .ref (a 0)), (1, .int (nI i))]) rfl ?_
  intro X C F
  have C : Ok g X cX0_pastHexNumber RX0 wsX0_pastHexNumber ({ frames := 2, cells := 0, slots := 0, locals := 40 }) (some .int) 4 := C
  have hin : ∀ w ∈ wsX00, w ∈ wsX0_pastHexNumber := fun _ h => List.mem_cons_of_mem _ (List.mem_append_right _ h)
  have lk39 : Cond.fieldLink RX0 39 "TokenRows" "textSize" "I" ∈ wsX0_pastHexNumber := by decide +kernel
  obtain ⟨e, he⟩ : ∃ e, e = scan (pHex (look tx N)) N (i + 2) := ⟨_, rfl⟩
  have he1 : i + 2 ≤ e := by rw [he]; exact scan_ge _ _ _
  have he2 : e ≤ N := by rw [he]; exact scan_le (by omega)
  have hs : tokHex (look tx N) N i = if 8 < e - i - 2 then none else some (2, hval (look tx N) (i + 2) (e - (i + 2)), e) := by rw [he]; rfl
  have ex : G g X (0, 0) (tw g a aT aX tr n fed tx (nI N) ln fa T) 44 [(3, .int (nI e)), (2, .int (hval (look tx N) (i + 2) (e - (i + 2)))), (0, .ref (a 0)), (1, .int (nI i))] [] := by
    refine g_iload_n C dX0_pastHexNumber_44 0 rfl ?_
    refine g_iload_n C dX0_pastHexNumber_45 3 rfl ?_
    refine g_isub C dX0_pastHexNumber_46 ?_
    refine g_top (y := nI (e - i)) (nI_subI (b := i) (by omega)) ?_
    refine g_iconst C dX0_pastHexNumber_47 (v := 2) (by decide) ?_
    refine g_isub C dX0_pastHexNumber_48 ?_
    refine g_top (y := nI (e - i - 2)) (nI_subI (b := 2) (by omega)) ?_
    refine g_bipush C dX0_pastHexNumber_49 (v := 8) (by decide) ?_
    refine g_icmp_le C dX0_pastHexNumber_51 (tgt := 62) (by decide) (fun c1 => ?_) (fun c1 => ?_)
    · have hz : e - i - 2 ≤ 8 := (nI_leI (b := 8) (by omega) (by omega)).mp c1
      refine g_aload_n C dX0_pastHexNumber_62 2 rfl ?_
      refine g_iconst C dX0_pastHexNumber_63 (v := 2) (by decide) ?_
      refine g_iload_n C dX0_pastHexNumber_64 1 rfl ?_
      refine g_iload_n C dX0_pastHexNumber_65 3 rfl ?_
      refine g_iload_n C dX0_pastHexNumber_66 0 rfl ?_
      refine g_callVi (n := 4) C (c_X0_keep g a aT aX tr n fed tx (nI N) ln fa T c hT hc 2 (hval (look tx N) (i + 2) (e - (i + 2))) (nI i) (nI e)) gX0_pastHexNumber_X0_keep rfl rfl rfl rfl (by decide) (by decide) rfl (Nat.le_of_ble_eq_true rfl) dX0_pastHexNumber_67 ?_
      exact g_iret C F (by rw [hs, if_neg (by omega)]; rfl) (by rw [hs, if_neg (by omega)]; rfl) dX0_pastHexNumber_70
    · have hz : 8 < e - i - 2 := Nat.not_le.mp (fun z => c1 (nI_le (b := 8) z (by omega)))
      refine g_aload_n C dX0_pastHexNumber_54 2 rfl ?_
      refine g_iload_n C dX0_pastHexNumber_55 3 rfl ?_
      refine g_callVi (n := 1) C (c_X0_fail g a aT aX tr n fed tx (nI N) ln fa T (nI i)) gX0_pastHexNumber_X0_fail rfl rfl rfl rfl (by decide) (by decide) rfl (Nat.le_of_ble_eq_true rfl) dX0_pastHexNumber_56 ?_
      refine g_goto C dX0_pastHexNumber_59 (tgt := 70) (by decide) ?_
      exact g_iret C F (by rw [hs, if_pos hz]; rfl) (by rw [hs, if_pos hz]; rfl) dX0_pastHexNumber_70
  have loop : ∀ (k j : Nat), i + 2 ≤ j → j ≤ N → N + 1 ≤ j + k → scan (pHex (look tx N)) N j = e → G g X (0, 0) (tw g a aT aX tr n fed tx (nI N) ln fa T) 6 [(3, .int (nI j)), (2, .int (hval (look tx N) (i + 2) (j - (i + 2)))), (0, .ref (a 0)), (1, .int (nI i))] [] := by
    intro k
    induction k with
    | zero => intro j h0 h1 h2 h3; omega
    | succ k ih =>
      intro j h0 h1 h2 h3
      refine g_iload_n C dX0_pastHexNumber_6 0 rfl ?_
      refine g_aload_n C dX0_pastHexNumber_7 2 rfl ?_
      refine g_get0 C hin 0 rfl 4 (by decide) lk39 rfl dX0_pastHexNumber_8 ?_
      refine g_icmp_ge C dX0_pastHexNumber_11 (tgt := 44) (by decide) (fun c2 => ?_) (fun c2 => ?_)
      · have hj := (nI_leI (by omega) (by omega)).mp c2
        rw [scan_end hj] at h3
        subst h3
        exact ex
      · have hj : j < N := Nat.not_le.mp (fun z => c2 (nI_le z (by omega)))
        refine g_aload_n C dX0_pastHexNumber_14 2 rfl ?_
        refine g_iload_n C dX0_pastHexNumber_15 0 rfl ?_
        refine g_callVi (n := 1) C (c_X0_byteAt g a aT aX tr n fed tx ln fa T N j hN (by omega)) gX0_pastHexNumber_X0_byteAt rfl rfl rfl rfl (by decide) (by decide) rfl (Nat.le_of_ble_eq_true rfl) dX0_pastHexNumber_16 ?_
        refine g_callSi (n := 1) C (c_X0_hexDigit g (look tx N j)) gX0_pastHexNumber_X0_hexDigit rfl rfl (by decide) (by decide) rfl (Nat.le_of_ble_eq_true rfl) dX0_pastHexNumber_19 ?_
        refine g_if_lt C dX0_pastHexNumber_22 (tgt := 44) (by decide) (fun c3 => ?_) (fun c3 => ?_)
        · have hq := k_lt (b := 0) (by decide) c3
          rw [scan_stop (show pHex (look tx N) j = false from decide_eq_false (by omega))] at h3
          subst h3
          exact ex
        · have hq := k_nlt (b := 0) (by decide) c3
          rw [scan_step hj (show pHex (look tx N) j = true from decide_eq_true hq)] at h3
          refine g_iload_n C dX0_pastHexNumber_25 1 rfl ?_
          refine g_iconst C dX0_pastHexNumber_26 (v := 4) (by decide) ?_
          refine g_ishl C dX0_pastHexNumber_27 ?_
          refine g_aload_n C dX0_pastHexNumber_28 2 rfl ?_
          refine g_iload_n C dX0_pastHexNumber_29 0 rfl ?_
          refine g_callVi (n := 1) C (c_X0_byteAt g a aT aX tr n fed tx ln fa T N j hN (by omega)) gX0_pastHexNumber_X0_byteAt rfl rfl rfl rfl (by decide) (by decide) rfl (Nat.le_of_ble_eq_true rfl) dX0_pastHexNumber_30 ?_
          refine g_callSi (n := 1) C (c_X0_hexDigit g (look tx N j)) gX0_pastHexNumber_X0_hexDigit rfl rfl (by decide) (by decide) rfl (Nat.le_of_ble_eq_true rfl) dX0_pastHexNumber_33 ?_
          refine g_ior C dX0_pastHexNumber_36 ?_
          refine g_top (y := hval (look tx N) (i + 2) (j + 1 - (i + 2))) (by rw [show j + 1 - (i + 2) = (j - (i + 2)) + 1 by omega, hval, show i + 2 + (j - (i + 2)) = j by omega]) ?_
          refine g_istore_n (lv' := [(2, .int (hval (look tx N) (i + 2) (j + 1 - (i + 2)))), (3, .int (nI j)), (0, .ref (a 0)), (1, .int (nI i))]) C dX0_pastHexNumber_37 (by decide) rfl ?_
          refine g_iinc (o := 1) (v := nI (j + 1)) (lv' := [(3, .int (nI (j + 1))), (2, .int (hval (look tx N) (i + 2) (j + 1 - (i + 2)))), (0, .ref (a 0)), (1, .int (nI i))]) C dX0_pastHexNumber_38 rfl (nI_add j 1) (by decide) rfl ?_
          refine g_goto C dX0_pastHexNumber_41 (tgt := 6) (by decide) ?_
          exact ih (j + 1) (by omega) (by omega) (by omega) h3
  refine g_iconst C dX0_pastHexNumber_0 (v := 0) (by decide) ?_
  refine g_istore_n (lv' := [(2, .int 0), (0, .ref (a 0)), (1, .int (nI i))]) C dX0_pastHexNumber_1 (by decide) rfl ?_
  refine g_iload_n C dX0_pastHexNumber_2 2 rfl ?_
  refine g_iconst C dX0_pastHexNumber_3 (v := 2) (by decide) ?_
  refine g_iadd C dX0_pastHexNumber_4 ?_
  refine g_top (nI_add i 2) ?_
  refine g_istore_n (lv' := [(3, .int (nI (i + 2))), (2, .int 0), (0, .ref (a 0)), (1, .int (nI i))]) C dX0_pastHexNumber_5 (by decide) rfl ?_
  refine g_lv (lv' := [(3, .int (nI (i + 2))), (2, .int (hval (look tx N) (i + 2) (i + 2 - (i + 2)))), (0, .ref (a 0)), (1, .int (nI i))]) (by rw [Nat.sub_self]; rfl) ?_
  exact loop (N + 1) (i + 2) (by omega) (by omega) (by omega) he.symm
set_option maxHeartbeats 4000000 in
set_option maxRecDepth 100000 in
theorem c_X0_pastQuotedCode (g : Gl) (a : Nat → Nat) (aT aX : Nat) (tr : Nat → Int32) (n fed : Int32) (tx : Nat → Int32) (ln fa : Int32) (T : TK) (N c i : Nat) (hN : N ≤ 16000) (hi : i < N) (hT : T.2.2.2.2.2 = nI c) (hc : c < 16000) : Ctr g yX0_pastQuotedCode wsX0_pastQuotedCode ({ frames := 2, cells := 0, slots := 0, locals := 44 }) [.ref (a 0), .int (nI i)] (tw g a aT aX tr n fed tx (nI N) ln fa T) (some (.int (tkR (tokQuo (look tx N) i) i))) (tw g a aT aX tr n fed tx (nI N) ln (tkF (tokQuo (look tx N) i) fa i) (tkT (tokQuo (look tx N) i) T c i ln)) 0 0 := by
  refine Ctr.start (cc := cX0_pastQuotedCode) (maxL := 4) (ret := (some .int)) (by decide) rfl (Nat.le_of_ble_eq_true rfl) (lv0 := [(0, .ref (a 0)), (1, .int (nI i))]) rfl ?_
  intro X C F
  have C : Ok g X cX0_pastQuotedCode RX0 wsX0_pastQuotedCode ({ frames := 2, cells := 0, slots := 0, locals := 44 }) (some .int) 4 := C
  have hin : ∀ w ∈ wsX00, w ∈ wsX0_pastQuotedCode := fun _ h => List.mem_cons_of_mem _ (List.mem_append_right _ h)
  obtain ⟨w, hw⟩ : ∃ w, w = cwd (look tx N) (i + 1) 39 := ⟨_, rfl⟩
  have hw2 : w ≤ 2 := by rw [hw]; exact cwd_le _ _ _
  have hs : tokQuo (look tx N) i = if w = 0 then none else if look tx N (i + 1 + w) = 39 then some (2, cat (look tx N) (i + 1), i + 1 + w + 1) else none := by rw [hw]; rfl
  refine g_aload_n C dX0_pastQuotedCode_0 0 rfl ?_
  refine g_iload_n C dX0_pastQuotedCode_1 1 rfl ?_
  refine g_iconst C dX0_pastQuotedCode_2 (v := 1) (by decide) ?_
  refine g_iadd C dX0_pastQuotedCode_3 ?_
  refine g_top (nI_add i 1) ?_
  refine g_bipush C dX0_pastQuotedCode_4 (v := 39) (by decide) ?_
  refine g_callVi (n := 2) C (c_X0_codeWidth g a aT aX tr n fed tx ln fa T N (i + 1) hN (by omega) 39) gX0_pastQuotedCode_X0_codeWidth rfl rfl rfl rfl (by decide) (by decide) rfl (Nat.le_of_ble_eq_true rfl) dX0_pastQuotedCode_6 ?_
  refine g_top (y := nI w) (by rw [hw]) ?_
  refine g_istore_n (lv' := [(2, .int (nI w)), (0, .ref (a 0)), (1, .int (nI i))]) C dX0_pastQuotedCode_9 (by decide) rfl ?_
  refine g_iload_n C dX0_pastQuotedCode_10 2 rfl ?_
  refine g_iconst C dX0_pastQuotedCode_11 (v := 1) (by decide) ?_
  refine g_iadd C dX0_pastQuotedCode_12 ?_
  refine g_top (nI_add i 1) ?_
  refine g_iload_n C dX0_pastQuotedCode_13 0 rfl ?_
  refine g_iadd C dX0_pastQuotedCode_14 ?_
  refine g_top (nI_add (i + 1) w) ?_
  refine g_istore_n (lv' := [(3, .int (nI (i + 1 + w))), (2, .int (nI w)), (0, .ref (a 0)), (1, .int (nI i))]) C dX0_pastQuotedCode_15 (by decide) rfl ?_
  refine g_iload_n C dX0_pastQuotedCode_16 1 rfl ?_
  refine g_if_eq C dX0_pastQuotedCode_17 (tgt := 30) (by decide) (fun c1 => ?_) (fun c1 => ?_)
  · have hz : w = 0 := (nI_eq (b := 0) (by omega) (by omega)).mp c1
    refine g_aload_n C dX0_pastQuotedCode_30 2 rfl ?_
    refine g_iload_n C dX0_pastQuotedCode_31 3 rfl ?_
    refine g_callVi (n := 1) C (c_X0_fail g a aT aX tr n fed tx (nI N) ln fa T (nI i)) gX0_pastQuotedCode_X0_fail rfl rfl rfl rfl (by decide) (by decide) rfl (Nat.le_of_ble_eq_true rfl) dX0_pastQuotedCode_32 ?_
    exact g_iret C F (by rw [hs, if_pos hz]; rfl) (by rw [hs, if_pos hz]; rfl) dX0_pastQuotedCode_35
  · have hz : ¬ w = 0 := fun z => c1 (by rw [z]; rfl)
    refine g_aload_n C dX0_pastQuotedCode_20 2 rfl ?_
    refine g_iload_n C dX0_pastQuotedCode_21 0 rfl ?_
    refine g_callVi (n := 1) C (c_X0_byteAt g a aT aX tr n fed tx ln fa T N (i + 1 + w) hN (by omega)) gX0_pastQuotedCode_X0_byteAt rfl rfl rfl rfl (by decide) (by decide) rfl (Nat.le_of_ble_eq_true rfl) dX0_pastQuotedCode_22 ?_
    refine g_bipush C dX0_pastQuotedCode_25 (v := 39) (by decide) ?_
    refine g_icmp_eq C dX0_pastQuotedCode_27 (tgt := 36) (by decide) (fun c2 => ?_) (fun c2 => ?_)
    · refine g_aload_n C dX0_pastQuotedCode_36 2 rfl ?_
      refine g_iconst C dX0_pastQuotedCode_37 (v := 2) (by decide) ?_
      refine g_aload_n C dX0_pastQuotedCode_38 2 rfl ?_
      refine g_iload_n C dX0_pastQuotedCode_39 3 rfl ?_
      refine g_iconst C dX0_pastQuotedCode_40 (v := 1) (by decide) ?_
      refine g_iadd C dX0_pastQuotedCode_41 ?_
      refine g_top (nI_add i 1) ?_
      refine g_callVi (n := 1) C (c_X0_codeAt g a aT aX tr n fed tx ln fa T N (i + 1) hN (by omega)) gX0_pastQuotedCode_X0_codeAt rfl rfl rfl rfl (by decide) (by decide) rfl (Nat.le_of_ble_eq_true rfl) dX0_pastQuotedCode_42 ?_
      refine g_iload_n C dX0_pastQuotedCode_45 3 rfl ?_
      refine g_iload_n C dX0_pastQuotedCode_46 0 rfl ?_
      refine g_iconst C dX0_pastQuotedCode_47 (v := 1) (by decide) ?_
      refine g_iadd C dX0_pastQuotedCode_48 ?_
      refine g_top (nI_add (i + 1 + w) 1) ?_
      refine g_callVi (n := 4) C (c_X0_keep g a aT aX tr n fed tx (nI N) ln fa T c hT hc 2 (cat (look tx N) (i + 1)) (nI i) (nI (i + 1 + w + 1))) gX0_pastQuotedCode_X0_keep rfl rfl rfl rfl (by decide) (by decide) rfl (Nat.le_of_ble_eq_true rfl) dX0_pastQuotedCode_49 ?_
      exact g_iret C F (by rw [hs, if_neg hz, if_pos c2]; rfl) (by rw [hs, if_neg hz, if_pos c2]; rfl) dX0_pastQuotedCode_52
    · refine g_aload_n C dX0_pastQuotedCode_30 2 rfl ?_
      refine g_iload_n C dX0_pastQuotedCode_31 3 rfl ?_
      refine g_callVi (n := 1) C (c_X0_fail g a aT aX tr n fed tx (nI N) ln fa T (nI i)) gX0_pastQuotedCode_X0_fail rfl rfl rfl rfl (by decide) (by decide) rfl (Nat.le_of_ble_eq_true rfl) dX0_pastQuotedCode_32 ?_
      exact g_iret C F (by rw [hs, if_neg hz, if_neg c2]; rfl) (by rw [hs, if_neg hz, if_neg c2]; rfl) dX0_pastQuotedCode_35
set_option maxHeartbeats 4000000 in
set_option maxRecDepth 100000 in
theorem c_X0_pastString (g : Gl) (a : Nat → Nat) (aT aX : Nat) (tr : Nat → Int32) (n fed : Int32) (tx : Nat → Int32) (ln fa : Int32) (T : TK) (N c i : Nat) (hN : N ≤ 16000) (hi : i < N) (hT : T.2.2.2.2.2 = nI c) (hc : c < 16000) : Ctr g yX0_pastString wsX0_pastString ({ frames := 2, cells := 0, slots := 0, locals := 44 }) [.ref (a 0), .int (nI i)] (tw g a aT aX tr n fed tx (nI N) ln fa T) (some (.int (tkR (tokStr (look tx N) i) i))) (tw g a aT aX tr n fed tx (nI N) ln (tkF (tokStr (look tx N) i) fa i) (tkT (tokStr (look tx N) i) T c i ln)) 0 0 := by
  refine Ctr.start (cc := cX0_pastString) (maxL := 5) (ret := (some .int)) (by decide) rfl (Nat.le_of_ble_eq_true rfl) (lv0 := [(0, .ref (a 0)), (1, .int (nI i))]) rfl ?_
  intro X C F
  have C : Ok g X cX0_pastString RX0 wsX0_pastString ({ frames := 2, cells := 0, slots := 0, locals := 44 }) (some .int) 5 := C
  have hin : ∀ w ∈ wsX00, w ∈ wsX0_pastString := fun _ h => List.mem_cons_of_mem _ (List.mem_append_right _ h)
  obtain ⟨o, ho⟩ : ∃ o, o = tokStr (look tx N) i := ⟨_, rfl⟩
  rw [← ho] at F
  have loop : ∀ (f k p : Nat), k + f = 201 → p ≤ i + 1 + 2 * k → sgo (look tx N) f k p = o → G g X (0, 0) (tw g a aT aX tr n fed tx (nI N) ln fa T) 6 [(3, .int (nI k)), (2, .int (nI p)), (0, .ref (a 0)), (1, .int (nI i))] [] := by
    intro f
    induction f with
    | zero =>
      intro k p h1 h2 h3
      have hk : k = 201 := by omega
      subst hk
      have h3 : none = o := h3
      refine g_iload_n C dX0_pastString_6 0 rfl ?_
      refine g_sipush C dX0_pastString_7 (v := 200) (by decide) ?_
      refine g_icmp_gt C dX0_pastString_10 (tgt := 65) (by decide) (fun c1 => ?_) (fun c1 => ?_)
      · refine g_aload_n C dX0_pastString_65 2 rfl ?_
        refine g_iload_n C dX0_pastString_66 3 rfl ?_
        refine g_callVi (n := 1) C (c_X0_fail g a aT aX tr n fed tx (nI N) ln fa T (nI i)) gX0_pastString_X0_fail rfl rfl rfl rfl (by decide) (by decide) rfl (Nat.le_of_ble_eq_true rfl) dX0_pastString_67 ?_
        exact g_iret C F (by rw [← h3]; rfl) (by rw [← h3]; rfl) dX0_pastString_70
      · exact absurd (show (200 : Int32) < nI 201 by decide) c1
    | succ f ih =>
      intro k p h1 h2 h3
      refine g_iload_n C dX0_pastString_6 0 rfl ?_
      refine g_sipush C dX0_pastString_7 (v := 200) (by decide) ?_
      refine g_icmp_gt C dX0_pastString_10 (tgt := 65) (by decide) (fun c2 => ?_) (fun c2 => ?_)
      · exact absurd c2 (nI_nlt (a := 200) (b := k) (by omega) (by omega))
      · refine g_aload_n C dX0_pastString_13 2 rfl ?_
        refine g_iload_n C dX0_pastString_14 1 rfl ?_
        refine g_callVi (n := 1) C (c_X0_byteAt g a aT aX tr n fed tx ln fa T N p hN (by omega)) gX0_pastString_X0_byteAt rfl rfl rfl rfl (by decide) (by decide) rfl (Nat.le_of_ble_eq_true rfl) dX0_pastString_15 ?_
        refine g_bipush C dX0_pastString_18 (v := 34) (by decide) ?_
        refine g_icmp_ne C dX0_pastString_20 (tgt := 34) (by decide) (fun c3 => ?_) (fun c3 => ?_)
        · obtain ⟨w, hw⟩ : ∃ w, w = cwd (look tx N) p 34 := ⟨_, rfl⟩
          have hw2 : w ≤ 2 := by rw [hw]; exact cwd_le _ _ _
          rw [sgo, if_neg c3, ← hw] at h3
          refine g_aload_n C dX0_pastString_34 2 rfl ?_
          refine g_iload_n C dX0_pastString_35 1 rfl ?_
          refine g_bipush C dX0_pastString_36 (v := 34) (by decide) ?_
          refine g_callVi (n := 2) C (c_X0_codeWidth g a aT aX tr n fed tx ln fa T N p hN (by omega) 34) gX0_pastString_X0_codeWidth rfl rfl rfl rfl (by decide) (by decide) rfl (Nat.le_of_ble_eq_true rfl) dX0_pastString_38 ?_
          refine g_top (y := nI w) (by rw [hw]) ?_
          refine g_istore (lv' := [(4, .int (nI w)), (3, .int (nI k)), (2, .int (nI p)), (0, .ref (a 0)), (1, .int (nI i))]) C dX0_pastString_41 (by decide) rfl ?_
          refine g_iload C dX0_pastString_43 0 rfl ?_
          refine g_if_ne C dX0_pastString_45 (tgt := 54) (by decide) (fun c4 => ?_) (fun c4 => ?_)
          · rw [if_neg (fun z => c4 (by rw [z]; rfl))] at h3
            refine g_iload_n C dX0_pastString_54 2 rfl ?_
            refine g_iload C dX0_pastString_55 0 rfl ?_
            refine g_iadd C dX0_pastString_57 ?_
            refine g_top (nI_add p w) ?_
            refine g_istore_n (lv' := [(2, .int (nI (p + w))), (4, .int (nI w)), (3, .int (nI k)), (0, .ref (a 0)), (1, .int (nI i))]) C dX0_pastString_58 (by decide) rfl ?_
            refine g_iinc (o := 2) (v := nI (k + 1)) (lv' := [(3, .int (nI (k + 1))), (2, .int (nI (p + w))), (4, .int (nI w)), (0, .ref (a 0)), (1, .int (nI i))]) C dX0_pastString_59 rfl (nI_add k 1) (by decide) rfl ?_
            refine g_goto C dX0_pastString_62 (tgt := 6) (by decide) ?_
            refine g_sub [0, 1, 3, 4] rfl ?_
            exact ih (k + 1) (p + w) (by omega) (by omega) h3
          · have hz : w = 0 := (nI_eq (b := 0) (by omega) (by omega)).mp c4
            rw [if_pos hz] at h3
            refine g_aload_n C dX0_pastString_48 3 rfl ?_
            refine g_iload_n C dX0_pastString_49 4 rfl ?_
            refine g_callVi (n := 1) C (c_X0_fail g a aT aX tr n fed tx (nI N) ln fa T (nI i)) gX0_pastString_X0_fail rfl rfl rfl rfl (by decide) (by decide) rfl (Nat.le_of_ble_eq_true rfl) dX0_pastString_50 ?_
            exact g_iret C F (by rw [← h3]; rfl) (by rw [← h3]; rfl) dX0_pastString_53
        · rw [sgo, if_pos c3] at h3
          refine g_aload_n C dX0_pastString_23 2 rfl ?_
          refine g_iconst C dX0_pastString_24 (v := 3) (by decide) ?_
          refine g_iload_n C dX0_pastString_25 0 rfl ?_
          refine g_iload_n C dX0_pastString_26 3 rfl ?_
          refine g_iload_n C dX0_pastString_27 1 rfl ?_
          refine g_iconst C dX0_pastString_28 (v := 1) (by decide) ?_
          refine g_iadd C dX0_pastString_29 ?_
          refine g_top (nI_add p 1) ?_
          refine g_callVi (n := 4) C (c_X0_keep g a aT aX tr n fed tx (nI N) ln fa T c hT hc 3 (nI k) (nI i) (nI (p + 1))) gX0_pastString_X0_keep rfl rfl rfl rfl (by decide) (by decide) rfl (Nat.le_of_ble_eq_true rfl) dX0_pastString_30 ?_
          exact g_iret C F (by rw [← h3]; rfl) (by rw [← h3]; rfl) dX0_pastString_33
  refine g_iload_n C dX0_pastString_0 1 rfl ?_
  refine g_iconst C dX0_pastString_1 (v := 1) (by decide) ?_
  refine g_iadd C dX0_pastString_2 ?_
  refine g_top (nI_add i 1) ?_
  refine g_istore_n (lv' := [(2, .int (nI (i + 1))), (0, .ref (a 0)), (1, .int (nI i))]) C dX0_pastString_3 (by decide) rfl ?_
  refine g_iconst C dX0_pastString_4 (v := 0) (by decide) ?_
  refine g_istore_n (lv' := [(3, .int 0), (2, .int (nI (i + 1))), (0, .ref (a 0)), (1, .int (nI i))]) C dX0_pastString_5 (by decide) rfl ?_
  exact loop 201 0 (i + 1) (by omega) (by omega) ho.symm
set_option maxHeartbeats 4000000 in
set_option maxRecDepth 100000 in
theorem c_X0_pastSign (g : Gl) (a : Nat → Nat) (aT aX : Nat) (tr : Nat → Int32) (n fed : Int32) (tx : Nat → Int32) (ln fa : Int32) (T : TK) (N c i : Nat) (hN : N ≤ 16000) (hi : i < N) (hT : T.2.2.2.2.2 = nI c) (hc : c < 16000) : Ctr g yX0_pastSign wsX0_pastSign ({ frames := 2, cells := 0, slots := 0, locals := 41 }) [.ref (a 0), .int (nI i)] (tw g a aT aX tr n fed tx (nI N) ln fa T) (some (.int (tkR (tokSgn (look tx N) i) i))) (tw g a aT aX tr n fed tx (nI N) ln (tkF (tokSgn (look tx N) i) fa i) (tkT (tokSgn (look tx N) i) T c i ln)) 0 0 := by
  refine Ctr.start (cc := cX0_pastSign) (maxL := 7) (ret := (some .int)) (by decide) rfl (Nat.le_of_ble_eq_true rfl) (lv0 := [(0, .ref (a 0)), (1, .int (nI i))]) rfl ?_
  intro X C F
  have C : Ok g X cX0_pastSign RX0 wsX0_pastSign ({ frames := 2, cells := 0, slots := 0, locals := 41 }) (some .int) 7 := C
  have hin : ∀ w ∈ wsX00, w ∈ wsX0_pastSign := fun _ h => List.mem_cons_of_mem _ (List.mem_append_right _ h)
  refine g_aload_n C dX0_pastSign_0 0 rfl ?_
  refine g_iload_n C dX0_pastSign_1 1 rfl ?_
  refine g_callVi (n := 1) C (c_X0_byteAt g a aT aX tr n fed tx ln fa T N i hN (by omega)) gX0_pastSign_X0_byteAt rfl rfl rfl rfl (by decide) (by decide) rfl (Nat.le_of_ble_eq_true rfl) dX0_pastSign_2 ?_
  refine g_istore_n (lv' := [(2, .int (look tx N i)), (0, .ref (a 0)), (1, .int (nI i))]) C dX0_pastSign_5 (by decide) rfl ?_
  refine g_aload_n C dX0_pastSign_6 1 rfl ?_
  refine g_iload_n C dX0_pastSign_7 2 rfl ?_
  refine g_iconst C dX0_pastSign_8 (v := 1) (by decide) ?_
  refine g_iadd C dX0_pastSign_9 ?_
  refine g_top (nI_add i 1) ?_
  refine g_callVi (n := 1) C (c_X0_byteAt g a aT aX tr n fed tx ln fa T N (i + 1) hN (by omega)) gX0_pastSign_X0_byteAt rfl rfl rfl rfl (by decide) (by decide) rfl (Nat.le_of_ble_eq_true rfl) dX0_pastSign_10 ?_
  refine g_istore_n (lv' := [(3, .int (look tx N (i + 1))), (2, .int (look tx N i)), (0, .ref (a 0)), (1, .int (nI i))]) C dX0_pastSign_13 (by decide) rfl ?_
  refine g_iload_n C dX0_pastSign_14 1 rfl ?_
  refine g_iload_n C dX0_pastSign_15 0 rfl ?_
  refine g_aload_n C dX0_pastSign_16 2 rfl ?_
  refine g_iload_n C dX0_pastSign_17 3 rfl ?_
  refine g_iconst C dX0_pastSign_18 (v := 2) (by decide) ?_
  refine g_iadd C dX0_pastSign_19 ?_
  refine g_top (nI_add i 2) ?_
  refine g_callVi (n := 1) C (c_X0_byteAt g a aT aX tr n fed tx ln fa T N (i + 2) hN (by omega)) gX0_pastSign_X0_byteAt rfl rfl rfl rfl (by decide) (by decide) rfl (Nat.le_of_ble_eq_true rfl) dX0_pastSign_20 ?_
  refine g_callSi (n := 3) C (c_X0_signOfThree g (look tx N i) (look tx N (i + 1)) (look tx N (i + 2))) gX0_pastSign_X0_signOfThree rfl rfl (by decide) (by decide) rfl (Nat.le_of_ble_eq_true rfl) dX0_pastSign_23 ?_
  refine g_istore (lv' := [(4, .int (sg3 (look tx N i) (look tx N (i + 1)) (look tx N (i + 2)))), (3, .int (look tx N (i + 1))), (2, .int (look tx N i)), (0, .ref (a 0)), (1, .int (nI i))]) C dX0_pastSign_26 (by decide) rfl ?_
  refine g_iload C dX0_pastSign_28 0 rfl ?_
  refine g_if_lt C dX0_pastSign_30 (tgt := 45) (by decide) (fun c1 => ?_) (fun c1 => ?_)
  · refine g_iload_n C dX0_pastSign_45 2 rfl ?_
    refine g_iload_n C dX0_pastSign_46 1 rfl ?_
    refine g_callSi (n := 2) C (c_X0_signOfTwo g (look tx N i) (look tx N (i + 1))) gX0_pastSign_X0_signOfTwo rfl rfl (by decide) (by decide) rfl (Nat.le_of_ble_eq_true rfl) dX0_pastSign_47 ?_
    refine g_istore (lv' := [(5, .int (sg2 (look tx N i) (look tx N (i + 1)))), (4, .int (sg3 (look tx N i) (look tx N (i + 1)) (look tx N (i + 2)))), (3, .int (look tx N (i + 1))), (2, .int (look tx N i)), (0, .ref (a 0)), (1, .int (nI i))]) C dX0_pastSign_50 (by decide) rfl ?_
    refine g_iload C dX0_pastSign_52 0 rfl ?_
    refine g_if_lt C dX0_pastSign_54 (tgt := 69) (by decide) (fun c2 => ?_) (fun c2 => ?_)
    · refine g_iload_n C dX0_pastSign_69 3 rfl ?_
      refine g_callSi (n := 1) C (c_X0_signOfOne g (look tx N i)) gX0_pastSign_X0_signOfOne rfl rfl (by decide) (by decide) rfl (Nat.le_of_ble_eq_true rfl) dX0_pastSign_70 ?_
      refine g_istore (lv' := [(6, .int (sg1 (look tx N i))), (5, .int (sg2 (look tx N i) (look tx N (i + 1)))), (4, .int (sg3 (look tx N i) (look tx N (i + 1)) (look tx N (i + 2)))), (3, .int (look tx N (i + 1))), (2, .int (look tx N i)), (0, .ref (a 0)), (1, .int (nI i))]) C dX0_pastSign_73 (by decide) rfl ?_
      refine g_iload C dX0_pastSign_75 0 rfl ?_
      refine g_if_lt C dX0_pastSign_77 (tgt := 94) (by decide) (fun c3 => ?_) (fun c3 => ?_)
      · refine g_aload_n C dX0_pastSign_94 5 rfl ?_
        refine g_iload_n C dX0_pastSign_95 6 rfl ?_
        refine g_callVi (n := 1) C (c_X0_fail g a aT aX tr n fed tx (nI N) ln fa T (nI i)) gX0_pastSign_X0_fail rfl rfl rfl rfl (by decide) (by decide) rfl (Nat.le_of_ble_eq_true rfl) dX0_pastSign_96 ?_
        have c1 := k_lt (b := 0) (by decide) c1
        have c2 := k_lt (b := 0) (by decide) c2
        have c3 := k_lt (b := 0) (by decide) c3
        exact g_iret C F (by unfold tokSgn; rw [if_neg (by omega), if_neg (by omega), if_neg (by omega)]; rfl) (by unfold tokSgn; rw [if_neg (by omega), if_neg (by omega), if_neg (by omega)]; rfl) dX0_pastSign_99
      · refine g_aload_n C dX0_pastSign_80 5 rfl ?_
        refine g_iconst C dX0_pastSign_81 (v := 5) (by decide) ?_
        refine g_iload C dX0_pastSign_82 0 rfl ?_
        refine g_iload_n C dX0_pastSign_84 6 rfl ?_
        refine g_iload_n C dX0_pastSign_85 6 rfl ?_
        refine g_iconst C dX0_pastSign_86 (v := 1) (by decide) ?_
        refine g_iadd C dX0_pastSign_87 ?_
        refine g_top (nI_add i 1) ?_
        refine g_callVi (n := 4) C (c_X0_keep g a aT aX tr n fed tx (nI N) ln fa T c hT hc 5 (sg1 (look tx N i)) (nI i) (nI (i + 1))) gX0_pastSign_X0_keep rfl rfl rfl rfl (by decide) (by decide) rfl (Nat.le_of_ble_eq_true rfl) dX0_pastSign_88 ?_
        refine g_goto C dX0_pastSign_91 (tgt := 99) (by decide) ?_
        have c1 := k_lt (b := 0) (by decide) c1
        have c2 := k_lt (b := 0) (by decide) c2
        have c3 := k_nlt (b := 0) (by decide) c3
        exact g_iret C F (by unfold tokSgn; rw [if_neg (by omega), if_neg (by omega), if_pos (by omega)]; rfl) (by unfold tokSgn; rw [if_neg (by omega), if_neg (by omega), if_pos (by omega)]; rfl) dX0_pastSign_99
    · refine g_aload_n C dX0_pastSign_57 4 rfl ?_
      refine g_iconst C dX0_pastSign_58 (v := 5) (by decide) ?_
      refine g_iload C dX0_pastSign_59 0 rfl ?_
      refine g_iload_n C dX0_pastSign_61 5 rfl ?_
      refine g_iload_n C dX0_pastSign_62 5 rfl ?_
      refine g_iconst C dX0_pastSign_63 (v := 2) (by decide) ?_
      refine g_iadd C dX0_pastSign_64 ?_
      refine g_top (nI_add i 2) ?_
      refine g_callVi (n := 4) C (c_X0_keep g a aT aX tr n fed tx (nI N) ln fa T c hT hc 5 (sg2 (look tx N i) (look tx N (i + 1))) (nI i) (nI (i + 2))) gX0_pastSign_X0_keep rfl rfl rfl rfl (by decide) (by decide) rfl (Nat.le_of_ble_eq_true rfl) dX0_pastSign_65 ?_
      have c1 := k_lt (b := 0) (by decide) c1
      have c2 := k_nlt (b := 0) (by decide) c2
      exact g_iret C F (by unfold tokSgn; rw [if_neg (by omega), if_pos (by omega)]; rfl) (by unfold tokSgn; rw [if_neg (by omega), if_pos (by omega)]; rfl) dX0_pastSign_68
  · refine g_aload_n C dX0_pastSign_33 3 rfl ?_
    refine g_iconst C dX0_pastSign_34 (v := 5) (by decide) ?_
    refine g_iload C dX0_pastSign_35 0 rfl ?_
    refine g_iload_n C dX0_pastSign_37 4 rfl ?_
    refine g_iload_n C dX0_pastSign_38 4 rfl ?_
    refine g_iconst C dX0_pastSign_39 (v := 3) (by decide) ?_
    refine g_iadd C dX0_pastSign_40 ?_
    refine g_top (nI_add i 3) ?_
    refine g_callVi (n := 4) C (c_X0_keep g a aT aX tr n fed tx (nI N) ln fa T c hT hc 5 (sg3 (look tx N i) (look tx N (i + 1)) (look tx N (i + 2))) (nI i) (nI (i + 3))) gX0_pastSign_X0_keep rfl rfl rfl rfl (by decide) (by decide) rfl (Nat.le_of_ble_eq_true rfl) dX0_pastSign_41 ?_
    have c1 := k_nlt (b := 0) (by decide) c1
    exact g_iret C F (by unfold tokSgn; rw [if_pos (by omega)]; rfl) (by unfold tokSgn; rw [if_pos (by omega)]; rfl) dX0_pastSign_44
set_option maxHeartbeats 4000000 in
set_option maxRecDepth 100000 in
theorem c_X0_pastLineComment (g : Gl) (a : Nat → Nat) (aT aX : Nat) (tr : Nat → Int32) (n fed : Int32) (tx : Nat → Int32) (ln fa : Int32) (T : TK) (N i : Nat) (hN : N ≤ 16000) (hi : i + 2 ≤ N) : Ctr g yX0_pastLineComment wsX0_pastLineComment ({ frames := 2, cells := 0, slots := 0, locals := 40 }) [.ref (a 0), .int (nI i)] (tw g a aT aX tr n fed tx (nI N) ln fa T) (some (.int (nI (scan (pLin (look tx N)) N (i + 2))))) (tw g a aT aX tr n fed tx (nI N) ln (if scan (pLin (look tx N)) N (i + 2) < N ∧ ¬ look tx N (scan (pLin (look tx N)) N (i + 2)) = 10 then nI (scan (pLin (look tx N)) N (i + 2)) else fa) T) 0 0 := by
  refine Ctr.start (cc := cX0_pastLineComment) (maxL := 4) (ret := (some .int)) (by decide) rfl (Nat.le_of_ble_eq_true rfl) (lv0 := [(0, .ref (a 0)), (1, .int (nI i))]) rfl ?_
  intro X C F
  have C : Ok g X cX0_pastLineComment RX0 wsX0_pastLineComment ({ frames := 2, cells := 0, slots := 0, locals := 40 }) (some .int) 4 := C
  have hin : ∀ w ∈ wsX00, w ∈ wsX0_pastLineComment := fun _ h => List.mem_cons_of_mem _ (List.mem_append_right _ h)
  have lk39 : Cond.fieldLink RX0 39 "TokenRows" "textSize" "I" ∈ wsX0_pastLineComment := by decide +kernel
  obtain ⟨e, he⟩ : ∃ e, e = scan (pLin (look tx N)) N (i + 2) := ⟨_, rfl⟩
  rw [← he] at F
  have loop : ∀ (k j : Nat), j ≤ N → N + 1 ≤ j + k → scan (pLin (look tx N)) N j = e → G g X (0, 0) (tw g a aT aX tr n fed tx (nI N) ln fa T) 4 [(2, .int (nI j)), (0, .ref (a 0)), (1, .int (nI i))] [] := by
    intro k
    induction k with
    | zero => intro j h1 h2 h3; omega
    | succ k ih =>
      intro j h1 h2 h3
      refine g_iload_n C dX0_pastLineComment_4 0 rfl ?_
      refine g_aload_n C dX0_pastLineComment_5 1 rfl ?_
      refine g_get0 C hin 0 rfl 4 (by decide) lk39 rfl dX0_pastLineComment_6 ?_
      refine g_icmp_ge C dX0_pastLineComment_9 (tgt := 45) (by decide) (fun c1 => ?_) (fun c1 => ?_)
      · have hj := (nI_leI (by omega) (by omega)).mp c1
        rw [scan_end hj] at h3
        subst h3
        have hj : j = N := by omega
        refine g_aload_n C dX0_pastLineComment_45 1 rfl ?_
        refine g_get0 C hin 0 rfl 4 (by decide) lk39 rfl dX0_pastLineComment_46 ?_
        exact g_iret C F (by rw [hj]) (by rw [if_neg (by omega)]) dX0_pastLineComment_49
      · have hj : j < N := Nat.not_le.mp (fun z => c1 (nI_le z (by omega)))
        refine g_aload_n C dX0_pastLineComment_12 1 rfl ?_
        refine g_iload_n C dX0_pastLineComment_13 0 rfl ?_
        refine g_callVi (n := 1) C (c_X0_byteAt g a aT aX tr n fed tx ln fa T N j hN (by omega)) gX0_pastLineComment_X0_byteAt rfl rfl rfl rfl (by decide) (by decide) rfl (Nat.le_of_ble_eq_true rfl) dX0_pastLineComment_14 ?_
        refine g_istore_n (lv' := [(3, .int (look tx N j)), (2, .int (nI j)), (0, .ref (a 0)), (1, .int (nI i))]) C dX0_pastLineComment_17 (by decide) rfl ?_
        refine g_iload_n C dX0_pastLineComment_18 0 rfl ?_
        refine g_bipush C dX0_pastLineComment_19 (v := 10) (by decide) ?_
        refine g_icmp_ne C dX0_pastLineComment_21 (tgt := 26) (by decide) (fun c2 => ?_) (fun c2 => ?_)
        · refine g_iload_n C dX0_pastLineComment_26 0 rfl ?_
          refine g_callSi (n := 1) C (c_X0_mayOccur g (look tx N j)) gX0_pastLineComment_X0_mayOccur rfl rfl (by decide) (by decide) rfl (Nat.le_of_ble_eq_true rfl) dX0_pastLineComment_27 ?_
          refine g_if_ne C dX0_pastLineComment_30 (tgt := 39) (by decide) (fun c3 => ?_) (fun c3 => ?_)
          · rw [scan_step hj (show pLin (look tx N) j = true by unfold pLin; rw [b01_1.mp c3, decide_eq_true c2]; rfl)] at h3
            refine g_iinc (o := 1) (v := nI (j + 1)) (lv' := [(2, .int (nI (j + 1))), (3, .int (look tx N j)), (0, .ref (a 0)), (1, .int (nI i))]) C dX0_pastLineComment_39 rfl (nI_add j 1) (by decide) rfl ?_
            refine g_goto C dX0_pastLineComment_42 (tgt := 4) (by decide) ?_
            refine g_sub [0, 2, 3] rfl ?_
            exact ih (j + 1) (by omega) (by omega) h3
          · rw [scan_stop (show pLin (look tx N) j = false by unfold pLin; rw [b01_0.mp c3, Bool.and_false])] at h3
            subst h3
            refine g_aload_n C dX0_pastLineComment_33 2 rfl ?_
            refine g_iload_n C dX0_pastLineComment_34 1 rfl ?_
            refine g_callVi (n := 1) C (c_X0_fail g a aT aX tr n fed tx (nI N) ln fa T (nI j)) gX0_pastLineComment_X0_fail rfl rfl rfl rfl (by decide) (by decide) rfl (Nat.le_of_ble_eq_true rfl) dX0_pastLineComment_35 ?_
            exact g_iret C F (rfl) (by rw [if_pos ⟨hj, c2⟩]) dX0_pastLineComment_38
        · rw [scan_stop (show pLin (look tx N) j = false by unfold pLin; rw [decide_eq_false (fun z => z c2)]; rfl)] at h3
          subst h3
          refine g_iload_n C dX0_pastLineComment_24 1 rfl ?_
          exact g_iret C F (rfl) (by rw [if_neg (fun z => z.2 c2)]) dX0_pastLineComment_25
  refine g_iload_n C dX0_pastLineComment_0 1 rfl ?_
  refine g_iconst C dX0_pastLineComment_1 (v := 2) (by decide) ?_
  refine g_iadd C dX0_pastLineComment_2 ?_
  refine g_top (nI_add i 2) ?_
  refine g_istore_n (lv' := [(2, .int (nI (i + 2))), (0, .ref (a 0)), (1, .int (nI i))]) C dX0_pastLineComment_3 (by decide) rfl ?_
  exact loop (N + 1) (i + 2) (by omega) (by omega) he.symm
set_option maxHeartbeats 4000000 in
set_option maxRecDepth 100000 in
theorem c_X0_pastStarComment (g : Gl) (a : Nat → Nat) (aT aX : Nat) (tr : Nat → Int32) (n fed : Int32) (tx : Nat → Int32) (ln fa : Int32) (T : TK) (N i : Nat) (hN : N ≤ 16000) (hi : i + 2 ≤ N) : Ctr g yX0_pastStarComment wsX0_pastStarComment ({ frames := 2, cells := 0, slots := 0, locals := 40 }) [.ref (a 0), .int (nI i)] (tw g a aT aX tr n fed tx (nI N) ln fa T) (some (.int (if (scan (pStar (look tx N)) N (i + 2)) < N then (if look tx N (scan (pStar (look tx N)) N (i + 2)) = 42 ∧ look tx N ((scan (pStar (look tx N)) N (i + 2)) + 1) = 47 then nI ((scan (pStar (look tx N)) N (i + 2)) + 2) else nI (scan (pStar (look tx N)) N (i + 2))) else nI i))) (tw g a aT aX tr n fed tx (nI N) (ln + nI (cnt (look tx N) (i + 2) ((scan (pStar (look tx N)) N (i + 2)) - (i + 2)))) (if (scan (pStar (look tx N)) N (i + 2)) < N then (if look tx N (scan (pStar (look tx N)) N (i + 2)) = 42 ∧ look tx N ((scan (pStar (look tx N)) N (i + 2)) + 1) = 47 then fa else nI (scan (pStar (look tx N)) N (i + 2))) else nI i) T) 0 0 := by
  refine Ctr.start (cc := cX0_pastStarComment) (maxL := 4) (ret := (some .int)) (by decide) rfl (Nat.le_of_ble_eq_true rfl) (lv0 := [(0, .ref (a 0)), (1, .int (nI i))]) rfl ?_
  intro X C F
  have C : Ok g X cX0_pastStarComment RX0 wsX0_pastStarComment ({ frames := 2, cells := 0, slots := 0, locals := 40 }) (some .int) 4 := C
  have hin : ∀ w ∈ wsX00, w ∈ wsX0_pastStarComment := fun _ h => List.mem_cons_of_mem _ (List.mem_append_right _ h)
  have lk39 : Cond.fieldLink RX0 39 "TokenRows" "textSize" "I" ∈ wsX0_pastStarComment := by decide +kernel
  obtain ⟨e, he⟩ : ∃ e, e = scan (pStar (look tx N)) N (i + 2) := ⟨_, rfl⟩
  rw [← he] at F
  have loop : ∀ (k j : Nat), i + 2 ≤ j → j ≤ N → N + 1 ≤ j + k → scan (pStar (look tx N)) N j = e → G g X (0, 0) (tw g a aT aX tr n fed tx (nI N) (ln + nI (cnt (look tx N) (i + 2) (j - (i + 2)))) fa T) 4 [(2, .int (nI j)), (0, .ref (a 0)), (1, .int (nI i))] [] := by
    intro k
    induction k with
    | zero => intro j h0 h1 h2 h3; omega
    | succ k ih =>
      intro j h0 h1 h2 h3
      refine g_iload_n C dX0_pastStarComment_4 0 rfl ?_
      refine g_aload_n C dX0_pastStarComment_5 1 rfl ?_
      refine g_get0 C hin 0 rfl 4 (by decide) lk39 rfl dX0_pastStarComment_6 ?_
      refine g_icmp_ge C dX0_pastStarComment_9 (tgt := 64) (by decide) (fun c1 => ?_) (fun c1 => ?_)
      · have hj := (nI_leI (by omega) (by omega)).mp c1
        rw [scan_end hj] at h3
        subst h3
        refine g_aload_n C dX0_pastStarComment_64 1 rfl ?_
        refine g_iload_n C dX0_pastStarComment_65 2 rfl ?_
        refine g_callVi (n := 1) C (c_X0_fail g a aT aX tr n fed tx (nI N) (ln + nI (cnt (look tx N) (i + 2) (j - (i + 2)))) fa T (nI i)) gX0_pastStarComment_X0_fail rfl rfl rfl rfl (by decide) (by decide) rfl (Nat.le_of_ble_eq_true rfl) dX0_pastStarComment_66 ?_
        exact g_iret C F (by rw [if_neg (by omega)]) (by rw [if_neg (by omega)]) dX0_pastStarComment_69
      · have hj : j < N := Nat.not_le.mp (fun z => c1 (nI_le z (by omega)))
        refine g_aload_n C dX0_pastStarComment_12 1 rfl ?_
        refine g_iload_n C dX0_pastStarComment_13 0 rfl ?_
        refine g_callVi (n := 1) C (c_X0_byteAt g a aT aX tr n fed tx (ln + nI (cnt (look tx N) (i + 2) (j - (i + 2)))) fa T N j hN (by omega)) gX0_pastStarComment_X0_byteAt rfl rfl rfl rfl (by decide) (by decide) rfl (Nat.le_of_ble_eq_true rfl) dX0_pastStarComment_14 ?_
        refine g_istore_n (lv' := [(3, .int (look tx N j)), (2, .int (nI j)), (0, .ref (a 0)), (1, .int (nI i))]) C dX0_pastStarComment_17 (by decide) rfl ?_
        refine g_iload_n C dX0_pastStarComment_18 0 rfl ?_
        refine g_bipush C dX0_pastStarComment_19 (v := 42) (by decide) ?_
        refine g_icmp_ne C dX0_pastStarComment_21 (tgt := 40) (by decide) (fun c2 => ?_) (fun c2 => ?_)
        · refine g_iload_n C dX0_pastStarComment_40 0 rfl ?_
          refine g_callSi (n := 1) C (c_X0_mayOccur g (look tx N j)) gX0_pastStarComment_X0_mayOccur rfl rfl (by decide) (by decide) rfl (Nat.le_of_ble_eq_true rfl) dX0_pastStarComment_41 ?_
          refine g_if_ne C dX0_pastStarComment_44 (tgt := 53) (by decide) (fun c3 => ?_) (fun c3 => ?_)
          · rw [scan_step hj (show pStar (look tx N) j = true by unfold pStar; rw [b01_1.mp c3, decide_eq_true (show ¬ (look tx N j = 42 ∧ look tx N (j + 1) = 47) from fun z => c2 z.1)]; rfl)] at h3
            refine g_aload_n C dX0_pastStarComment_53 2 rfl ?_
            refine g_iload_n C dX0_pastStarComment_54 0 rfl ?_
            refine g_callVv (n := 1) C (c_X0_countLine g a aT aX tr n fed tx (nI N) (ln + nI (cnt (look tx N) (i + 2) (j - (i + 2)))) fa T (look tx N j)) gX0_pastStarComment_X0_countLine rfl rfl rfl rfl (by decide) (by decide) rfl (Nat.le_of_ble_eq_true rfl) dX0_pastStarComment_55 ?_
            refine g_iinc (o := 1) (v := nI (j + 1)) (lv' := [(2, .int (nI (j + 1))), (3, .int (look tx N j)), (0, .ref (a 0)), (1, .int (nI i))]) C dX0_pastStarComment_58 rfl (nI_add j 1) (by decide) rfl ?_
            refine g_goto C dX0_pastStarComment_61 (tgt := 4) (by decide) ?_
            refine g_sub [0, 2, 3] rfl ?_
            refine g_ws (ws' := (tw g a aT aX tr n fed tx (nI N) (ln + nI (cnt (look tx N) (i + 2) (j + 1 - (i + 2)))) fa T)) (by rw [cnt_step h0]) ?_
            exact ih (j + 1) (by omega) (by omega) (by omega) h3
          · rw [scan_stop (show pStar (look tx N) j = false by unfold pStar; rw [b01_0.mp c3, Bool.and_false])] at h3
            subst h3
            refine g_aload_n C dX0_pastStarComment_47 2 rfl ?_
            refine g_iload_n C dX0_pastStarComment_48 1 rfl ?_
            refine g_callVi (n := 1) C (c_X0_fail g a aT aX tr n fed tx (nI N) (ln + nI (cnt (look tx N) (i + 2) (j - (i + 2)))) fa T (nI j)) gX0_pastStarComment_X0_fail rfl rfl rfl rfl (by decide) (by decide) rfl (Nat.le_of_ble_eq_true rfl) dX0_pastStarComment_49 ?_
            exact g_iret C F (by rw [if_pos hj, if_neg (fun z => c2 z.1)]) (by rw [if_pos hj, if_neg (fun z => c2 z.1)]) dX0_pastStarComment_52
        · refine g_aload_n C dX0_pastStarComment_24 2 rfl ?_
          refine g_iload_n C dX0_pastStarComment_25 1 rfl ?_
          refine g_iconst C dX0_pastStarComment_26 (v := 1) (by decide) ?_
          refine g_iadd C dX0_pastStarComment_27 ?_
          refine g_top (nI_add j 1) ?_
          refine g_callVi (n := 1) C (c_X0_byteAt g a aT aX tr n fed tx (ln + nI (cnt (look tx N) (i + 2) (j - (i + 2)))) fa T N (j + 1) hN (by omega)) gX0_pastStarComment_X0_byteAt rfl rfl rfl rfl (by decide) (by decide) rfl (Nat.le_of_ble_eq_true rfl) dX0_pastStarComment_28 ?_
          refine g_bipush C dX0_pastStarComment_31 (v := 47) (by decide) ?_
          refine g_icmp_ne C dX0_pastStarComment_33 (tgt := 40) (by decide) (fun c4 => ?_) (fun c4 => ?_)
          · refine g_iload_n C dX0_pastStarComment_40 0 rfl ?_
            refine g_callSi (n := 1) C (c_X0_mayOccur g (look tx N j)) gX0_pastStarComment_X0_mayOccur rfl rfl (by decide) (by decide) rfl (Nat.le_of_ble_eq_true rfl) dX0_pastStarComment_41 ?_
            refine g_if_ne C dX0_pastStarComment_44 (tgt := 53) (by decide) (fun c5 => ?_) (fun c5 => ?_)
            · rw [scan_step hj (show pStar (look tx N) j = true by unfold pStar; rw [b01_1.mp c5, decide_eq_true (show ¬ (look tx N j = 42 ∧ look tx N (j + 1) = 47) from fun z => c4 z.2)]; rfl)] at h3
              refine g_aload_n C dX0_pastStarComment_53 2 rfl ?_
              refine g_iload_n C dX0_pastStarComment_54 0 rfl ?_
              refine g_callVv (n := 1) C (c_X0_countLine g a aT aX tr n fed tx (nI N) (ln + nI (cnt (look tx N) (i + 2) (j - (i + 2)))) fa T (look tx N j)) gX0_pastStarComment_X0_countLine rfl rfl rfl rfl (by decide) (by decide) rfl (Nat.le_of_ble_eq_true rfl) dX0_pastStarComment_55 ?_
              refine g_iinc (o := 1) (v := nI (j + 1)) (lv' := [(2, .int (nI (j + 1))), (3, .int (look tx N j)), (0, .ref (a 0)), (1, .int (nI i))]) C dX0_pastStarComment_58 rfl (nI_add j 1) (by decide) rfl ?_
              refine g_goto C dX0_pastStarComment_61 (tgt := 4) (by decide) ?_
              refine g_sub [0, 2, 3] rfl ?_
              refine g_ws (ws' := (tw g a aT aX tr n fed tx (nI N) (ln + nI (cnt (look tx N) (i + 2) (j + 1 - (i + 2)))) fa T)) (by rw [cnt_step h0]) ?_
              exact ih (j + 1) (by omega) (by omega) (by omega) h3
            · rw [scan_stop (show pStar (look tx N) j = false by unfold pStar; rw [b01_0.mp c5, Bool.and_false])] at h3
              subst h3
              refine g_aload_n C dX0_pastStarComment_47 2 rfl ?_
              refine g_iload_n C dX0_pastStarComment_48 1 rfl ?_
              refine g_callVi (n := 1) C (c_X0_fail g a aT aX tr n fed tx (nI N) (ln + nI (cnt (look tx N) (i + 2) (j - (i + 2)))) fa T (nI j)) gX0_pastStarComment_X0_fail rfl rfl rfl rfl (by decide) (by decide) rfl (Nat.le_of_ble_eq_true rfl) dX0_pastStarComment_49 ?_
              exact g_iret C F (by rw [if_pos hj, if_neg (fun z => c4 z.2)]) (by rw [if_pos hj, if_neg (fun z => c4 z.2)]) dX0_pastStarComment_52
          · rw [scan_stop (show pStar (look tx N) j = false by unfold pStar; rw [decide_eq_false (fun z => z ⟨c2, c4⟩)]; rfl)] at h3
            subst h3
            refine g_iload_n C dX0_pastStarComment_36 1 rfl ?_
            refine g_iconst C dX0_pastStarComment_37 (v := 2) (by decide) ?_
            refine g_iadd C dX0_pastStarComment_38 ?_
            refine g_top (nI_add j 2) ?_
            exact g_iret C F (by rw [if_pos hj, if_pos ⟨c2, c4⟩]) (by rw [if_pos hj, if_pos ⟨c2, c4⟩]) dX0_pastStarComment_39
  refine g_iload_n C dX0_pastStarComment_0 1 rfl ?_
  refine g_iconst C dX0_pastStarComment_1 (v := 2) (by decide) ?_
  refine g_iadd C dX0_pastStarComment_2 ?_
  refine g_top (nI_add i 2) ?_
  refine g_istore_n (lv' := [(2, .int (nI (i + 2))), (0, .ref (a 0)), (1, .int (nI i))]) C dX0_pastStarComment_3 (by decide) rfl ?_
  refine g_ws (ws' := (tw g a aT aX tr n fed tx (nI N) (ln + nI (cnt (look tx N) (i + 2) (i + 2 - (i + 2)))) fa T)) (by rw [Nat.sub_self, cnt, nI_0, Int32.add_zero]) ?_
  exact loop (N + 1) (i + 2) (by omega) (by omega) (by omega) he.symm
end
section
/-! PURE: a step of the class's cut, and the whole run -/
theorem g_perm {g : Gl} {X : Cx} {q : Nat × Nat} {ws ws' : va_W} {pc : Nat} {lv : List (Nat × Value)} {st : List Value} (is : List Nat) (hn : va_nd is = true) (h1 : is.filterMap (fun i => ws[i]?) = ws') (h2 : is.map (fun i => ws[i]?) = ws'.map some) (k : G g X q ws' pc lv st) : G g X q ws pc lv st := by
  obtain ⟨p, l, e, R, s, m, args, below, meth, c, A, n9, Q⟩ := X
  intro H locs ls hP hD hS hl
  exact k H locs ls (hP.sub is h1) (hD.sub is hn h2) hS hl
theorem look_ltN {tx : Nat → Int32} {N i : Nat} {v : Int32} (h : look tx N i = v) (hv : ¬ v = -1) : i < N := by
  rcases Nat.lt_or_ge i N with q | q
  · exact q
  · rw [look_out q] at h; exact absurd h.symm hv
def tok (L : Nat → Int32) (N i : Nat) : Tok :=
  if bLet (L i) = true then tokName L N i else if bDig (L i) = true then (if bHex L i = true then tokHex L N i else tokDig L N i) else if L i = 39 then tokQuo L i else if L i = 34 then tokStr L i else tokSgn L i
/-- a step: the place behind it, the fault, how many lines more, the token -/
abbrev LStp : Type := Nat × Option Nat × Nat × Tok
def stpLin (L : Nat → Int32) (N i : Nat) : LStp := (scan (pLin L) N (i + 2), (if scan (pLin L) N (i + 2) < N ∧ ¬ L (scan (pLin L) N (i + 2)) = 10 then some (scan (pLin L) N (i + 2)) else none), 0, none)
def stpStar (L : Nat → Int32) (N i : Nat) : LStp :=
  ((if scan (pStar L) N (i + 2) < N then (if L (scan (pStar L) N (i + 2)) = 42 ∧ L (scan (pStar L) N (i + 2) + 1) = 47 then scan (pStar L) N (i + 2) + 2 else scan (pStar L) N (i + 2)) else i), (if scan (pStar L) N (i + 2) < N then (if L (scan (pStar L) N (i + 2)) = 42 ∧ L (scan (pStar L) N (i + 2) + 1) = 47 then none else some (scan (pStar L) N (i + 2))) else some i), cnt L (i + 2) (scan (pStar L) N (i + 2) - (i + 2)), none)
def stpTok (o : Tok) (i : Nat) : LStp := match o with
  | none => (i, some i, 0, none)
  | some q => (q.2.2, none, 0, some q)
def stp (L : Nat → Int32) (N i : Nat) : LStp :=
  if bBlk (L i) = true then (i + 1, none, (if L i = 10 then 1 else 0), none) else if L i = 47 ∧ L (i + 1) = 47 then stpLin L N i else if L i = 47 ∧ L (i + 1) = 42 then stpStar L N i else stpTok (tok L N i) i
def stF (o : Option Nat) (fa : Int32) : Int32 := match o with
  | none => fa
  | some p => nI p
theorem stpTok_r (o : Tok) (i : Nat) : nI (stpTok o i).1 = tkR o i := by cases o <;> rfl
theorem stpTok_f (o : Tok) (i : Nat) (fa : Int32) : stF (stpTok o i).2.1 fa = tkF o fa i := by cases o <;> rfl
theorem stpTok_l (o : Tok) (i : Nat) (ln : Int32) : ln + nI (stpTok o i).2.2.1 = ln := by cases o <;> exact Int32.add_zero ln
theorem stpTok_t (o : Tok) (i : Nat) (T : TK) (c : Nat) (ln : Int32) : tkT (stpTok o i).2.2.2 T c i ln = tkT o T c i ln := by cases o <;> rfl
/-- a state of the run: place, fault, line, tokens, how many -/
abbrev Run : Type := Nat × Option Nat × Nat × TK × Nat
def rstep (L : Nat → Int32) (N : Nat) (s : Run) : Run :=
  ((stp L N s.1).1, (stp L N s.1).2.1, s.2.2.1 + (stp L N s.1).2.2.1, tkT (stp L N s.1).2.2.2 s.2.2.2.1 s.2.2.2.2 s.1 (nI s.2.2.1), s.2.2.2.2 + (match (stp L N s.1).2.2.2 with | none => 0 | some _ => 1))
def crun (L : Nat → Int32) (N : Nat) : Nat → Run → Run
  | 0, s => s
  | f + 1, s => if s.1 < N ∧ s.2.1 = none then crun L N f (rstep L N s) else s
/-- how far a token goes -/
theorem sgo_end {tx : Nat → Int32} {N : Nat} : ∀ (f k p : Nat) (q : Int32 × Int32 × Nat), sgo (look tx N) f k p = some q → p < q.2.2 ∧ q.2.2 ≤ N
  | 0, k, p, q, h => by rw [sgo] at h; cases h
  | f + 1, k, p, q, h => by
    rw [sgo] at h
    split at h
    · rename_i h34
      cases h
      exact ⟨Nat.lt_succ_self p, look_ltN h34 (by decide)⟩
    · split at h
      · cases h
      · have := sgo_end f (k + 1) _ q h
        omega
theorem sg3_z {x y z : Int32} (h : 0 ≤ (sg3 x y z).toInt) : z = 61 := by
  unfold sg3 at h
  split at h
  · rename_i q; exact q.2
  · exact absurd h (by decide)
theorem sg2_y {x y : Int32} (h : 0 ≤ (sg2 x y).toInt) (hx : ¬ x = -1) : ¬ y = -1 := by
  intro e
  subst e
  unfold sg2 at h
  rw [if_neg (by decide), if_neg (fun q => hx q.symm)] at h
  exact absurd h (by decide)
theorem tok_end {tx : Nat → Int32} {N i : Nat} (hi : i < N) (hs : ¬ look tx N i = -1) {q : Int32 × Int32 × Nat} (h : tok (look tx N) N i = some q) : i < q.2.2 ∧ q.2.2 ≤ N := by
  unfold tok at h
  split at h
  · unfold tokName at h
    have h1 := scan_ge (pNam (look tx N)) N (i + 1)
    have h2 := scan_le (p := pNam (look tx N)) (N := N) (i := i + 1) (by omega)
    split at h
    · cases h
    · split at h <;> (cases h; exact ⟨by show i < scan _ _ _; omega, h2⟩)
  · split at h
    · rename_i hd
      split at h
      · rename_i hx
        have hx2 := of_decide_eq_true hx
        have hl := look_ltN hx2.2.1 (by decide)
        unfold tokHex at h
        have h1 := scan_ge (pHex (look tx N)) N (i + 2)
        have h2 := scan_le (p := pHex (look tx N)) (N := N) (i := i + 2) (by omega)
        split at h
        · cases h
        · cases h; exact ⟨by show i < scan _ _ _; omega, h2⟩
      · unfold tokDig at h
        have h1 := scan_ge (pDig (look tx N)) N (i + 1)
        have h2 := scan_le (p := pDig (look tx N)) (N := N) (i := i) (by omega)
        have h3 := scan_step (p := pDig (look tx N)) hi hd
        split at h
        · cases h
        · cases h; exact ⟨by show i < scan _ _ _; omega, h2⟩
    · split at h
      · unfold tokQuo at h
        split at h
        · cases h
        · split at h
          · rename_i hq
            have hl := look_ltN hq (by decide)
            cases h; exact ⟨by show i < _ + 1; omega, by show _ + 1 ≤ N; omega⟩
          · cases h
      · split at h
        · unfold tokStr at h
          have := sgo_end _ _ _ _ h
          omega
        · unfold tokSgn at h
          split at h
          · rename_i h3
            have hl := look_ltN (sg3_z h3) (by decide)
            cases h; exact ⟨by show i < i + 3; omega, by show i + 3 ≤ N; omega⟩
          · split at h
            · rename_i h3
              have hl := look_ltN rfl (sg2_y h3 hs)
              cases h; exact ⟨by show i < i + 2; omega, by show i + 2 ≤ N; omega⟩
            · split at h
              · cases h; exact ⟨by show i < i + 1; omega, by show i + 1 ≤ N; omega⟩
              · cases h
theorem look_ne {tx : Nat → Int32} {N i : Nat} (hi : i < N) : ¬ look tx N i = -1 := by
  intro h
  have := look_rng tx N i
  rw [h] at this
  rcases this with q | q
  · omega
  · exact absurd q.1 (by decide)
theorem stp_prog {tx : Nat → Int32} {N i : Nat} (hi : i < N) : ((stp (look tx N) N i).2.1 = none → i < (stp (look tx N) N i).1) ∧ (stp (look tx N) N i).1 ≤ N ∧ ((stp (look tx N) N i).2.2.2 ≠ none → (stp (look tx N) N i).2.1 = none) := by
  unfold stp
  split
  · exact ⟨fun _ => Nat.lt_succ_self i, hi, fun h => absurd rfl h⟩
  · split
    · rename_i hc
      have hl := look_ltN hc.2 (by decide)
      have h1 := scan_ge (pLin (look tx N)) N (i + 2)
      have h2 := scan_le (p := pLin (look tx N)) (N := N) (i := i + 2) (by omega)
      exact ⟨fun _ => by show i < scan _ _ _; omega, h2, fun h => absurd rfl h⟩
    · split
      · rename_i hc
        have hl := look_ltN hc.2 (by decide)
        have h1 := scan_ge (pStar (look tx N)) N (i + 2)
        have h2 := scan_le (p := pStar (look tx N)) (N := N) (i := i + 2) (by omega)
        unfold stpStar
        refine ⟨fun h => ?_, ?_, fun h => absurd rfl h⟩
        · dsimp only at h ⊢
          split at h
          · rename_i q
            rw [if_pos q]
            split at h
            · rename_i q2; rw [if_pos q2]; omega
            · cases h
          · cases h
        · dsimp only
          split
          · split
            · rename_i q2
              have := look_ltN q2.2 (by decide)
              omega
            · omega
          · omega
      · cases ho : tok (look tx N) N i with
        | none => exact ⟨fun h => (by cases h), (by show i ≤ N; omega), fun h => absurd rfl h⟩
        | some q =>
          have := tok_end hi (look_ne hi) ho
          exact ⟨fun _ => this.1, this.2, fun _ => rfl⟩
theorem stp_fa {tx : Nat → Int32} {N i p : Nat} (hi : i < N) (h : (stp (look tx N) N i).2.1 = some p) : p < N := by
  unfold stp at h
  split at h
  · cases h
  · split at h
    · unfold stpLin at h
      dsimp only at h
      split at h
      · rename_i q; cases h; exact q.1
      · cases h
    · split at h
      · unfold stpStar at h
        dsimp only at h
        split at h
        · rename_i q
          split at h
          · cases h
          · cases h; exact q
        · cases h; exact hi
      · cases ho : tok (look tx N) N i with
        | none => rw [ho] at h; cases h; exact hi
        | some q => rw [ho] at h; cases h
theorem stF_none {o : Option Nat} {N : Nat} (hN : N ≤ 16000) (hb : ∀ p, o = some p → p < N) (h : ¬ 0 ≤ stF o (-1)) : o = none := by
  cases o with
  | none => rfl
  | some p => exact absurd (nI_pos' (n := p) (by have := hb p rfl; omega)) h
theorem stF_some {o : Option Nat} (h : 0 ≤ stF o (-1)) : ¬ o = none := by
  intro z
  rw [z] at h
  exact absurd h (by decide)
theorem run_T {L : Nat → Int32} {N : Nat} {s : Run} (h : s.2.2.2.1.2.2.2.2.2 = nI s.2.2.2.2) : (rstep L N s).2.2.2.1.2.2.2.2.2 = nI (rstep L N s).2.2.2.2 := by
  unfold rstep
  dsimp only
  cases (stp L N s.1).2.2.2 with
  | none => exact h
  | some q => rfl
theorem run_c {tx : Nat → Int32} {N : Nat} {s : Run} (hs : s.1 < N) (hf : s.2.1 = none) (h : s.2.2.2.2 ≤ s.1 ∨ s.2.1 ≠ none ∧ s.2.2.2.2 ≤ N) : (rstep (look tx N) N s).2.2.2.2 ≤ (rstep (look tx N) N s).1 ∨ (rstep (look tx N) N s).2.1 ≠ none ∧ (rstep (look tx N) N s).2.2.2.2 ≤ N := by
  have hc : s.2.2.2.2 ≤ s.1 := by
    rcases h with h | h
    · exact h
    · exact absurd hf h.1
  obtain ⟨h1, h2, h3⟩ := stp_prog (tx := tx) hs
  unfold rstep
  dsimp only
  cases ho : (stp (look tx N) N s.1).2.2.2 with
  | none =>
    dsimp only
    cases hq : (stp (look tx N) N s.1).2.1 with
    | none => exact Or.inl (by have := h1 hq; omega)
    | some p => exact Or.inr ⟨fun z => (by cases z), by omega⟩
  | some q =>
    have := h1 (h3 (by rw [ho]; exact fun z => (by cases z)))
    exact Or.inl (by dsimp only; omega)
theorem run_lt {s : Run} {N : Nat} (h : s.2.2.2.2 ≤ s.1 ∨ s.2.1 ≠ none ∧ s.2.2.2.2 ≤ N) (hf : s.2.1 = none) : s.2.2.2.2 ≤ s.1 := by
  rcases h with h | h
  · exact h
  · exact absurd hf h.1
end
section
set_option maxHeartbeats 4000000 in
set_option maxRecDepth 100000 in
theorem c_X0_pastBlankOrToken (g : Gl) (a : Nat → Nat) (aT aX : Nat) (tr : Nat → Int32) (n fed : Int32) (tx : Nat → Int32) (ln fa : Int32) (T : TK) (N c i : Nat) (hN : N ≤ 16000) (hi : i < N) (hT : T.2.2.2.2.2 = nI c) (hc : c < 16000) : Ctr g yX0_pastBlankOrToken wsX0_pastBlankOrToken ({ frames := 3, cells := 0, slots := 0, locals := 69 }) [.ref (a 0), .int (nI i)] (tw g a aT aX tr n fed tx (nI N) ln fa T) (some (.int (nI (stp (look tx N) N i).1))) (tw g a aT aX tr n fed tx (nI N) (ln + nI (stp (look tx N) N i).2.2.1) (stF (stp (look tx N) N i).2.1 fa) (tkT (stp (look tx N) N i).2.2.2 T c i ln)) 0 0 := by
  refine Ctr.start (cc := cX0_pastBlankOrToken) (maxL := 3) (ret := (some .int)) (by decide) rfl (Nat.le_of_ble_eq_true rfl) (lv0 := [(0, .ref (a 0)), (1, .int (nI i))]) rfl ?_
  intro X C F
  have C : Ok g X cX0_pastBlankOrToken RX0 wsX0_pastBlankOrToken ({ frames := 3, cells := 0, slots := 0, locals := 69 }) (some .int) 3 := C
  have hin : ∀ w ∈ wsX00, w ∈ wsX0_pastBlankOrToken := fun _ h => List.mem_cons_of_mem _ (List.mem_append_right _ h)
  have tkn : bBlk (look tx N i) = false → ¬ (look tx N i = 47 ∧ look tx N (i + 1) = 47) → ¬ (look tx N i = 47 ∧ look tx N (i + 1) = 42) → G g X (0, 0) (tw g a aT aX tr n fed tx (nI N) ln fa T) 70 [(2, .int (look tx N i)), (0, .ref (a 0)), (1, .int (nI i))] [] := by
    intro hb hn1 hn2
    refine g_iload_n C dX0_pastBlankOrToken_70 0 rfl ?_
    refine g_callSi (n := 1) C (c_X0_isLetter g (look tx N i)) gX0_pastBlankOrToken_X0_isLetter rfl rfl (by decide) (by decide) rfl (Nat.le_of_ble_eq_true rfl) dX0_pastBlankOrToken_71 ?_
    refine g_if_eq C dX0_pastBlankOrToken_74 (tgt := 83) (by decide) (fun c1 => ?_) (fun c1 => ?_)
    · refine g_iload_n C dX0_pastBlankOrToken_83 0 rfl ?_
      refine g_callSi (n := 1) C (c_X0_isDigit g (look tx N i)) gX0_pastBlankOrToken_X0_isDigit rfl rfl (by decide) (by decide) rfl (Nat.le_of_ble_eq_true rfl) dX0_pastBlankOrToken_84 ?_
      refine g_if_eq C dX0_pastBlankOrToken_87 (tgt := 112) (by decide) (fun c2 => ?_) (fun c2 => ?_)
      · refine g_iload_n C dX0_pastBlankOrToken_112 0 rfl ?_
        refine g_bipush C dX0_pastBlankOrToken_113 (v := 39) (by decide) ?_
        refine g_icmp_ne C dX0_pastBlankOrToken_115 (tgt := 124) (by decide) (fun c3 => ?_) (fun c3 => ?_)
        · refine g_iload_n C dX0_pastBlankOrToken_124 0 rfl ?_
          refine g_bipush C dX0_pastBlankOrToken_125 (v := 34) (by decide) ?_
          refine g_icmp_ne C dX0_pastBlankOrToken_127 (tgt := 136) (by decide) (fun c4 => ?_) (fun c4 => ?_)
          · refine g_aload_n C dX0_pastBlankOrToken_136 1 rfl ?_
            refine g_iload_n C dX0_pastBlankOrToken_137 2 rfl ?_
            refine g_callVi (n := 1) C (c_X0_pastSign g a aT aX tr n fed tx ln fa T N c i hN hi hT hc) gX0_pastBlankOrToken_X0_pastSign rfl rfl rfl rfl (by decide) (by decide) rfl (Nat.le_of_ble_eq_true rfl) dX0_pastBlankOrToken_138 ?_
            have ht : tok (look tx N) N i = tokSgn (look tx N) i := by unfold tok; rw [if_neg (by rw [b01_0.mp c1]; decide), if_neg (by rw [b01_0.mp c2]; decide), if_neg c3, if_neg c4]
            have hs : stp (look tx N) N i = stpTok (tokSgn (look tx N) i) i := by unfold stp; rw [if_neg (by rw [hb]; decide), if_neg hn1, if_neg hn2, ht]
            exact g_iret C F (by rw [hs, stpTok_r]) (by rw [hs, stpTok_f, stpTok_l, stpTok_t]) dX0_pastBlankOrToken_141
          · refine g_aload_n C dX0_pastBlankOrToken_130 1 rfl ?_
            refine g_iload_n C dX0_pastBlankOrToken_131 2 rfl ?_
            refine g_callVi (n := 1) C (c_X0_pastString g a aT aX tr n fed tx ln fa T N c i hN hi hT hc) gX0_pastBlankOrToken_X0_pastString rfl rfl rfl rfl (by decide) (by decide) rfl (Nat.le_of_ble_eq_true rfl) dX0_pastBlankOrToken_132 ?_
            have ht : tok (look tx N) N i = tokStr (look tx N) i := by unfold tok; rw [if_neg (by rw [b01_0.mp c1]; decide), if_neg (by rw [b01_0.mp c2]; decide), if_neg c3, if_pos c4]
            have hs : stp (look tx N) N i = stpTok (tokStr (look tx N) i) i := by unfold stp; rw [if_neg (by rw [hb]; decide), if_neg hn1, if_neg hn2, ht]
            exact g_iret C F (by rw [hs, stpTok_r]) (by rw [hs, stpTok_f, stpTok_l, stpTok_t]) dX0_pastBlankOrToken_135
        · refine g_aload_n C dX0_pastBlankOrToken_118 1 rfl ?_
          refine g_iload_n C dX0_pastBlankOrToken_119 2 rfl ?_
          refine g_callVi (n := 1) C (c_X0_pastQuotedCode g a aT aX tr n fed tx ln fa T N c i hN hi hT hc) gX0_pastBlankOrToken_X0_pastQuotedCode rfl rfl rfl rfl (by decide) (by decide) rfl (Nat.le_of_ble_eq_true rfl) dX0_pastBlankOrToken_120 ?_
          have ht : tok (look tx N) N i = tokQuo (look tx N) i := by unfold tok; rw [if_neg (by rw [b01_0.mp c1]; decide), if_neg (by rw [b01_0.mp c2]; decide), if_pos c3]
          have hs : stp (look tx N) N i = stpTok (tokQuo (look tx N) i) i := by unfold stp; rw [if_neg (by rw [hb]; decide), if_neg hn1, if_neg hn2, ht]
          exact g_iret C F (by rw [hs, stpTok_r]) (by rw [hs, stpTok_f, stpTok_l, stpTok_t]) dX0_pastBlankOrToken_123
      · refine g_aload_n C dX0_pastBlankOrToken_90 1 rfl ?_
        refine g_iload_n C dX0_pastBlankOrToken_91 2 rfl ?_
        refine g_callVi (n := 1) C (c_X0_isHexNumber g a aT aX tr n fed tx ln fa T N i hN (by omega)) gX0_pastBlankOrToken_X0_isHexNumber rfl rfl rfl rfl (by decide) (by decide) rfl (Nat.le_of_ble_eq_true rfl) dX0_pastBlankOrToken_92 ?_
        refine g_if_eq C dX0_pastBlankOrToken_95 (tgt := 106) (by decide) (fun c5 => ?_) (fun c5 => ?_)
        · refine g_aload_n C dX0_pastBlankOrToken_106 1 rfl ?_
          refine g_iload_n C dX0_pastBlankOrToken_107 2 rfl ?_
          refine g_callVi (n := 1) C (c_X0_pastDigits g a aT aX tr n fed tx ln fa T N c i hN hi hT hc) gX0_pastBlankOrToken_X0_pastDigits rfl rfl rfl rfl (by decide) (by decide) rfl (Nat.le_of_ble_eq_true rfl) dX0_pastBlankOrToken_108 ?_
          have ht : tok (look tx N) N i = tokDig (look tx N) N i := by unfold tok; rw [if_neg (by rw [b01_0.mp c1]; decide), if_pos (b01_1.mp c2), if_neg (by rw [b01_0.mp c5]; decide)]
          have hs : stp (look tx N) N i = stpTok (tokDig (look tx N) N i) i := by unfold stp; rw [if_neg (by rw [hb]; decide), if_neg hn1, if_neg hn2, ht]
          exact g_iret C F (by rw [hs, stpTok_r]) (by rw [hs, stpTok_f, stpTok_l, stpTok_t]) dX0_pastBlankOrToken_111
        · have hx9 := b01_1.mp c5
          refine g_aload_n C dX0_pastBlankOrToken_98 1 rfl ?_
          refine g_iload_n C dX0_pastBlankOrToken_99 2 rfl ?_
          refine g_callVi (n := 1) C (c_X0_pastHexNumber g a aT aX tr n fed tx ln fa T N c i hN hi hT hc (by have h9 := of_decide_eq_true hx9; have h8 := look_ltN h9.2.1 (by decide); omega)) gX0_pastBlankOrToken_X0_pastHexNumber rfl rfl rfl rfl (by decide) (by decide) rfl (Nat.le_of_ble_eq_true rfl) dX0_pastBlankOrToken_100 ?_
          have ht : tok (look tx N) N i = tokHex (look tx N) N i := by unfold tok; rw [if_neg (by rw [b01_0.mp c1]; decide), if_pos (b01_1.mp c2), if_pos (b01_1.mp c5)]
          have hs : stp (look tx N) N i = stpTok (tokHex (look tx N) N i) i := by unfold stp; rw [if_neg (by rw [hb]; decide), if_neg hn1, if_neg hn2, ht]
          refine g_goto C dX0_pastBlankOrToken_103 (tgt := 111) (by decide) ?_
          exact g_iret C F (by rw [hs, stpTok_r]) (by rw [hs, stpTok_f, stpTok_l, stpTok_t]) dX0_pastBlankOrToken_111
    · refine g_aload_n C dX0_pastBlankOrToken_77 1 rfl ?_
      refine g_iload_n C dX0_pastBlankOrToken_78 2 rfl ?_
      refine g_callVi (n := 1) C (c_X0_pastName g a aT aX tr n fed tx ln fa T N c i hN hi hT hc) gX0_pastBlankOrToken_X0_pastName rfl rfl rfl rfl (by decide) (by decide) rfl (Nat.le_of_ble_eq_true rfl) dX0_pastBlankOrToken_79 ?_
      have ht : tok (look tx N) N i = tokName (look tx N) N i := by unfold tok; rw [if_pos (b01_1.mp c1)]
      have hs : stp (look tx N) N i = stpTok (tokName (look tx N) N i) i := by unfold stp; rw [if_neg (by rw [hb]; decide), if_neg hn1, if_neg hn2, ht]
      exact g_iret C F (by rw [hs, stpTok_r]) (by rw [hs, stpTok_f, stpTok_l, stpTok_t]) dX0_pastBlankOrToken_82
  refine g_aload_n C dX0_pastBlankOrToken_0 0 rfl ?_
  refine g_iload_n C dX0_pastBlankOrToken_1 1 rfl ?_
  refine g_callVi (n := 1) C (c_X0_byteAt g a aT aX tr n fed tx ln fa T N i hN (by omega)) gX0_pastBlankOrToken_X0_byteAt rfl rfl rfl rfl (by decide) (by decide) rfl (Nat.le_of_ble_eq_true rfl) dX0_pastBlankOrToken_2 ?_
  refine g_istore_n (lv' := [(2, .int (look tx N i)), (0, .ref (a 0)), (1, .int (nI i))]) C dX0_pastBlankOrToken_5 (by decide) rfl ?_
  refine g_iload_n C dX0_pastBlankOrToken_6 0 rfl ?_
  refine g_callSi (n := 1) C (c_X0_isBlankByte g (look tx N i)) gX0_pastBlankOrToken_X0_isBlankByte rfl rfl (by decide) (by decide) rfl (Nat.le_of_ble_eq_true rfl) dX0_pastBlankOrToken_7 ?_
  refine g_if_eq C dX0_pastBlankOrToken_10 (tgt := 22) (by decide) (fun c6 => ?_) (fun c6 => ?_)
  · have hb := b01_0.mp c6
    refine g_iload_n C dX0_pastBlankOrToken_22 0 rfl ?_
    refine g_bipush C dX0_pastBlankOrToken_23 (v := 47) (by decide) ?_
    refine g_icmp_ne C dX0_pastBlankOrToken_25 (tgt := 46) (by decide) (fun c7 => ?_) (fun c7 => ?_)
    · refine g_iload_n C dX0_pastBlankOrToken_46 0 rfl ?_
      refine g_bipush C dX0_pastBlankOrToken_47 (v := 47) (by decide) ?_
      refine g_icmp_ne C dX0_pastBlankOrToken_49 (tgt := 70) (by decide) (fun c8 => ?_) (fun c8 => ?_)
      · exact tkn hb (fun z => c7 z.1) (fun z => c8 z.1)
      · exact absurd c8 c7
    · refine g_aload_n C dX0_pastBlankOrToken_28 1 rfl ?_
      refine g_iload_n C dX0_pastBlankOrToken_29 2 rfl ?_
      refine g_iconst C dX0_pastBlankOrToken_30 (v := 1) (by decide) ?_
      refine g_iadd C dX0_pastBlankOrToken_31 ?_
      refine g_top (nI_add i 1) ?_
      refine g_callVi (n := 1) C (c_X0_byteAt g a aT aX tr n fed tx ln fa T N (i + 1) hN (by omega)) gX0_pastBlankOrToken_X0_byteAt rfl rfl rfl rfl (by decide) (by decide) rfl (Nat.le_of_ble_eq_true rfl) dX0_pastBlankOrToken_32 ?_
      refine g_bipush C dX0_pastBlankOrToken_35 (v := 47) (by decide) ?_
      refine g_icmp_ne C dX0_pastBlankOrToken_37 (tgt := 46) (by decide) (fun c9 => ?_) (fun c9 => ?_)
      · refine g_iload_n C dX0_pastBlankOrToken_46 0 rfl ?_
        refine g_bipush C dX0_pastBlankOrToken_47 (v := 47) (by decide) ?_
        refine g_icmp_ne C dX0_pastBlankOrToken_49 (tgt := 70) (by decide) (fun c10 => ?_) (fun c10 => ?_)
        · exact absurd c7 c10
        · refine g_aload_n C dX0_pastBlankOrToken_52 1 rfl ?_
          refine g_iload_n C dX0_pastBlankOrToken_53 2 rfl ?_
          refine g_iconst C dX0_pastBlankOrToken_54 (v := 1) (by decide) ?_
          refine g_iadd C dX0_pastBlankOrToken_55 ?_
          refine g_top (nI_add i 1) ?_
          refine g_callVi (n := 1) C (c_X0_byteAt g a aT aX tr n fed tx ln fa T N (i + 1) hN (by omega)) gX0_pastBlankOrToken_X0_byteAt rfl rfl rfl rfl (by decide) (by decide) rfl (Nat.le_of_ble_eq_true rfl) dX0_pastBlankOrToken_56 ?_
          refine g_bipush C dX0_pastBlankOrToken_59 (v := 42) (by decide) ?_
          refine g_icmp_ne C dX0_pastBlankOrToken_61 (tgt := 70) (by decide) (fun c11 => ?_) (fun c11 => ?_)
          · exact tkn hb (fun z => c9 z.2) (fun z => c11 z.2)
          · refine g_aload_n C dX0_pastBlankOrToken_64 1 rfl ?_
            refine g_iload_n C dX0_pastBlankOrToken_65 2 rfl ?_
            have hcm : look tx N i = 47 ∧ look tx N (i + 1) = 42 := ⟨c10, c11⟩
            have hl := look_ltN hcm.2 (by decide)
            refine g_callVi (n := 1) C (c_X0_pastStarComment g a aT aX tr n fed tx ln fa T N i hN (by omega)) gX0_pastBlankOrToken_X0_pastStarComment rfl rfl rfl rfl (by decide) (by decide) rfl (Nat.le_of_ble_eq_true rfl) dX0_pastBlankOrToken_66 ?_
            have hs : stp (look tx N) N i = stpStar (look tx N) N i := by unfold stp; rw [if_neg (by rw [hb]; decide), if_neg (fun z => absurd (z.2.symm.trans hcm.2) (by decide)), if_pos hcm]
            exact g_iret C F (by rw [hs]; unfold stpStar; dsimp only; split <;> (try split) <;> rfl) (by rw [hs]; unfold stpStar; dsimp only; congr 1; split <;> (try split) <;> rfl) dX0_pastBlankOrToken_69
      · refine g_aload_n C dX0_pastBlankOrToken_40 1 rfl ?_
        refine g_iload_n C dX0_pastBlankOrToken_41 2 rfl ?_
        have hcm : look tx N i = 47 ∧ look tx N (i + 1) = 47 := ⟨c7, c9⟩
        have hl := look_ltN hcm.2 (by decide)
        refine g_callVi (n := 1) C (c_X0_pastLineComment g a aT aX tr n fed tx ln fa T N i hN (by omega)) gX0_pastBlankOrToken_X0_pastLineComment rfl rfl rfl rfl (by decide) (by decide) rfl (Nat.le_of_ble_eq_true rfl) dX0_pastBlankOrToken_42 ?_
        have hs : stp (look tx N) N i = stpLin (look tx N) N i := by unfold stp; rw [if_neg (by rw [hb]; decide), if_pos hcm]
        exact g_iret C F (by rw [hs]; rfl) (by rw [hs]; unfold stpLin; dsimp only; rw [nI_0, Int32.add_zero]; congr 1; split <;> rfl) dX0_pastBlankOrToken_45
  · have hb := b01_1.mp c6
    have hs : stp (look tx N) N i = (i + 1, none, (if look tx N i = 10 then 1 else 0), none) := by unfold stp; rw [if_pos hb]
    refine g_aload_n C dX0_pastBlankOrToken_13 1 rfl ?_
    refine g_iload_n C dX0_pastBlankOrToken_14 0 rfl ?_
    refine g_callVv (n := 1) C (c_X0_countLine g a aT aX tr n fed tx (nI N) ln fa T (look tx N i)) gX0_pastBlankOrToken_X0_countLine rfl rfl rfl rfl (by decide) (by decide) rfl (Nat.le_of_ble_eq_true rfl) dX0_pastBlankOrToken_15 ?_
    refine g_iload_n C dX0_pastBlankOrToken_18 2 rfl ?_
    refine g_iconst C dX0_pastBlankOrToken_19 (v := 1) (by decide) ?_
    refine g_iadd C dX0_pastBlankOrToken_20 ?_
    refine g_top (nI_add i 1) ?_
    exact g_iret C F (by rw [hs]) (by rw [hs]; dsimp only; congr 1; by_cases h10 : look tx N i = 10; (rw [if_pos h10, if_pos h10]; rfl); (rw [if_neg h10, if_neg h10]; exact (Int32.add_zero ln).symm)) dX0_pastBlankOrToken_21
end
section
/-- the class's cells while the two rows are exchanged: what the fields tray and text hold stands apart -/
def twq (g : Gl) (a : Nat → Nat) (f0 f3 aT aX : Nat) (tr : Nat → Int32) (n fed : Int32) (tx : Nat → Int32) (m ln fa : Int32) (T : TK) : va_W :=
  [(a 0, .inr (0, [.ref f0, .int n, .int fed, .ref f3, .int m, .int ln, .int fa, .ref (a 3), .ref (a 4), .ref (a 5), .ref (a 6), .ref (a 7), .int T.2.2.2.2.2])), (aT, .inl (gB g, 16000, .inl tr)), (aX, .inl (gB g, 16000, .inl tx)), (a 3, .inl (gI g, 16000, .inl T.1)), (a 4, .inl (gI g, 16000, .inl T.2.1)), (a 5, .inl (gI g, 16000, .inl T.2.2.1)), (a 6, .inl (gI g, 16000, .inl T.2.2.2.1)), (a 7, .inl (gI g, 16000, .inl T.2.2.2.2.1))]
set_option maxHeartbeats 4000000 in
set_option maxRecDepth 100000 in
theorem c_X0_takeTray (g : Gl) (a : Nat → Nat) (aT aX : Nat) (tr : Nat → Int32) (n fed : Int32) (tx : Nat → Int32) (m ln fa : Int32) (T : TK) : Ctr g yX0_takeTray wsX0_takeTray ({ frames := 0, cells := 0, slots := 0, locals := 0 }) [.ref (a 0)] (tw g a aT aX tr n fed tx m ln fa T) (none) (tw g a aX aT tx 0 fed tr n 1 (-1) (T.1, T.2.1, T.2.2.1, T.2.2.2.1, T.2.2.2.2.1, 0)) 0 0 := by
  refine Ctr.start (cc := cX0_takeTray) (maxL := 2) (ret := none) (by decide) rfl (Nat.le_of_ble_eq_true rfl) (lv0 := [(0, .ref (a 0))]) rfl ?_
  intro X C F
  have C : Ok g X cX0_takeTray RX0 wsX0_takeTray ({ frames := 0, cells := 0, slots := 0, locals := 0 }) none 2 := C
  have hin : ∀ w ∈ wsX00, w ∈ wsX0_takeTray := fun _ h => List.mem_cons_of_mem _ (List.mem_append_right _ h)
  have lk13 : Cond.fieldLink RX0 13 "TokenRows" "text" "[B" ∈ wsX0_takeTray := by decide +kernel
  have lk32 : Cond.fieldLink RX0 32 "TokenRows" "traySize" "I" ∈ wsX0_takeTray := by decide +kernel
  have lk39 : Cond.fieldLink RX0 39 "TokenRows" "textSize" "I" ∈ wsX0_takeTray := by decide +kernel
  have lk42 : Cond.fieldLink RX0 42 "TokenRows" "lineNow" "I" ∈ wsX0_takeTray := by decide +kernel
  have lk45 : Cond.fieldLink RX0 45 "TokenRows" "fault" "I" ∈ wsX0_takeTray := by decide +kernel
  have lk48 : Cond.fieldLink RX0 48 "TokenRows" "count" "I" ∈ wsX0_takeTray := by decide +kernel
  have lk9 : Cond.fieldLink RX0 9 "TokenRows" "tray" "[B" ∈ wsX0_takeTray := by decide +kernel
  refine g_ws (ws' := (twq g a aT aX aT aX tr n fed tx m ln fa T)) rfl ?_
  refine g_aload_n C dX0_takeTray_0 0 rfl ?_
  refine g_get0 C hin 0 rfl 3 (by decide) lk13 rfl dX0_takeTray_1 ?_
  refine g_astore_n (lv' := [(1, .ref aX), (0, .ref (a 0))]) C dX0_takeTray_4 (by decide) rfl ?_
  refine g_aload_n C dX0_takeTray_5 1 rfl ?_
  refine g_aload_n C dX0_takeTray_6 1 rfl ?_
  refine g_get0 C hin 0 rfl 0 (by decide) lk9 rfl dX0_takeTray_7 ?_
  refine g_put0 (ws' := (twq g a aT aT aT aX tr n fed tx m ln fa T)) C hin 0 rfl 3 (by decide) lk13 rfl rfl rfl (Nat.le_of_ble_eq_true rfl) rfl dX0_takeTray_10 ?_
  refine g_aload_n C dX0_takeTray_13 1 rfl ?_
  refine g_aload_n C dX0_takeTray_14 1 rfl ?_
  refine g_get0 C hin 0 rfl 1 (by decide) lk32 rfl dX0_takeTray_15 ?_
  refine g_put0 (ws' := (twq g a aT aT aT aX tr n fed tx n ln fa T)) C hin 0 rfl 4 (by decide) lk39 rfl rfl rfl (Nat.le_of_ble_eq_true rfl) rfl dX0_takeTray_18 ?_
  refine g_aload_n C dX0_takeTray_21 1 rfl ?_
  refine g_aload_n C dX0_takeTray_22 0 rfl ?_
  refine g_put0 (ws' := (twq g a aX aT aT aX tr n fed tx n ln fa T)) C hin 0 rfl 0 (by decide) lk9 rfl rfl rfl (Nat.le_of_ble_eq_true rfl) rfl dX0_takeTray_23 ?_
  refine g_aload_n C dX0_takeTray_26 1 rfl ?_
  refine g_iconst C dX0_takeTray_27 (v := 0) (by decide) ?_
  refine g_put0 (ws' := (twq g a aX aT aT aX tr 0 fed tx n ln fa T)) C hin 0 rfl 1 (by decide) lk32 rfl rfl rfl (Nat.le_of_ble_eq_true rfl) rfl dX0_takeTray_28 ?_
  refine g_aload_n C dX0_takeTray_31 1 rfl ?_
  refine g_iconst C dX0_takeTray_32 (v := 1) (by decide) ?_
  refine g_put0 (ws' := (twq g a aX aT aT aX tr 0 fed tx n 1 fa T)) C hin 0 rfl 5 (by decide) lk42 rfl rfl rfl (Nat.le_of_ble_eq_true rfl) rfl dX0_takeTray_33 ?_
  refine g_aload_n C dX0_takeTray_36 1 rfl ?_
  refine g_iconst C dX0_takeTray_37 (v := (-1)) (by decide) ?_
  refine g_put0 (ws' := (twq g a aX aT aT aX tr 0 fed tx n 1 (-1) T)) C hin 0 rfl 6 (by decide) lk45 rfl rfl rfl (Nat.le_of_ble_eq_true rfl) rfl dX0_takeTray_38 ?_
  refine g_aload_n C dX0_takeTray_41 1 rfl ?_
  refine g_iconst C dX0_takeTray_42 (v := 0) (by decide) ?_
  refine g_put0 (ws' := (twq g a aX aT aT aX tr 0 fed tx n 1 (-1) (T.1, T.2.1, T.2.2.1, T.2.2.2.1, T.2.2.2.2.1, 0))) C hin 0 rfl 12 (by decide) lk48 rfl rfl rfl (Nat.le_of_ble_eq_true rfl) rfl dX0_takeTray_43 ?_
  refine g_perm [0, 2, 1, 3, 4, 5, 6, 7] (by decide) rfl rfl ?_
  exact g_vret C F (rfl) dX0_takeTray_46
set_option maxHeartbeats 4000000 in
set_option maxRecDepth 100000 in
theorem c_X0_cut (g : Gl) (a : Nat → Nat) (aT aX : Nat) (tr : Nat → Int32) (fed : Int32) (tx : Nat → Int32) (m ln fa : Int32) (T : TK) (N : Nat) (hN : N ≤ 16000) : Ctr g yX0_cut wsX0_cut ({ frames := 4, cells := 0, slots := 0, locals := 91 }) [.ref (a 0)] (tw g a aT aX tr (nI N) fed tx m ln fa T) (some (.int (if (crun (look tr N) N N (0, none, 1, (T.1, T.2.1, T.2.2.1, T.2.2.2.1, T.2.2.2.2.1, 0), 0)).2.1 = none then (crun (look tr N) N N (0, none, 1, (T.1, T.2.1, T.2.2.1, T.2.2.2.1, T.2.2.2.2.1, 0), 0)).2.2.2.1.2.2.2.2.2 else -1))) (tw g a aX aT tx 0 fed tr (nI N) (nI (crun (look tr N) N N (0, none, 1, (T.1, T.2.1, T.2.2.1, T.2.2.2.1, T.2.2.2.2.1, 0), 0)).2.2.1) (stF (crun (look tr N) N N (0, none, 1, (T.1, T.2.1, T.2.2.1, T.2.2.2.1, T.2.2.2.2.1, 0), 0)).2.1 (-1)) (crun (look tr N) N N (0, none, 1, (T.1, T.2.1, T.2.2.1, T.2.2.2.1, T.2.2.2.2.1, 0), 0)).2.2.2.1) 0 0 := by
  refine Ctr.start (cc := cX0_cut) (maxL := 3) (ret := (some .int)) (by decide) rfl (Nat.le_of_ble_eq_true rfl) (lv0 := [(0, .ref (a 0))]) rfl ?_
  intro X C F
  have C : Ok g X cX0_cut RX0 wsX0_cut ({ frames := 4, cells := 0, slots := 0, locals := 91 }) (some .int) 3 := C
  have hin : ∀ w ∈ wsX00, w ∈ wsX0_cut := fun _ h => List.mem_cons_of_mem _ (List.mem_append_right _ h)
  have lk39 : Cond.fieldLink RX0 39 "TokenRows" "textSize" "I" ∈ wsX0_cut := by decide +kernel
  have lk45 : Cond.fieldLink RX0 45 "TokenRows" "fault" "I" ∈ wsX0_cut := by decide +kernel
  have lk48 : Cond.fieldLink RX0 48 "TokenRows" "count" "I" ∈ wsX0_cut := by decide +kernel
  obtain ⟨R, hR⟩ : ∃ R, R = crun (look tr N) N N (0, none, 1, (T.1, T.2.1, T.2.2.1, T.2.2.2.1, T.2.2.2.2.1, 0), 0) := ⟨_, rfl⟩
  rw [← hR] at F
  have ex : (∀ p, R.2.1 = some p → p < N) → ∀ x1 x2 : Int32, G g X (0, 0) (tw g a aX aT tx 0 fed tr (nI N) (nI R.2.2.1) (stF R.2.1 (-1)) R.2.2.2.1) 43 [(2, .int x2), (1, .int x1), (0, .ref (a 0))] [] := by
    intro hb x1 x2
    refine g_aload_n C dX0_cut_43 2 rfl ?_
    refine g_get0 C hin 0 rfl 6 (by decide) lk45 rfl dX0_cut_44 ?_
    refine g_if_ge C dX0_cut_47 (tgt := 57) (by decide) (fun c1 => ?_) (fun c1 => ?_)
    · have hf := stF_some c1
      refine g_iconst C dX0_cut_57 (v := (-1)) (by decide) ?_
      exact g_iret C F (by rw [if_neg hf]) (rfl) dX0_cut_58
    · have hf : R.2.1 = none := stF_none hN hb c1
      refine g_aload_n C dX0_cut_50 2 rfl ?_
      refine g_get0 C hin 0 rfl 12 (by decide) lk48 rfl dX0_cut_51 ?_
      refine g_goto C dX0_cut_54 (tgt := 58) (by decide) ?_
      exact g_iret C F (by rw [if_pos hf]) (rfl) dX0_cut_58
  have loop : ∀ (k0 k f : Nat) (s : Run), k + f = N → N + 1 ≤ k + k0 → s.1 ≤ N → s.2.2.2.1.2.2.2.2.2 = nI s.2.2.2.2 → (s.2.2.2.2 ≤ s.1 ∨ s.2.1 ≠ none ∧ s.2.2.2.2 ≤ N) → (∀ p, s.2.1 = some p → p < N) → crun (look tr N) N f s = R → G g X (0, 0) (tw g a aX aT tx 0 fed tr (nI N) (nI s.2.2.1) (stF s.2.1 (-1)) s.2.2.2.1) 8 [(2, .int (nI k)), (1, .int (nI s.1)), (0, .ref (a 0))] [] := by
    intro k0
    induction k0 with
    | zero => intro k f s h0 h1 h2 h3 h4 hb h5; omega
    | succ k0 ih =>
      intro k f s h0 h1 h2 h3 h4 hb h5
      refine g_iload_n C dX0_cut_8 0 rfl ?_
      refine g_aload_n C dX0_cut_9 2 rfl ?_
      refine g_get0 C hin 0 rfl 4 (by decide) lk39 rfl dX0_cut_10 ?_
      refine g_icmp_ge C dX0_cut_13 (tgt := 43) (by decide) (fun c2 => ?_) (fun c2 => ?_)
      · have hk := (nI_leI (by omega) (by omega)).mp c2
        have hf0 : f = 0 := by omega
        subst hf0
        rw [crun] at h5
        subst h5
        exact ex hb _ _
      · have hk : k < N := Nat.not_le.mp (fun z => c2 (nI_le z (by omega)))
        obtain ⟨f, rfl⟩ : ∃ f9, f = f9 + 1 := ⟨f - 1, by omega⟩
        refine g_iload_n C dX0_cut_16 1 rfl ?_
        refine g_aload_n C dX0_cut_17 2 rfl ?_
        refine g_get0 C hin 0 rfl 4 (by decide) lk39 rfl dX0_cut_18 ?_
        refine g_icmp_ge C dX0_cut_21 (tgt := 43) (by decide) (fun c3 => ?_) (fun c3 => ?_)
        · have hk2 := (nI_leI (by omega) (by omega)).mp c3
          rw [crun, if_neg (fun z => by omega)] at h5
          subst h5
          exact ex hb _ _
        · have hs1 : s.1 < N := Nat.not_le.mp (fun z => c3 (nI_le z (by omega)))
          refine g_aload_n C dX0_cut_24 2 rfl ?_
          refine g_get0 C hin 0 rfl 6 (by decide) lk45 rfl dX0_cut_25 ?_
          refine g_if_ge C dX0_cut_28 (tgt := 43) (by decide) (fun c4 => ?_) (fun c4 => ?_)
          · rw [crun, if_neg (fun z => stF_some c4 z.2)] at h5
            subst h5
            exact ex hb _ _
          · have hf : s.2.1 = none := stF_none hN hb c4
            rw [crun, if_pos ⟨hs1, hf⟩] at h5
            refine g_aload_n C dX0_cut_31 2 rfl ?_
            refine g_iload_n C dX0_cut_32 1 rfl ?_
            refine g_callVi (n := 1) C (c_X0_pastBlankOrToken g a aX aT tx 0 fed tr (nI s.2.2.1) (stF s.2.1 (-1)) s.2.2.2.1 N s.2.2.2.2 s.1 hN hs1 h3 (by have := run_lt h4 hf; omega)) gX0_cut_X0_pastBlankOrToken rfl rfl rfl rfl (by decide) (by decide) rfl (Nat.le_of_ble_eq_true rfl) dX0_cut_33 ?_
            refine g_istore_n (lv' := [(1, .int (nI (stp (look tr N) N s.1).1)), (2, .int (nI k)), (0, .ref (a 0))]) C dX0_cut_36 (by decide) rfl ?_
            refine g_iinc (o := 1) (v := nI (k + 1)) (lv' := [(2, .int (nI (k + 1))), (1, .int (nI (stp (look tr N) N s.1).1)), (0, .ref (a 0))]) C dX0_cut_37 rfl (nI_add k 1) (by decide) rfl ?_
            refine g_goto C dX0_cut_40 (tgt := 8) (by decide) ?_
            have hp := stp_prog (tx := tr) hs1
            refine g_ws (ws' := (tw g a aX aT tx 0 fed tr (nI N) (nI (rstep (look tr N) N s).2.2.1) (stF (rstep (look tr N) N s).2.1 (-1)) ((rstep (look tr N) N s).2.2.2.1))) (by rw [hf, nI_add]; rfl) ?_
            exact ih (k + 1) f (rstep (look tr N) N s) (by omega) (by omega) hp.2.1 (run_T h3) (run_c hs1 hf h4) (fun p hp => stp_fa hs1 hp) h5
  refine g_aload_n C dX0_cut_0 0 rfl ?_
  refine g_callVv (n := 0) C (c_X0_takeTray g a aT aX tr (nI N) fed tx m ln fa T) gX0_cut_X0_takeTray rfl rfl rfl rfl (by decide) (by decide) rfl (Nat.le_of_ble_eq_true rfl) dX0_cut_1 ?_
  refine g_iconst C dX0_cut_4 (v := 0) (by decide) ?_
  refine g_istore_n (lv' := [(1, .int 0), (0, .ref (a 0))]) C dX0_cut_5 (by decide) rfl ?_
  refine g_iconst C dX0_cut_6 (v := 0) (by decide) ?_
  refine g_istore_n (lv' := [(2, .int 0), (1, .int 0), (0, .ref (a 0))]) C dX0_cut_7 (by decide) rfl ?_
  refine g_ws (ws' := (tw g a aX aT tx 0 fed tr (nI N) (nI (((0, none, 1, (T.1, T.2.1, T.2.2.1, T.2.2.2.1, T.2.2.2.2.1, 0), 0) : Run)).2.2.1) (stF (((0, none, 1, (T.1, T.2.1, T.2.2.1, T.2.2.2.1, T.2.2.2.2.1, 0), 0) : Run)).2.1 (-1)) ((((0, none, 1, (T.1, T.2.1, T.2.2.1, T.2.2.2.1, T.2.2.2.2.1, 0), 0) : Run)).2.2.2.1))) rfl ?_
  exact loop (N + 1) 0 N (0, none, 1, (T.1, T.2.1, T.2.2.1, T.2.2.2.1, T.2.2.2.2.1, 0), 0) (by omega) (by omega) (Nat.zero_le N) rfl (Or.inl (Nat.le_refl 0)) (fun p hp => by cases hp) hR.symm
end
section
/-- the four bytes of an int, the highest first, as the class cuts them -/
def cb (x : Int32) : Nat → Int32
  | 0 => (x.toUInt32 >>> (Int32.toUInt32 24 &&& Int32.toUInt32 31)).toInt32.toInt8.toInt32
  | 1 => (x.toUInt32 >>> (Int32.toUInt32 16 &&& Int32.toUInt32 31)).toInt32.toInt8.toInt32
  | 2 => (x.toUInt32 >>> (Int32.toUInt32 8 &&& Int32.toUInt32 31)).toInt32.toInt8.toInt32
  | _ => x.toInt8.toInt32
def put4 (tr : Nat → Int32) (t : Nat) (x : Int32) : Nat → Int32 := upd (upd (upd (upd tr t (cb x 0)) (t + 1) (cb x 1)) (t + 2) (cb x 2)) (t + 3) (cb x 3)
def put20 (tr : Nat → Int32) (t : Nat) (x y z u v : Int32) : Nat → Int32 := put4 (put4 (put4 (put4 (put4 tr t x) (t + 4) y) (t + 8) z) (t + 12) u) (t + 16) v
set_option maxHeartbeats 4000000 in
set_option maxRecDepth 100000 in
theorem c_X0_putByte (g : Gl) (a : Nat → Nat) (aT aX : Nat) (tr : Nat → Int32) (fed : Int32) (tx : Nat → Int32) (m ln fa : Int32) (T : TK) (t : Nat) (ht : t < 16000) (x : Int32) : Ctr g yX0_putByte wsX0_putByte ({ frames := 0, cells := 0, slots := 0, locals := 0 }) [.ref (a 0), .int x] (tw g a aT aX tr (nI t) fed tx m ln fa T) (none) (tw g a aT aX (upd tr t x.toInt8.toInt32) (nI (t + 1)) fed tx m ln fa T) 0 0 := by
  refine Ctr.start (cc := cX0_putByte) (maxL := 2) (ret := none) (by decide) rfl (Nat.le_of_ble_eq_true rfl) (lv0 := [(0, .ref (a 0)), (1, .int x)]) rfl ?_
  intro X C F
  have C : Ok g X cX0_putByte RX0 wsX0_putByte ({ frames := 0, cells := 0, slots := 0, locals := 0 }) none 2 := C
  have hin : ∀ w ∈ wsX00, w ∈ wsX0_putByte := fun _ h => List.mem_cons_of_mem _ (List.mem_append_right _ h)
  have lk32 : Cond.fieldLink RX0 32 "TokenRows" "traySize" "I" ∈ wsX0_putByte := by decide +kernel
  have lk9 : Cond.fieldLink RX0 9 "TokenRows" "tray" "[B" ∈ wsX0_putByte := by decide +kernel
  refine g_aload_n C dX0_putByte_0 0 rfl ?_
  refine g_get0 C hin 0 rfl 1 (by decide) lk32 rfl dX0_putByte_1 ?_
  refine g_if_lt C dX0_putByte_4 (tgt := 40) (by decide) (fun c1 => ?_) (fun c1 => ?_)
  · exact absurd c1 (nI_pos (by omega))
  · refine g_aload_n C dX0_putByte_7 0 rfl ?_
    refine g_get0 C hin 0 rfl 1 (by decide) lk32 rfl dX0_putByte_8 ?_
    refine g_aload_n C dX0_putByte_11 0 rfl ?_
    refine g_get0 C hin 0 rfl 0 (by decide) lk9 rfl dX0_putByte_12 ?_
    refine g_alenB C 1 rfl (v := 16000) (by decide) dX0_putByte_15 ?_
    refine g_icmp_ge C dX0_putByte_16 (tgt := 40) (by decide) (fun c2 => ?_) (fun c2 => ?_)
    · exact absurd (nI_lt (a := t) (b := 16000) ht (by omega)) (Int32.not_lt.mpr c2)
    · refine g_aload_n C dX0_putByte_19 0 rfl ?_
      refine g_get0 C hin 0 rfl 0 (by decide) lk9 rfl dX0_putByte_20 ?_
      refine g_aload_n C dX0_putByte_23 0 rfl ?_
      refine g_get0 C hin 0 rfl 1 (by decide) lk32 rfl dX0_putByte_24 ?_
      refine g_iload_n C dX0_putByte_27 1 rfl ?_
      refine g_i2b C dX0_putByte_28 (v := x.toInt8.toInt32) rfl ?_
      refine g_bast (v := x.toInt8.toInt32) (ws' := (tw g a aT aX (upd tr t x.toInt8.toInt32) (nI t) fed tx m ln fa T)) C 1 rfl (vp_in_nI ht (by omega)) (pk_vb _) (by rw [nI_clamp (by omega)]; rfl) dX0_putByte_29 ?_
      refine g_aload_n C dX0_putByte_30 0 rfl ?_
      refine g_dup C dX0_putByte_31 rfl ?_
      refine g_get0 C hin 0 rfl 1 (by decide) lk32 rfl dX0_putByte_32 ?_
      refine g_iconst C dX0_putByte_35 (v := 1) (by decide) ?_
      refine g_iadd C dX0_putByte_36 ?_
      refine g_top (nI_add t 1) ?_
      refine g_put0 (ws' := (tw g a aT aX (upd tr t x.toInt8.toInt32) (nI (t + 1)) fed tx m ln fa T)) C hin 0 rfl 1 (by decide) lk32 rfl rfl rfl (Nat.le_of_ble_eq_true rfl) rfl dX0_putByte_37 ?_
      exact g_vret C F (rfl) dX0_putByte_40
set_option maxHeartbeats 4000000 in
set_option maxRecDepth 100000 in
theorem c_X0_putInt (g : Gl) (a : Nat → Nat) (aT aX : Nat) (tr : Nat → Int32) (fed : Int32) (tx : Nat → Int32) (m ln fa : Int32) (T : TK) (t : Nat) (ht : t + 4 ≤ 16000) (x : Int32) : Ctr g yX0_putInt wsX0_putInt ({ frames := 1, cells := 0, slots := 0, locals := 21 }) [.ref (a 0), .int x] (tw g a aT aX tr (nI t) fed tx m ln fa T) (none) (tw g a aT aX (put4 tr t x) (nI (t + 4)) fed tx m ln fa T) 0 0 := by
  refine Ctr.start (cc := cX0_putInt) (maxL := 2) (ret := none) (by decide) rfl (Nat.le_of_ble_eq_true rfl) (lv0 := [(0, .ref (a 0)), (1, .int x)]) rfl ?_
  intro X C F
  have C : Ok g X cX0_putInt RX0 wsX0_putInt ({ frames := 1, cells := 0, slots := 0, locals := 21 }) none 2 := C
  have hin : ∀ w ∈ wsX00, w ∈ wsX0_putInt := fun _ h => List.mem_cons_of_mem _ (List.mem_append_right _ h)
  refine g_aload_n C dX0_putInt_0 0 rfl ?_
  refine g_iload_n C dX0_putInt_1 1 rfl ?_
  refine g_bipush C dX0_putInt_2 (v := 24) (by decide) ?_
  refine g_iushr C dX0_putInt_4 (v := (x.toUInt32 >>> (Int32.toUInt32 24 &&& Int32.toUInt32 31)).toInt32) rfl ?_
  refine g_callVv (n := 1) C (c_X0_putByte g a aT aX tr fed tx m ln fa T t (by omega) ((x.toUInt32 >>> (Int32.toUInt32 24 &&& Int32.toUInt32 31)).toInt32)) gX0_putInt_X0_putByte rfl rfl rfl rfl (by decide) (by decide) rfl (Nat.le_of_ble_eq_true rfl) dX0_putInt_5 ?_
  refine g_aload_n C dX0_putInt_8 0 rfl ?_
  refine g_iload_n C dX0_putInt_9 1 rfl ?_
  refine g_bipush C dX0_putInt_10 (v := 16) (by decide) ?_
  refine g_iushr C dX0_putInt_12 (v := (x.toUInt32 >>> (Int32.toUInt32 16 &&& Int32.toUInt32 31)).toInt32) rfl ?_
  refine g_callVv (n := 1) C (c_X0_putByte g a aT aX (upd tr t ((x.toUInt32 >>> (Int32.toUInt32 24 &&& Int32.toUInt32 31)).toInt32).toInt8.toInt32) fed tx m ln fa T (t + 1) (by omega) ((x.toUInt32 >>> (Int32.toUInt32 16 &&& Int32.toUInt32 31)).toInt32)) gX0_putInt_X0_putByte rfl rfl rfl rfl (by decide) (by decide) rfl (Nat.le_of_ble_eq_true rfl) dX0_putInt_13 ?_
  refine g_aload_n C dX0_putInt_16 0 rfl ?_
  refine g_iload_n C dX0_putInt_17 1 rfl ?_
  refine g_bipush C dX0_putInt_18 (v := 8) (by decide) ?_
  refine g_iushr C dX0_putInt_20 (v := (x.toUInt32 >>> (Int32.toUInt32 8 &&& Int32.toUInt32 31)).toInt32) rfl ?_
  refine g_callVv (n := 1) C (c_X0_putByte g a aT aX (upd (upd tr t ((x.toUInt32 >>> (Int32.toUInt32 24 &&& Int32.toUInt32 31)).toInt32).toInt8.toInt32) (t + 1) ((x.toUInt32 >>> (Int32.toUInt32 16 &&& Int32.toUInt32 31)).toInt32).toInt8.toInt32) fed tx m ln fa T (t + 2) (by omega) ((x.toUInt32 >>> (Int32.toUInt32 8 &&& Int32.toUInt32 31)).toInt32)) gX0_putInt_X0_putByte rfl rfl rfl rfl (by decide) (by decide) rfl (Nat.le_of_ble_eq_true rfl) dX0_putInt_21 ?_
  refine g_aload_n C dX0_putInt_24 0 rfl ?_
  refine g_iload_n C dX0_putInt_25 1 rfl ?_
  refine g_callVv (n := 1) C (c_X0_putByte g a aT aX (upd (upd (upd tr t ((x.toUInt32 >>> (Int32.toUInt32 24 &&& Int32.toUInt32 31)).toInt32).toInt8.toInt32) (t + 1) ((x.toUInt32 >>> (Int32.toUInt32 16 &&& Int32.toUInt32 31)).toInt32).toInt8.toInt32) (t + 2) ((x.toUInt32 >>> (Int32.toUInt32 8 &&& Int32.toUInt32 31)).toInt32).toInt8.toInt32) fed tx m ln fa T (t + 3) (by omega) x) gX0_putInt_X0_putByte rfl rfl rfl rfl (by decide) (by decide) rfl (Nat.le_of_ble_eq_true rfl) dX0_putInt_26 ?_
  exact g_vret C F (rfl) dX0_putInt_29
set_option maxHeartbeats 4000000 in
set_option maxRecDepth 100000 in
theorem c_X0_feed (g : Gl) (a : Nat → Nat) (aT aX : Nat) (tr : Nat → Int32)  (tx : Nat → Int32) (m ln fa : Int32) (T : TK) (t f : Nat) (ht : t ≤ 16000) (hf : f ≤ 65536) (x y z u v : Int32) (h : t + 20 ≤ 16000 ∧ f + 20 ≤ 65536) : Ctr g yX0_feed wsX0_feed ({ frames := 2, cells := 0, slots := 0, locals := 42 }) [.ref (a 0), .int x, .int y, .int z, .int u, .int v] (tw g a aT aX tr (nI t) (nI f) tx m ln fa T) (some (.int (nI (t + 20)))) (tw g a aT aX (put20 tr t x y z u v) (nI (t + 20)) (nI (f + 20)) tx m ln fa T) 0 0 := by
  refine Ctr.start (cc := cX0_feed) (maxL := 6) (ret := (some .int)) (by decide) rfl (Nat.le_of_ble_eq_true rfl) (lv0 := [(0, .ref (a 0)), (1, .int x), (2, .int y), (3, .int z), (4, .int u), (5, .int v)]) rfl ?_
  intro X C F
  have C : Ok g X cX0_feed RX0 wsX0_feed ({ frames := 2, cells := 0, slots := 0, locals := 42 }) (some .int) 6 := C
  have hin : ∀ w ∈ wsX00, w ∈ wsX0_feed := fun _ h => List.mem_cons_of_mem _ (List.mem_append_right _ h)
  have lc51 : Cond.constant RX0 51 (65536) ∈ wsX0_feed := by decide +kernel
  have lk32 : Cond.fieldLink RX0 32 "TokenRows" "traySize" "I" ∈ wsX0_feed := by decide +kernel
  have lk36 : Cond.fieldLink RX0 36 "TokenRows" "fedInAll" "I" ∈ wsX0_feed := by decide +kernel
  refine g_aload_n C dX0_feed_0 0 rfl ?_
  refine g_get0 C hin 0 rfl 1 (by decide) lk32 rfl dX0_feed_1 ?_
  refine g_bipush C dX0_feed_4 (v := 20) (by decide) ?_
  refine g_iadd C dX0_feed_6 ?_
  refine g_top (nI_add t 20) ?_
  refine g_sipush C dX0_feed_7 (v := 16000) (by decide) ?_
  refine g_icmp_gt C dX0_feed_10 (tgt := 25) (by decide) (fun c1 => ?_) (fun c1 => ?_)
  · have q1 : 16000 < t + 20 := (nI_ltI (a := 16000) (by omega) (by omega)).mp c1
    omega
  · have q1 : ¬ 16000 < t + 20 := fun z => c1 (nI_lt (a := 16000) z (by omega))
    refine g_aload_n C dX0_feed_13 0 rfl ?_
    refine g_get0 C hin 0 rfl 2 (by decide) lk36 rfl dX0_feed_14 ?_
    refine g_bipush C dX0_feed_17 (v := 20) (by decide) ?_
    refine g_iadd C dX0_feed_19 ?_
    refine g_top (nI_add f 20) ?_
    refine g_ldc C dX0_feed_20 (v := 65536) lc51 ?_
    refine g_icmp_le C dX0_feed_22 (tgt := 27) (by decide) (fun c2 => ?_) (fun c2 => ?_)
    · have q2 : f + 20 ≤ 65536 := (nI_leI (b := 65536) (by omega) (by omega)).mp c2
      refine g_aload_n C dX0_feed_27 0 rfl ?_
      refine g_iload_n C dX0_feed_28 1 rfl ?_
      refine g_callVv (n := 1) C (c_X0_putInt g a aT aX tr (nI f) tx m ln fa T t (by omega) x) gX0_feed_X0_putInt rfl rfl rfl rfl (by decide) (by decide) rfl (Nat.le_of_ble_eq_true rfl) dX0_feed_29 ?_
      refine g_aload_n C dX0_feed_32 0 rfl ?_
      refine g_iload_n C dX0_feed_33 2 rfl ?_
      refine g_callVv (n := 1) C (c_X0_putInt g a aT aX (put4 tr t x) (nI f) tx m ln fa T (t + 4) (by omega) y) gX0_feed_X0_putInt rfl rfl rfl rfl (by decide) (by decide) rfl (Nat.le_of_ble_eq_true rfl) dX0_feed_34 ?_
      refine g_aload_n C dX0_feed_37 0 rfl ?_
      refine g_iload_n C dX0_feed_38 3 rfl ?_
      refine g_callVv (n := 1) C (c_X0_putInt g a aT aX (put4 (put4 tr t x) (t + 4) y) (nI f) tx m ln fa T (t + 8) (by omega) z) gX0_feed_X0_putInt rfl rfl rfl rfl (by decide) (by decide) rfl (Nat.le_of_ble_eq_true rfl) dX0_feed_39 ?_
      refine g_aload_n C dX0_feed_42 0 rfl ?_
      refine g_iload C dX0_feed_43 4 rfl ?_
      refine g_callVv (n := 1) C (c_X0_putInt g a aT aX (put4 (put4 (put4 tr t x) (t + 4) y) (t + 8) z) (nI f) tx m ln fa T (t + 12) (by omega) u) gX0_feed_X0_putInt rfl rfl rfl rfl (by decide) (by decide) rfl (Nat.le_of_ble_eq_true rfl) dX0_feed_45 ?_
      refine g_aload_n C dX0_feed_48 0 rfl ?_
      refine g_iload C dX0_feed_49 5 rfl ?_
      refine g_callVv (n := 1) C (c_X0_putInt g a aT aX (put4 (put4 (put4 (put4 tr t x) (t + 4) y) (t + 8) z) (t + 12) u) (nI f) tx m ln fa T (t + 16) (by omega) v) gX0_feed_X0_putInt rfl rfl rfl rfl (by decide) (by decide) rfl (Nat.le_of_ble_eq_true rfl) dX0_feed_51 ?_
      refine g_aload_n C dX0_feed_54 0 rfl ?_
      refine g_dup C dX0_feed_55 rfl ?_
      refine g_get0 C hin 0 rfl 2 (by decide) lk36 rfl dX0_feed_56 ?_
      refine g_bipush C dX0_feed_59 (v := 20) (by decide) ?_
      refine g_iadd C dX0_feed_61 ?_
      refine g_top (nI_add f 20) ?_
      refine g_put0 (ws' := (tw g a aT aX (put4 (put4 (put4 (put4 (put4 tr t x) (t + 4) y) (t + 8) z) (t + 12) u) (t + 16) v) (nI (t + 20)) (nI (f + 20)) tx m ln fa T)) C hin 0 rfl 2 (by decide) lk36 rfl rfl rfl (Nat.le_of_ble_eq_true rfl) rfl dX0_feed_62 ?_
      refine g_aload_n C dX0_feed_65 0 rfl ?_
      refine g_get0 C hin 0 rfl 1 (by decide) lk32 rfl dX0_feed_66 ?_
      exact g_iret C F (rfl) (rfl) dX0_feed_69
    · have q2 : ¬ f + 20 ≤ 65536 := fun z => c2 (nI_le (b := 65536) z (by omega))
      omega
set_option maxHeartbeats 4000000 in
set_option maxRecDepth 100000 in
theorem c_X0_feedN (g : Gl) (a : Nat → Nat) (aT aX : Nat) (tr : Nat → Int32)  (tx : Nat → Int32) (m ln fa : Int32) (T : TK) (t f : Nat) (ht : t ≤ 16000) (hf : f ≤ 65536) (x y z u v : Int32) (h : ¬ (t + 20 ≤ 16000 ∧ f + 20 ≤ 65536)) : Ctr g yX0_feed wsX0_feed ({ frames := 2, cells := 0, slots := 0, locals := 42 }) [.ref (a 0), .int x, .int y, .int z, .int u, .int v] (tw g a aT aX tr (nI t) (nI f) tx m ln fa T) (some (.int (-1))) (tw g a aT aX tr (nI t) (nI f) tx m ln fa T) 0 0 := by
  refine Ctr.start (cc := cX0_feed) (maxL := 6) (ret := (some .int)) (by decide) rfl (Nat.le_of_ble_eq_true rfl) (lv0 := [(0, .ref (a 0)), (1, .int x), (2, .int y), (3, .int z), (4, .int u), (5, .int v)]) rfl ?_
  intro X C F
  have C : Ok g X cX0_feed RX0 wsX0_feed ({ frames := 2, cells := 0, slots := 0, locals := 42 }) (some .int) 6 := C
  have hin : ∀ w ∈ wsX00, w ∈ wsX0_feed := fun _ h => List.mem_cons_of_mem _ (List.mem_append_right _ h)
  have lc51 : Cond.constant RX0 51 (65536) ∈ wsX0_feed := by decide +kernel
  have lk32 : Cond.fieldLink RX0 32 "TokenRows" "traySize" "I" ∈ wsX0_feed := by decide +kernel
  have lk36 : Cond.fieldLink RX0 36 "TokenRows" "fedInAll" "I" ∈ wsX0_feed := by decide +kernel
  refine g_aload_n C dX0_feed_0 0 rfl ?_
  refine g_get0 C hin 0 rfl 1 (by decide) lk32 rfl dX0_feed_1 ?_
  refine g_bipush C dX0_feed_4 (v := 20) (by decide) ?_
  refine g_iadd C dX0_feed_6 ?_
  refine g_top (nI_add t 20) ?_
  refine g_sipush C dX0_feed_7 (v := 16000) (by decide) ?_
  refine g_icmp_gt C dX0_feed_10 (tgt := 25) (by decide) (fun c1 => ?_) (fun c1 => ?_)
  · refine g_iconst C dX0_feed_25 (v := (-1)) (by decide) ?_
    exact g_iret C F (rfl) (rfl) dX0_feed_26
  · have q1 : ¬ 16000 < t + 20 := fun z => c1 (nI_lt (a := 16000) z (by omega))
    refine g_aload_n C dX0_feed_13 0 rfl ?_
    refine g_get0 C hin 0 rfl 2 (by decide) lk36 rfl dX0_feed_14 ?_
    refine g_bipush C dX0_feed_17 (v := 20) (by decide) ?_
    refine g_iadd C dX0_feed_19 ?_
    refine g_top (nI_add f 20) ?_
    refine g_ldc C dX0_feed_20 (v := 65536) lc51 ?_
    refine g_icmp_le C dX0_feed_22 (tgt := 27) (by decide) (fun c2 => ?_) (fun c2 => ?_)
    · have q2 : f + 20 ≤ 65536 := (nI_leI (b := 65536) (by omega) (by omega)).mp c2
      exact absurd ⟨by omega, q2⟩ h
    · refine g_iconst C dX0_feed_25 (v := (-1)) (by decide) ?_
      exact g_iret C F (rfl) (rfl) dX0_feed_26
set_option maxHeartbeats 4000000 in
set_option maxRecDepth 100000 in
theorem c_X0_end (g : Gl) (a : Nat → Nat) (aT aX : Nat) (tr : Nat → Int32) (fed : Int32) (tx : Nat → Int32) (m ln fa : Int32) (T : TK) (t j : Nat) (ht : t ≤ 16000) (hj : j ≤ t) : Ctr g yX0_end wsX0_end ({ frames := 0, cells := 0, slots := 0, locals := 0 }) [.ref (a 0), .int (nI j)] (tw g a aT aX tr (nI t) fed tx m ln fa T) (some (.int (nI j))) (tw g a aT aX tr (nI j) fed tx m ln fa T) 0 0 := by
  refine Ctr.start (cc := cX0_end) (maxL := 2) (ret := (some .int)) (by decide) rfl (Nat.le_of_ble_eq_true rfl) (lv0 := [(0, .ref (a 0)), (1, .int (nI j))]) rfl ?_
  intro X C F
  have C : Ok g X cX0_end RX0 wsX0_end ({ frames := 0, cells := 0, slots := 0, locals := 0 }) (some .int) 2 := C
  have hin : ∀ w ∈ wsX00, w ∈ wsX0_end := fun _ h => List.mem_cons_of_mem _ (List.mem_append_right _ h)
  have lk32 : Cond.fieldLink RX0 32 "TokenRows" "traySize" "I" ∈ wsX0_end := by decide +kernel
  refine g_iload_n C dX0_end_0 1 rfl ?_
  refine g_if_lt C dX0_end_1 (tgt := 12) (by decide) (fun c1 => ?_) (fun c1 => ?_)
  · exact absurd c1 (nI_pos (by omega))
  · refine g_iload_n C dX0_end_4 1 rfl ?_
    refine g_aload_n C dX0_end_5 0 rfl ?_
    refine g_get0 C hin 0 rfl 1 (by decide) lk32 rfl dX0_end_6 ?_
    refine g_icmp_le C dX0_end_9 (tgt := 14) (by decide) (fun c2 => ?_) (fun c2 => ?_)
    · refine g_aload_n C dX0_end_14 0 rfl ?_
      refine g_iload_n C dX0_end_15 1 rfl ?_
      refine g_put0 (ws' := (tw g a aT aX tr (nI j) fed tx m ln fa T)) C hin 0 rfl 1 (by decide) lk32 rfl rfl rfl (Nat.le_of_ble_eq_true rfl) rfl dX0_end_16 ?_
      refine g_iload_n C dX0_end_19 1 rfl ?_
      exact g_iret C F (rfl) (rfl) dX0_end_20
    · exact absurd (nI_le hj (by omega)) c2
set_option maxHeartbeats 4000000 in
set_option maxRecDepth 100000 in
theorem c_X0_endN (g : Gl) (a : Nat → Nat) (aT aX : Nat) (tr : Nat → Int32) (fed : Int32) (tx : Nat → Int32) (m ln fa : Int32) (T : TK) (t : Nat) (ht : t ≤ 16000) (x : Int32) (h : ¬ (0 ≤ x.toInt ∧ x.toInt ≤ (t : Int))) : Ctr g yX0_end wsX0_end ({ frames := 0, cells := 0, slots := 0, locals := 0 }) [.ref (a 0), .int x] (tw g a aT aX tr (nI t) fed tx m ln fa T) (some (.int (-1))) (tw g a aT aX tr (nI t) fed tx m ln fa T) 0 0 := by
  refine Ctr.start (cc := cX0_end) (maxL := 2) (ret := (some .int)) (by decide) rfl (Nat.le_of_ble_eq_true rfl) (lv0 := [(0, .ref (a 0)), (1, .int x)]) rfl ?_
  intro X C F
  have C : Ok g X cX0_end RX0 wsX0_end ({ frames := 0, cells := 0, slots := 0, locals := 0 }) (some .int) 2 := C
  have hin : ∀ w ∈ wsX00, w ∈ wsX0_end := fun _ h => List.mem_cons_of_mem _ (List.mem_append_right _ h)
  have lk32 : Cond.fieldLink RX0 32 "TokenRows" "traySize" "I" ∈ wsX0_end := by decide +kernel
  refine g_iload_n C dX0_end_0 1 rfl ?_
  refine g_if_lt C dX0_end_1 (tgt := 12) (by decide) (fun c1 => ?_) (fun c1 => ?_)
  · refine g_iconst C dX0_end_12 (v := (-1)) (by decide) ?_
    exact g_iret C F (rfl) (rfl) dX0_end_13
  · refine g_iload_n C dX0_end_4 1 rfl ?_
    refine g_aload_n C dX0_end_5 0 rfl ?_
    refine g_get0 C hin 0 rfl 1 (by decide) lk32 rfl dX0_end_6 ?_
    refine g_icmp_le C dX0_end_9 (tgt := 14) (by decide) (fun c2 => ?_) (fun c2 => ?_)
    · have q := k_le (nI_toInt (n := t) (by omega)) c2
      have q0 := k_nlt (b := 0) (by decide) c1
      omega
    · refine g_iconst C dX0_end_12 (v := (-1)) (by decide) ?_
      exact g_iret C F (rfl) (rfl) dX0_end_13
set_option maxHeartbeats 4000000 in
set_option maxRecDepth 100000 in
theorem c_X0_place (g : Gl) (a : Nat → Nat) (aT aX : Nat) (tr : Nat → Int32) (n fed : Int32) (tx : Nat → Int32) (m ln fa : Int32) (T : TK) : Ctr g yX0_place wsX0_place ({ frames := 0, cells := 0, slots := 0, locals := 0 }) [.ref (a 0)] (tw g a aT aX tr n fed tx m ln fa T) (some (.int fa)) (tw g a aT aX tr n fed tx m ln fa T) 0 0 := by
  refine Ctr.start (cc := cX0_place) (maxL := 1) (ret := (some .int)) (by decide) rfl (Nat.le_of_ble_eq_true rfl) (lv0 := [(0, .ref (a 0))]) rfl ?_
  intro X C F
  have C : Ok g X cX0_place RX0 wsX0_place ({ frames := 0, cells := 0, slots := 0, locals := 0 }) (some .int) 1 := C
  have hin : ∀ w ∈ wsX00, w ∈ wsX0_place := fun _ h => List.mem_cons_of_mem _ (List.mem_append_right _ h)
  have lk45 : Cond.fieldLink RX0 45 "TokenRows" "fault" "I" ∈ wsX0_place := by decide +kernel
  refine g_aload_n C dX0_place_0 0 rfl ?_
  refine g_get0 C hin 0 rfl 6 (by decide) lk45 rfl dX0_place_1 ?_
  exact g_iret C F (rfl) (rfl) dX0_place_4
set_option maxHeartbeats 4000000 in
set_option maxRecDepth 100000 in
theorem c_X0_tokens (g : Gl) (a : Nat → Nat) (aT aX : Nat) (tr : Nat → Int32) (n fed : Int32) (tx : Nat → Int32) (m ln fa : Int32) (T : TK) : Ctr g yX0_tokens wsX0_tokens ({ frames := 0, cells := 0, slots := 0, locals := 0 }) [.ref (a 0)] (tw g a aT aX tr n fed tx m ln fa T) (some (.int T.2.2.2.2.2)) (tw g a aT aX tr n fed tx m ln fa T) 0 0 := by
  refine Ctr.start (cc := cX0_tokens) (maxL := 1) (ret := (some .int)) (by decide) rfl (Nat.le_of_ble_eq_true rfl) (lv0 := [(0, .ref (a 0))]) rfl ?_
  intro X C F
  have C : Ok g X cX0_tokens RX0 wsX0_tokens ({ frames := 0, cells := 0, slots := 0, locals := 0 }) (some .int) 1 := C
  have hin : ∀ w ∈ wsX00, w ∈ wsX0_tokens := fun _ h => List.mem_cons_of_mem _ (List.mem_append_right _ h)
  have lk48 : Cond.fieldLink RX0 48 "TokenRows" "count" "I" ∈ wsX0_tokens := by decide +kernel
  refine g_aload_n C dX0_tokens_0 0 rfl ?_
  refine g_get0 C hin 0 rfl 12 (by decide) lk48 rfl dX0_tokens_1 ?_
  exact g_iret C F (rfl) (rfl) dX0_tokens_4
set_option maxHeartbeats 4000000 in
set_option maxRecDepth 100000 in
theorem c_X0_kind (g : Gl) (a : Nat → Nat) (aT aX : Nat) (tr : Nat → Int32) (n fed : Int32) (tx : Nat → Int32) (m ln fa : Int32) (T : TK) (c : Nat) (hT : T.2.2.2.2.2 = nI c) (hc : c ≤ 16000) (x : Int32) : Ctr g yX0_kind wsX0_kind ({ frames := 1, cells := 0, slots := 0, locals := 21 }) [.ref (a 0), .int x] (tw g a aT aX tr n fed tx m ln fa T) (some (.int (if bTok c x = true then T.1 x.toNatClampNeg else 0))) (tw g a aT aX tr n fed tx m ln fa T) 0 0 := by
  refine Ctr.start (cc := cX0_kind) (maxL := 2) (ret := (some .int)) (by decide) rfl (Nat.le_of_ble_eq_true rfl) (lv0 := [(0, .ref (a 0)), (1, .int x)]) rfl ?_
  intro X C F
  have C : Ok g X cX0_kind RX0 wsX0_kind ({ frames := 1, cells := 0, slots := 0, locals := 21 }) (some .int) 2 := C
  have hin : ∀ w ∈ wsX00, w ∈ wsX0_kind := fun _ h => List.mem_cons_of_mem _ (List.mem_append_right _ h)
  have lk16 : Cond.fieldLink RX0 16 "TokenRows" "kinds" "[I" ∈ wsX0_kind := by decide +kernel
  refine g_aload_n C dX0_kind_0 0 rfl ?_
  refine g_iload_n C dX0_kind_1 1 rfl ?_
  refine g_callVi (n := 1) C (c_X0_isToken g a aT aX tr n fed tx m ln fa T c hT hc x) gX0_kind_X0_isToken rfl rfl rfl rfl (by decide) (by decide) rfl (Nat.le_of_ble_eq_true rfl) dX0_kind_2 ?_
  refine g_if_eq C dX0_kind_5 (tgt := 17) (by decide) (fun c1 => ?_) (fun c1 => ?_)
  · refine g_iconst C dX0_kind_17 (v := 0) (by decide) ?_
    exact g_iret C F (by rw [if_neg (by rw [b01_0.mp c1]; decide)]) (rfl) dX0_kind_18
  · refine g_aload_n C dX0_kind_8 0 rfl ?_
    refine g_get0 C hin 0 rfl 7 (by decide) lk16 rfl dX0_kind_9 ?_
    refine g_iload_n C dX0_kind_12 1 rfl ?_
    refine g_iald C 3 rfl (bTok_in (b01_1.mp c1) hc) dX0_kind_13 ?_
    refine g_top (y := T.1 x.toNatClampNeg) (rfl) ?_
    refine g_goto C dX0_kind_14 (tgt := 18) (by decide) ?_
    exact g_iret C F (by rw [if_pos (b01_1.mp c1)]) (rfl) dX0_kind_18
set_option maxHeartbeats 4000000 in
set_option maxRecDepth 100000 in
theorem c_X0_from (g : Gl) (a : Nat → Nat) (aT aX : Nat) (tr : Nat → Int32) (n fed : Int32) (tx : Nat → Int32) (m ln fa : Int32) (T : TK) (c : Nat) (hT : T.2.2.2.2.2 = nI c) (hc : c ≤ 16000) (x : Int32) : Ctr g yX0_from wsX0_from ({ frames := 1, cells := 0, slots := 0, locals := 21 }) [.ref (a 0), .int x] (tw g a aT aX tr n fed tx m ln fa T) (some (.int (if bTok c x = true then T.2.1 x.toNatClampNeg else -1))) (tw g a aT aX tr n fed tx m ln fa T) 0 0 := by
  refine Ctr.start (cc := cX0_from) (maxL := 2) (ret := (some .int)) (by decide) rfl (Nat.le_of_ble_eq_true rfl) (lv0 := [(0, .ref (a 0)), (1, .int x)]) rfl ?_
  intro X C F
  have C : Ok g X cX0_from RX0 wsX0_from ({ frames := 1, cells := 0, slots := 0, locals := 21 }) (some .int) 2 := C
  have hin : ∀ w ∈ wsX00, w ∈ wsX0_from := fun _ h => List.mem_cons_of_mem _ (List.mem_append_right _ h)
  have lk20 : Cond.fieldLink RX0 20 "TokenRows" "starts" "[I" ∈ wsX0_from := by decide +kernel
  refine g_aload_n C dX0_from_0 0 rfl ?_
  refine g_iload_n C dX0_from_1 1 rfl ?_
  refine g_callVi (n := 1) C (c_X0_isToken g a aT aX tr n fed tx m ln fa T c hT hc x) gX0_from_X0_isToken rfl rfl rfl rfl (by decide) (by decide) rfl (Nat.le_of_ble_eq_true rfl) dX0_from_2 ?_
  refine g_if_eq C dX0_from_5 (tgt := 17) (by decide) (fun c1 => ?_) (fun c1 => ?_)
  · refine g_iconst C dX0_from_17 (v := (-1)) (by decide) ?_
    exact g_iret C F (by rw [if_neg (by rw [b01_0.mp c1]; decide)]) (rfl) dX0_from_18
  · refine g_aload_n C dX0_from_8 0 rfl ?_
    refine g_get0 C hin 0 rfl 8 (by decide) lk20 rfl dX0_from_9 ?_
    refine g_iload_n C dX0_from_12 1 rfl ?_
    refine g_iald C 4 rfl (bTok_in (b01_1.mp c1) hc) dX0_from_13 ?_
    refine g_top (y := T.2.1 x.toNatClampNeg) (rfl) ?_
    refine g_goto C dX0_from_14 (tgt := 18) (by decide) ?_
    exact g_iret C F (by rw [if_pos (b01_1.mp c1)]) (rfl) dX0_from_18
set_option maxHeartbeats 4000000 in
set_option maxRecDepth 100000 in
theorem c_X0_length (g : Gl) (a : Nat → Nat) (aT aX : Nat) (tr : Nat → Int32) (n fed : Int32) (tx : Nat → Int32) (m ln fa : Int32) (T : TK) (c : Nat) (hT : T.2.2.2.2.2 = nI c) (hc : c ≤ 16000) (x : Int32) : Ctr g yX0_length wsX0_length ({ frames := 1, cells := 0, slots := 0, locals := 21 }) [.ref (a 0), .int x] (tw g a aT aX tr n fed tx m ln fa T) (some (.int (if bTok c x = true then T.2.2.1 x.toNatClampNeg else 0))) (tw g a aT aX tr n fed tx m ln fa T) 0 0 := by
  refine Ctr.start (cc := cX0_length) (maxL := 2) (ret := (some .int)) (by decide) rfl (Nat.le_of_ble_eq_true rfl) (lv0 := [(0, .ref (a 0)), (1, .int x)]) rfl ?_
  intro X C F
  have C : Ok g X cX0_length RX0 wsX0_length ({ frames := 1, cells := 0, slots := 0, locals := 21 }) (some .int) 2 := C
  have hin : ∀ w ∈ wsX00, w ∈ wsX0_length := fun _ h => List.mem_cons_of_mem _ (List.mem_append_right _ h)
  have lk23 : Cond.fieldLink RX0 23 "TokenRows" "sizes" "[I" ∈ wsX0_length := by decide +kernel
  refine g_aload_n C dX0_length_0 0 rfl ?_
  refine g_iload_n C dX0_length_1 1 rfl ?_
  refine g_callVi (n := 1) C (c_X0_isToken g a aT aX tr n fed tx m ln fa T c hT hc x) gX0_length_X0_isToken rfl rfl rfl rfl (by decide) (by decide) rfl (Nat.le_of_ble_eq_true rfl) dX0_length_2 ?_
  refine g_if_eq C dX0_length_5 (tgt := 17) (by decide) (fun c1 => ?_) (fun c1 => ?_)
  · refine g_iconst C dX0_length_17 (v := 0) (by decide) ?_
    exact g_iret C F (by rw [if_neg (by rw [b01_0.mp c1]; decide)]) (rfl) dX0_length_18
  · refine g_aload_n C dX0_length_8 0 rfl ?_
    refine g_get0 C hin 0 rfl 9 (by decide) lk23 rfl dX0_length_9 ?_
    refine g_iload_n C dX0_length_12 1 rfl ?_
    refine g_iald C 5 rfl (bTok_in (b01_1.mp c1) hc) dX0_length_13 ?_
    refine g_top (y := T.2.2.1 x.toNatClampNeg) (rfl) ?_
    refine g_goto C dX0_length_14 (tgt := 18) (by decide) ?_
    exact g_iret C F (by rw [if_pos (b01_1.mp c1)]) (rfl) dX0_length_18
set_option maxHeartbeats 4000000 in
set_option maxRecDepth 100000 in
theorem c_X0_line (g : Gl) (a : Nat → Nat) (aT aX : Nat) (tr : Nat → Int32) (n fed : Int32) (tx : Nat → Int32) (m ln fa : Int32) (T : TK) (c : Nat) (hT : T.2.2.2.2.2 = nI c) (hc : c ≤ 16000) (x : Int32) : Ctr g yX0_line wsX0_line ({ frames := 1, cells := 0, slots := 0, locals := 21 }) [.ref (a 0), .int x] (tw g a aT aX tr n fed tx m ln fa T) (some (.int (if bTok c x = true then T.2.2.2.1 x.toNatClampNeg else 0))) (tw g a aT aX tr n fed tx m ln fa T) 0 0 := by
  refine Ctr.start (cc := cX0_line) (maxL := 2) (ret := (some .int)) (by decide) rfl (Nat.le_of_ble_eq_true rfl) (lv0 := [(0, .ref (a 0)), (1, .int x)]) rfl ?_
  intro X C F
  have C : Ok g X cX0_line RX0 wsX0_line ({ frames := 1, cells := 0, slots := 0, locals := 21 }) (some .int) 2 := C
  have hin : ∀ w ∈ wsX00, w ∈ wsX0_line := fun _ h => List.mem_cons_of_mem _ (List.mem_append_right _ h)
  have lk26 : Cond.fieldLink RX0 26 "TokenRows" "lines" "[I" ∈ wsX0_line := by decide +kernel
  refine g_aload_n C dX0_line_0 0 rfl ?_
  refine g_iload_n C dX0_line_1 1 rfl ?_
  refine g_callVi (n := 1) C (c_X0_isToken g a aT aX tr n fed tx m ln fa T c hT hc x) gX0_line_X0_isToken rfl rfl rfl rfl (by decide) (by decide) rfl (Nat.le_of_ble_eq_true rfl) dX0_line_2 ?_
  refine g_if_eq C dX0_line_5 (tgt := 17) (by decide) (fun c1 => ?_) (fun c1 => ?_)
  · refine g_iconst C dX0_line_17 (v := 0) (by decide) ?_
    exact g_iret C F (by rw [if_neg (by rw [b01_0.mp c1]; decide)]) (rfl) dX0_line_18
  · refine g_aload_n C dX0_line_8 0 rfl ?_
    refine g_get0 C hin 0 rfl 10 (by decide) lk26 rfl dX0_line_9 ?_
    refine g_iload_n C dX0_line_12 1 rfl ?_
    refine g_iald C 6 rfl (bTok_in (b01_1.mp c1) hc) dX0_line_13 ?_
    refine g_top (y := T.2.2.2.1 x.toNatClampNeg) (rfl) ?_
    refine g_goto C dX0_line_14 (tgt := 18) (by decide) ?_
    exact g_iret C F (by rw [if_pos (b01_1.mp c1)]) (rfl) dX0_line_18
set_option maxHeartbeats 4000000 in
set_option maxRecDepth 100000 in
theorem c_X0_worth (g : Gl) (a : Nat → Nat) (aT aX : Nat) (tr : Nat → Int32) (n fed : Int32) (tx : Nat → Int32) (m ln fa : Int32) (T : TK) (c : Nat) (hT : T.2.2.2.2.2 = nI c) (hc : c ≤ 16000) (x : Int32) : Ctr g yX0_worth wsX0_worth ({ frames := 2, cells := 0, slots := 0, locals := 43 }) [.ref (a 0), .int x] (tw g a aT aX tr n fed tx m ln fa T) (some (.int (if (bTok c x && decide (T.1 x.toNatClampNeg = 2)) = true then T.2.2.2.2.1 x.toNatClampNeg else 0))) (tw g a aT aX tr n fed tx m ln fa T) 0 0 := by
  refine Ctr.start (cc := cX0_worth) (maxL := 2) (ret := (some .int)) (by decide) rfl (Nat.le_of_ble_eq_true rfl) (lv0 := [(0, .ref (a 0)), (1, .int x)]) rfl ?_
  intro X C F
  have C : Ok g X cX0_worth RX0 wsX0_worth ({ frames := 2, cells := 0, slots := 0, locals := 43 }) (some .int) 2 := C
  have hin : ∀ w ∈ wsX00, w ∈ wsX0_worth := fun _ h => List.mem_cons_of_mem _ (List.mem_append_right _ h)
  have lk29 : Cond.fieldLink RX0 29 "TokenRows" "tells" "[I" ∈ wsX0_worth := by decide +kernel
  refine g_aload_n C dX0_worth_0 0 rfl ?_
  refine g_iload_n C dX0_worth_1 1 rfl ?_
  refine g_iconst C dX0_worth_2 (v := 2) (by decide) ?_
  refine g_callVi (n := 2) C (c_X0_isOfKind g a aT aX tr n fed tx m ln fa T c hT hc x 2) gX0_worth_X0_isOfKind rfl rfl rfl rfl (by decide) (by decide) rfl (Nat.le_of_ble_eq_true rfl) dX0_worth_3 ?_
  refine g_if_eq C dX0_worth_6 (tgt := 18) (by decide) (fun c1 => ?_) (fun c1 => ?_)
  · refine g_iconst C dX0_worth_18 (v := 0) (by decide) ?_
    exact g_iret C F (by rw [if_neg (by rw [b01_0.mp c1]; decide)]) (rfl) dX0_worth_19
  · refine g_aload_n C dX0_worth_9 0 rfl ?_
    refine g_get0 C hin 0 rfl 11 (by decide) lk29 rfl dX0_worth_10 ?_
    refine g_iload_n C dX0_worth_13 1 rfl ?_
    refine g_iald C 7 rfl (bTok_in (Bool.and_eq_true_iff.mp (b01_1.mp c1)).1 hc) dX0_worth_14 ?_
    refine g_top (y := T.2.2.2.2.1 x.toNatClampNeg) (rfl) ?_
    refine g_goto C dX0_worth_15 (tgt := 19) (by decide) ?_
    exact g_iret C F (by rw [if_pos (b01_1.mp c1)]) (rfl) dX0_worth_19
set_option maxHeartbeats 4000000 in
set_option maxRecDepth 100000 in
theorem c_X0_codes (g : Gl) (a : Nat → Nat) (aT aX : Nat) (tr : Nat → Int32) (n fed : Int32) (tx : Nat → Int32) (m ln fa : Int32) (T : TK) (c : Nat) (hT : T.2.2.2.2.2 = nI c) (hc : c ≤ 16000) (x : Int32) : Ctr g yX0_codes wsX0_codes ({ frames := 2, cells := 0, slots := 0, locals := 43 }) [.ref (a 0), .int x] (tw g a aT aX tr n fed tx m ln fa T) (some (.int (if (bTok c x && decide (T.1 x.toNatClampNeg = 3)) = true then T.2.2.2.2.1 x.toNatClampNeg else -1))) (tw g a aT aX tr n fed tx m ln fa T) 0 0 := by
  refine Ctr.start (cc := cX0_codes) (maxL := 2) (ret := (some .int)) (by decide) rfl (Nat.le_of_ble_eq_true rfl) (lv0 := [(0, .ref (a 0)), (1, .int x)]) rfl ?_
  intro X C F
  have C : Ok g X cX0_codes RX0 wsX0_codes ({ frames := 2, cells := 0, slots := 0, locals := 43 }) (some .int) 2 := C
  have hin : ∀ w ∈ wsX00, w ∈ wsX0_codes := fun _ h => List.mem_cons_of_mem _ (List.mem_append_right _ h)
  have lk29 : Cond.fieldLink RX0 29 "TokenRows" "tells" "[I" ∈ wsX0_codes := by decide +kernel
  refine g_aload_n C dX0_codes_0 0 rfl ?_
  refine g_iload_n C dX0_codes_1 1 rfl ?_
  refine g_iconst C dX0_codes_2 (v := 3) (by decide) ?_
  refine g_callVi (n := 2) C (c_X0_isOfKind g a aT aX tr n fed tx m ln fa T c hT hc x 3) gX0_codes_X0_isOfKind rfl rfl rfl rfl (by decide) (by decide) rfl (Nat.le_of_ble_eq_true rfl) dX0_codes_3 ?_
  refine g_if_eq C dX0_codes_6 (tgt := 18) (by decide) (fun c1 => ?_) (fun c1 => ?_)
  · refine g_iconst C dX0_codes_18 (v := (-1)) (by decide) ?_
    exact g_iret C F (by rw [if_neg (by rw [b01_0.mp c1]; decide)]) (rfl) dX0_codes_19
  · refine g_aload_n C dX0_codes_9 0 rfl ?_
    refine g_get0 C hin 0 rfl 11 (by decide) lk29 rfl dX0_codes_10 ?_
    refine g_iload_n C dX0_codes_13 1 rfl ?_
    refine g_iald C 7 rfl (bTok_in (Bool.and_eq_true_iff.mp (b01_1.mp c1)).1 hc) dX0_codes_14 ?_
    refine g_top (y := T.2.2.2.2.1 x.toNatClampNeg) (rfl) ?_
    refine g_goto C dX0_codes_15 (tgt := 19) (by decide) ?_
    exact g_iret C F (by rw [if_pos (b01_1.mp c1)]) (rfl) dX0_codes_19
set_option maxHeartbeats 4000000 in
set_option maxRecDepth 100000 in
theorem c_X0_which (g : Gl) (a : Nat → Nat) (aT aX : Nat) (tr : Nat → Int32) (n fed : Int32) (tx : Nat → Int32) (m ln fa : Int32) (T : TK) (c : Nat) (hT : T.2.2.2.2.2 = nI c) (hc : c ≤ 16000) (x : Int32) : Ctr g yX0_which wsX0_which ({ frames := 2, cells := 0, slots := 0, locals := 43 }) [.ref (a 0), .int x] (tw g a aT aX tr n fed tx m ln fa T) (some (.int (if (bTok c x && decide (T.1 x.toNatClampNeg = 4)) = true ∨ (bTok c x && decide (T.1 x.toNatClampNeg = 5)) = true then T.2.2.2.2.1 x.toNatClampNeg else -1))) (tw g a aT aX tr n fed tx m ln fa T) 0 0 := by
  refine Ctr.start (cc := cX0_which) (maxL := 2) (ret := (some .int)) (by decide) rfl (Nat.le_of_ble_eq_true rfl) (lv0 := [(0, .ref (a 0)), (1, .int x)]) rfl ?_
  intro X C F
  have C : Ok g X cX0_which RX0 wsX0_which ({ frames := 2, cells := 0, slots := 0, locals := 43 }) (some .int) 2 := C
  have hin : ∀ w ∈ wsX00, w ∈ wsX0_which := fun _ h => List.mem_cons_of_mem _ (List.mem_append_right _ h)
  have lk29 : Cond.fieldLink RX0 29 "TokenRows" "tells" "[I" ∈ wsX0_which := by decide +kernel
  refine g_aload_n C dX0_which_0 0 rfl ?_
  refine g_iload_n C dX0_which_1 1 rfl ?_
  refine g_iconst C dX0_which_2 (v := 4) (by decide) ?_
  refine g_callVi (n := 2) C (c_X0_isOfKind g a aT aX tr n fed tx m ln fa T c hT hc x 4) gX0_which_X0_isOfKind rfl rfl rfl rfl (by decide) (by decide) rfl (Nat.le_of_ble_eq_true rfl) dX0_which_3 ?_
  refine g_if_ne C dX0_which_6 (tgt := 18) (by decide) (fun c1 => ?_) (fun c1 => ?_)
  · refine g_aload_n C dX0_which_18 0 rfl ?_
    refine g_get0 C hin 0 rfl 11 (by decide) lk29 rfl dX0_which_19 ?_
    refine g_iload_n C dX0_which_22 1 rfl ?_
    refine g_iald C 7 rfl (bTok_in (Bool.and_eq_true_iff.mp (b01_1.mp c1)).1 hc) dX0_which_23 ?_
    refine g_top (y := T.2.2.2.2.1 x.toNatClampNeg) (rfl) ?_
    refine g_goto C dX0_which_24 (tgt := 28) (by decide) ?_
    exact g_iret C F (by rw [if_pos (Or.inl (b01_1.mp c1))]) (rfl) dX0_which_28
  · refine g_aload_n C dX0_which_9 0 rfl ?_
    refine g_iload_n C dX0_which_10 1 rfl ?_
    refine g_iconst C dX0_which_11 (v := 5) (by decide) ?_
    refine g_callVi (n := 2) C (c_X0_isOfKind g a aT aX tr n fed tx m ln fa T c hT hc x 5) gX0_which_X0_isOfKind rfl rfl rfl rfl (by decide) (by decide) rfl (Nat.le_of_ble_eq_true rfl) dX0_which_12 ?_
    refine g_if_eq C dX0_which_15 (tgt := 27) (by decide) (fun c2 => ?_) (fun c2 => ?_)
    · refine g_iconst C dX0_which_27 (v := (-1)) (by decide) ?_
      exact g_iret C F (by rw [if_neg (fun z => by rw [b01_0.mp c1, b01_0.mp c2] at z; exact absurd z (by decide))]) (rfl) dX0_which_28
    · refine g_aload_n C dX0_which_18 0 rfl ?_
      refine g_get0 C hin 0 rfl 11 (by decide) lk29 rfl dX0_which_19 ?_
      refine g_iload_n C dX0_which_22 1 rfl ?_
      refine g_iald C 7 rfl (bTok_in (Bool.and_eq_true_iff.mp (b01_1.mp c2)).1 hc) dX0_which_23 ?_
      refine g_top (y := T.2.2.2.2.1 x.toNatClampNeg) (rfl) ?_
      refine g_goto C dX0_which_24 (tgt := 28) (by decide) ?_
      exact g_iret C F (by rw [if_pos (Or.inr (b01_1.mp c2))]) (rfl) dX0_which_28
end
section
/-- the place of code k of a string whose first code is at p -/
def cpos (L : Nat → Int32) (p : Nat) : Nat → Nat
  | 0 => p
  | k + 1 => cpos L p k + cwd L (cpos L p k) 34
theorem cpos_le (L : Nat → Int32) (p : Nat) : ∀ k, cpos L p k ≤ p + 2 * k
  | 0 => Nat.le_refl p
  | k + 1 => by have := cpos_le L p k; have := cwd_le L (cpos L p k) 34; rw [cpos]; omega
/-- the first k bytes from s on and from t on are the same -/
def allEq (L : Nat → Int32) (s t : Nat) : Nat → Bool
  | 0 => true
  | k + 1 => allEq L s t k && decide (L (s + k) = L (t + k))
theorem allEq_no {L : Nat → Int32} {s t k : Nat} (h : ¬ L (s + k) = L (t + k)) : ∀ z, k < z → allEq L s t z = false
  | 0, hz => by omega
  | z + 1, hz => by
    rw [allEq]
    by_cases e : k = z
    · subst e; rw [decide_eq_false h, Bool.and_false]
    · rw [allEq_no h z (by omega)]; rfl
set_option maxHeartbeats 4000000 in
set_option maxRecDepth 100000 in
theorem c_X0_code (g : Gl) (a : Nat → Nat) (aT aX : Nat) (tr : Nat → Int32) (n fed : Int32) (tx : Nat → Int32) (ln fa : Int32) (T : TK) (c : Nat) (hT : T.2.2.2.2.2 = nI c) (hc : c ≤ 16000) (x : Int32) (k s t N : Nat) (hN : N ≤ 16000) (h1 : (bTok c x && decide (T.1 x.toNatClampNeg = 3)) = true) (h2 : T.2.2.2.2.1 x.toNatClampNeg = nI t) (h3 : k < t) (h4 : t ≤ 200) (h5 : T.2.1 x.toNatClampNeg = nI s) (h6 : s ≤ 16000) : Ctr g yX0_code wsX0_code ({ frames := 2, cells := 0, slots := 0, locals := 44 }) [.ref (a 0), .int x, .int (nI k)] (tw g a aT aX tr n fed tx (nI N) ln fa T) (some (.int (cat (look tx N) (cpos (look tx N) (s + 1) k)))) (tw g a aT aX tr n fed tx (nI N) ln fa T) 0 0 := by
  refine Ctr.start (cc := cX0_code) (maxL := 5) (ret := (some .int)) (by decide) rfl (Nat.le_of_ble_eq_true rfl) (lv0 := [(0, .ref (a 0)), (1, .int x), (2, .int (nI k))]) rfl ?_
  intro X C F
  have C : Ok g X cX0_code RX0 wsX0_code ({ frames := 2, cells := 0, slots := 0, locals := 44 }) (some .int) 5 := C
  have hin : ∀ w ∈ wsX00, w ∈ wsX0_code := fun _ h => List.mem_cons_of_mem _ (List.mem_append_right _ h)
  have lk20 : Cond.fieldLink RX0 20 "TokenRows" "starts" "[I" ∈ wsX0_code := by decide +kernel
  have lk29 : Cond.fieldLink RX0 29 "TokenRows" "tells" "[I" ∈ wsX0_code := by decide +kernel
  have loop : ∀ (k0 j : Nat), j ≤ k → k + 1 ≤ j + k0 → G g X (0, 0) (tw g a aT aX tr n fed tx (nI N) ln fa T) 37 [(4, .int (nI j)), (3, .int (nI (cpos (look tx N) (s + 1) j))), (0, .ref (a 0)), (1, .int x), (2, .int (nI k))] [] := by
    intro k0
    induction k0 with
    | zero => intro j q1 q2; omega
    | succ k0 ih =>
      intro j q1 q2
      refine g_iload C dX0_code_37 0 rfl ?_
      refine g_iload_n C dX0_code_39 4 rfl ?_
      refine g_icmp_ge C dX0_code_40 (tgt := 59) (by decide) (fun c1 => ?_) (fun c1 => ?_)
      · have hj := (nI_leI (by omega) (by omega)).mp c1
        have hj : j = k := by omega
        subst hj
        have hcp := cpos_le (look tx N) (s + 1) j
        refine g_aload_n C dX0_code_59 2 rfl ?_
        refine g_iload_n C dX0_code_60 1 rfl ?_
        refine g_callVi (n := 1) C (c_X0_codeAt g a aT aX tr n fed tx ln fa T N (cpos (look tx N) (s + 1) j) hN (by omega)) gX0_code_X0_codeAt rfl rfl rfl rfl (by decide) (by decide) rfl (Nat.le_of_ble_eq_true rfl) dX0_code_61 ?_
        exact g_iret C F (rfl) (rfl) dX0_code_64
      · have hj : j < k := Nat.not_le.mp (fun z => c1 (nI_le z (by omega)))
        have hcp := cpos_le (look tx N) (s + 1) j
        refine g_iload_n C dX0_code_43 1 rfl ?_
        refine g_aload_n C dX0_code_44 2 rfl ?_
        refine g_iload_n C dX0_code_45 1 rfl ?_
        refine g_bipush C dX0_code_46 (v := 34) (by decide) ?_
        refine g_callVi (n := 2) C (c_X0_codeWidth g a aT aX tr n fed tx ln fa T N (cpos (look tx N) (s + 1) j) hN (by omega) 34) gX0_code_X0_codeWidth rfl rfl rfl rfl (by decide) (by decide) rfl (Nat.le_of_ble_eq_true rfl) dX0_code_48 ?_
        refine g_iadd C dX0_code_51 ?_
        refine g_top (nI_add (cpos (look tx N) (s + 1) j) (cwd (look tx N) (cpos (look tx N) (s + 1) j) 34)) ?_
        refine g_top (y := nI (cpos (look tx N) (s + 1) (j + 1))) rfl ?_
        refine g_istore_n (lv' := [(3, .int (nI (cpos (look tx N) (s + 1) (j + 1)))), (4, .int (nI j)), (0, .ref (a 0)), (1, .int x), (2, .int (nI k))]) C dX0_code_52 (by decide) rfl ?_
        refine g_iinc (o := 1) (v := nI (j + 1)) (lv' := [(4, .int (nI (j + 1))), (3, .int (nI (cpos (look tx N) (s + 1) (j + 1)))), (0, .ref (a 0)), (1, .int x), (2, .int (nI k))]) C dX0_code_53 rfl (nI_add j 1) (by decide) rfl ?_
        refine g_goto C dX0_code_56 (tgt := 37) (by decide) ?_
        exact ih (j + 1) (by omega) (by omega)
  refine g_aload_n C dX0_code_0 0 rfl ?_
  refine g_iload_n C dX0_code_1 1 rfl ?_
  refine g_iconst C dX0_code_2 (v := 3) (by decide) ?_
  refine g_callVi (n := 2) C (c_X0_isOfKind g a aT aX tr n fed tx (nI N) ln fa T c hT hc x 3) gX0_code_X0_isOfKind rfl rfl rfl rfl (by decide) (by decide) rfl (Nat.le_of_ble_eq_true rfl) dX0_code_3 ?_
  refine g_if_eq C dX0_code_6 (tgt := 23) (by decide) (fun c2 => ?_) (fun c2 => ?_)
  · exact absurd c2 (by rw [h1]; decide)
  · refine g_iload_n C dX0_code_9 2 rfl ?_
    refine g_if_lt C dX0_code_10 (tgt := 23) (by decide) (fun c3 => ?_) (fun c3 => ?_)
    · exact absurd c3 (nI_pos (by omega))
    · refine g_iload_n C dX0_code_13 2 rfl ?_
      refine g_aload_n C dX0_code_14 0 rfl ?_
      refine g_get0 C hin 0 rfl 11 (by decide) lk29 rfl dX0_code_15 ?_
      refine g_iload_n C dX0_code_18 1 rfl ?_
      refine g_iald C 7 rfl (bTok_in (Bool.and_eq_true_iff.mp h1).1 hc) dX0_code_19 ?_
      refine g_top (y := nI t) (h2) ?_
      refine g_icmp_lt C dX0_code_20 (tgt := 25) (by decide) (fun c4 => ?_) (fun c4 => ?_)
      · refine g_aload_n C dX0_code_25 0 rfl ?_
        refine g_get0 C hin 0 rfl 8 (by decide) lk20 rfl dX0_code_26 ?_
        refine g_iload_n C dX0_code_29 1 rfl ?_
        refine g_iald C 4 rfl (bTok_in (Bool.and_eq_true_iff.mp h1).1 hc) dX0_code_30 ?_
        refine g_top (y := nI s) (h5) ?_
        refine g_iconst C dX0_code_31 (v := 1) (by decide) ?_
        refine g_iadd C dX0_code_32 ?_
        refine g_top (nI_add s 1) ?_
        refine g_istore_n (lv' := [(3, .int (nI (s + 1))), (0, .ref (a 0)), (1, .int x), (2, .int (nI k))]) C dX0_code_33 (by decide) rfl ?_
        refine g_iconst C dX0_code_34 (v := 0) (by decide) ?_
        refine g_istore (lv' := [(4, .int 0), (3, .int (nI (s + 1))), (0, .ref (a 0)), (1, .int x), (2, .int (nI k))]) C dX0_code_35 (by decide) rfl ?_
        exact loop (k + 1) 0 (by omega) (by omega)
      · exact absurd (nI_lt h3 (by omega)) c4
set_option maxHeartbeats 4000000 in
set_option maxRecDepth 100000 in
theorem c_X0_codeN (g : Gl) (a : Nat → Nat) (aT aX : Nat) (tr : Nat → Int32) (n fed : Int32) (tx : Nat → Int32) (m ln fa : Int32) (T : TK) (c : Nat) (hT : T.2.2.2.2.2 = nI c) (hc : c ≤ 16000) (x : Int32) (k : Int32) (h : ¬ ((bTok c x && decide (T.1 x.toNatClampNeg = 3)) = true ∧ 0 ≤ k.toInt ∧ k.toInt < (T.2.2.2.2.1 x.toNatClampNeg).toInt)) : Ctr g yX0_code wsX0_code ({ frames := 2, cells := 0, slots := 0, locals := 44 }) [.ref (a 0), .int x, .int k] (tw g a aT aX tr n fed tx m ln fa T) (some (.int (-1))) (tw g a aT aX tr n fed tx m ln fa T) 0 0 := by
  refine Ctr.start (cc := cX0_code) (maxL := 5) (ret := (some .int)) (by decide) rfl (Nat.le_of_ble_eq_true rfl) (lv0 := [(0, .ref (a 0)), (1, .int x), (2, .int k)]) rfl ?_
  intro X C F
  have C : Ok g X cX0_code RX0 wsX0_code ({ frames := 2, cells := 0, slots := 0, locals := 44 }) (some .int) 5 := C
  have hin : ∀ w ∈ wsX00, w ∈ wsX0_code := fun _ h => List.mem_cons_of_mem _ (List.mem_append_right _ h)
  have lk29 : Cond.fieldLink RX0 29 "TokenRows" "tells" "[I" ∈ wsX0_code := by decide +kernel
  refine g_aload_n C dX0_code_0 0 rfl ?_
  refine g_iload_n C dX0_code_1 1 rfl ?_
  refine g_iconst C dX0_code_2 (v := 3) (by decide) ?_
  refine g_callVi (n := 2) C (c_X0_isOfKind g a aT aX tr n fed tx m ln fa T c hT hc x 3) gX0_code_X0_isOfKind rfl rfl rfl rfl (by decide) (by decide) rfl (Nat.le_of_ble_eq_true rfl) dX0_code_3 ?_
  refine g_if_eq C dX0_code_6 (tgt := 23) (by decide) (fun c1 => ?_) (fun c1 => ?_)
  · refine g_iconst C dX0_code_23 (v := (-1)) (by decide) ?_
    exact g_iret C F (rfl) (rfl) dX0_code_24
  · refine g_iload_n C dX0_code_9 2 rfl ?_
    refine g_if_lt C dX0_code_10 (tgt := 23) (by decide) (fun c2 => ?_) (fun c2 => ?_)
    · refine g_iconst C dX0_code_23 (v := (-1)) (by decide) ?_
      exact g_iret C F (rfl) (rfl) dX0_code_24
    · refine g_iload_n C dX0_code_13 2 rfl ?_
      refine g_aload_n C dX0_code_14 0 rfl ?_
      refine g_get0 C hin 0 rfl 11 (by decide) lk29 rfl dX0_code_15 ?_
      refine g_iload_n C dX0_code_18 1 rfl ?_
      refine g_iald C 7 rfl (bTok_in (Bool.and_eq_true_iff.mp (b01_1.mp c1)).1 hc) dX0_code_19 ?_
      refine g_top (y := T.2.2.2.2.1 x.toNatClampNeg) (rfl) ?_
      refine g_icmp_lt C dX0_code_20 (tgt := 25) (by decide) (fun c3 => ?_) (fun c3 => ?_)
      · exact absurd ⟨b01_1.mp c1, k_nlt (b := 0) (by decide) c2, k_lt rfl c3⟩ h
      · refine g_iconst C dX0_code_23 (v := (-1)) (by decide) ?_
        exact g_iret C F (rfl) (rfl) dX0_code_24
set_option maxHeartbeats 4000000 in
set_option maxRecDepth 100000 in
theorem c_X0_same (g : Gl) (a : Nat → Nat) (aT aX : Nat) (tr : Nat → Int32) (n fed : Int32) (tx : Nat → Int32) (ln fa : Int32) (T : TK) (c : Nat) (hT : T.2.2.2.2.2 = nI c) (hc : c ≤ 16000) (x : Int32) (y : Int32) (s t z N : Nat) (hN : N ≤ 16000) (h1 : bTok c x = true) (h2 : bTok c y = true) (h3 : T.2.2.1 x.toNatClampNeg = nI z) (h4 : T.2.2.1 y.toNatClampNeg = nI z) (h5 : T.2.1 x.toNatClampNeg = nI s) (h6 : T.2.1 y.toNatClampNeg = nI t) (h7 : s ≤ 16000 ∧ t ≤ 16000 ∧ z ≤ 16000) : Ctr g yX0_same wsX0_same ({ frames := 1, cells := 0, slots := 0, locals := 21 }) [.ref (a 0), .int x, .int y] (tw g a aT aX tr n fed tx (nI N) ln fa T) (some (.int (b01 (allEq (look tx N) s t z)))) (tw g a aT aX tr n fed tx (nI N) ln fa T) 0 0 := by
  refine Ctr.start (cc := cX0_same) (maxL := 4) (ret := (some .boolean)) (by decide) rfl (Nat.le_of_ble_eq_true rfl) (lv0 := [(0, .ref (a 0)), (1, .int x), (2, .int y)]) rfl ?_
  intro X C F
  have C : Ok g X cX0_same RX0 wsX0_same ({ frames := 1, cells := 0, slots := 0, locals := 21 }) (some .boolean) 4 := C
  have hin : ∀ w ∈ wsX00, w ∈ wsX0_same := fun _ h => List.mem_cons_of_mem _ (List.mem_append_right _ h)
  have lk20 : Cond.fieldLink RX0 20 "TokenRows" "starts" "[I" ∈ wsX0_same := by decide +kernel
  have lk23 : Cond.fieldLink RX0 23 "TokenRows" "sizes" "[I" ∈ wsX0_same := by decide +kernel
  have loop : ∀ (k0 j : Nat), j ≤ z → z + 1 ≤ j + k0 → allEq (look tx N) s t j = true → G g X (0, 0) (tw g a aT aX tr n fed tx (nI N) ln fa T) 35 [(3, .int (nI j)), (0, .ref (a 0)), (1, .int x), (2, .int y)] [] := by
    intro k0
    induction k0 with
    | zero => intro j q1 q2 q3; omega
    | succ k0 ih =>
      intro j q1 q2 q3
      refine g_iload_n C dX0_same_35 0 rfl ?_
      refine g_aload_n C dX0_same_36 1 rfl ?_
      refine g_get0 C hin 0 rfl 9 (by decide) lk23 rfl dX0_same_37 ?_
      refine g_iload_n C dX0_same_40 2 rfl ?_
      refine g_iald C 5 rfl (bTok_in h1 hc) dX0_same_41 ?_
      refine g_top (y := nI z) (h3) ?_
      refine g_icmp_ge C dX0_same_42 (tgt := 80) (by decide) (fun c1 => ?_) (fun c1 => ?_)
      · have hj := (nI_leI (by omega) (by omega)).mp c1
        have hj : j = z := by omega
        subst hj
        refine g_iconst C dX0_same_80 (v := 1) (by decide) ?_
        exact g_zret C F (by decide) (by rw [q3]; rfl) (rfl) dX0_same_81
      · have hj : j < z := Nat.not_le.mp (fun q => c1 (nI_le q (by omega)))
        refine g_aload_n C dX0_same_45 1 rfl ?_
        refine g_aload_n C dX0_same_46 1 rfl ?_
        refine g_get0 C hin 0 rfl 8 (by decide) lk20 rfl dX0_same_47 ?_
        refine g_iload_n C dX0_same_50 2 rfl ?_
        refine g_iald C 4 rfl (bTok_in h1 hc) dX0_same_51 ?_
        refine g_top (y := nI s) (h5) ?_
        refine g_iload_n C dX0_same_52 0 rfl ?_
        refine g_iadd C dX0_same_53 ?_
        refine g_top (nI_add s j) ?_
        refine g_callVi (n := 1) C (c_X0_byteAt g a aT aX tr n fed tx ln fa T N (s + j) hN (by omega)) gX0_same_X0_byteAt rfl rfl rfl rfl (by decide) (by decide) rfl (Nat.le_of_ble_eq_true rfl) dX0_same_54 ?_
        refine g_aload_n C dX0_same_57 1 rfl ?_
        refine g_aload_n C dX0_same_58 1 rfl ?_
        refine g_get0 C hin 0 rfl 8 (by decide) lk20 rfl dX0_same_59 ?_
        refine g_iload_n C dX0_same_62 3 rfl ?_
        refine g_iald C 4 rfl (bTok_in h2 hc) dX0_same_63 ?_
        refine g_top (y := nI t) (h6) ?_
        refine g_iload_n C dX0_same_64 0 rfl ?_
        refine g_iadd C dX0_same_65 ?_
        refine g_top (nI_add t j) ?_
        refine g_callVi (n := 1) C (c_X0_byteAt g a aT aX tr n fed tx ln fa T N (t + j) hN (by omega)) gX0_same_X0_byteAt rfl rfl rfl rfl (by decide) (by decide) rfl (Nat.le_of_ble_eq_true rfl) dX0_same_66 ?_
        refine g_icmp_eq C dX0_same_69 (tgt := 74) (by decide) (fun c2 => ?_) (fun c2 => ?_)
        · have c_e := c2
          refine g_iinc (o := 0) (v := nI (j + 1)) (lv' := [(3, .int (nI (j + 1))), (0, .ref (a 0)), (1, .int x), (2, .int y)]) C dX0_same_74 rfl (nI_add j 1) (by decide) rfl ?_
          refine g_goto C dX0_same_77 (tgt := 35) (by decide) ?_
          exact ih (j + 1) (by omega) (by omega) (by rw [allEq, q3, decide_eq_true c_e]; rfl)
        · have hno := allEq_no c2 z hj
          refine g_iconst C dX0_same_72 (v := 0) (by decide) ?_
          exact g_zret C F (by decide) (by rw [hno]; rfl) (rfl) dX0_same_73
  refine g_aload_n C dX0_same_0 0 rfl ?_
  refine g_iload_n C dX0_same_1 1 rfl ?_
  refine g_callVi (n := 1) C (c_X0_isToken g a aT aX tr n fed tx (nI N) ln fa T c hT hc x) gX0_same_X0_isToken rfl rfl rfl rfl (by decide) (by decide) rfl (Nat.le_of_ble_eq_true rfl) dX0_same_2 ?_
  refine g_if_eq C dX0_same_5 (tgt := 31) (by decide) (fun c3 => ?_) (fun c3 => ?_)
  · exact absurd c3 (by rw [h1]; decide)
  · refine g_aload_n C dX0_same_8 0 rfl ?_
    refine g_iload_n C dX0_same_9 2 rfl ?_
    refine g_callVi (n := 1) C (c_X0_isToken g a aT aX tr n fed tx (nI N) ln fa T c hT hc y) gX0_same_X0_isToken rfl rfl rfl rfl (by decide) (by decide) rfl (Nat.le_of_ble_eq_true rfl) dX0_same_10 ?_
    refine g_if_eq C dX0_same_13 (tgt := 31) (by decide) (fun c4 => ?_) (fun c4 => ?_)
    · exact absurd c4 (by rw [h2]; decide)
    · refine g_aload_n C dX0_same_16 0 rfl ?_
      refine g_get0 C hin 0 rfl 9 (by decide) lk23 rfl dX0_same_17 ?_
      refine g_iload_n C dX0_same_20 1 rfl ?_
      refine g_iald C 5 rfl (bTok_in h1 hc) dX0_same_21 ?_
      refine g_top (y := nI z) (h3) ?_
      refine g_aload_n C dX0_same_22 0 rfl ?_
      refine g_get0 C hin 0 rfl 9 (by decide) lk23 rfl dX0_same_23 ?_
      refine g_iload_n C dX0_same_26 2 rfl ?_
      refine g_iald C 5 rfl (bTok_in h2 hc) dX0_same_27 ?_
      refine g_top (y := nI z) (h4) ?_
      refine g_icmp_eq C dX0_same_28 (tgt := 33) (by decide) (fun c5 => ?_) (fun c5 => ?_)
      · refine g_iconst C dX0_same_33 (v := 0) (by decide) ?_
        refine g_istore_n (lv' := [(3, .int 0), (0, .ref (a 0)), (1, .int x), (2, .int y)]) C dX0_same_34 (by decide) rfl ?_
        exact loop (z + 1) 0 (by omega) (by omega) rfl
      · exact absurd rfl c5
set_option maxHeartbeats 4000000 in
set_option maxRecDepth 100000 in
theorem c_X0_sameN (g : Gl) (a : Nat → Nat) (aT aX : Nat) (tr : Nat → Int32) (n fed : Int32) (tx : Nat → Int32) (m ln fa : Int32) (T : TK) (c : Nat) (hT : T.2.2.2.2.2 = nI c) (hc : c ≤ 16000) (x : Int32) (y : Int32) (h : ¬ (bTok c x = true ∧ bTok c y = true ∧ T.2.2.1 x.toNatClampNeg = T.2.2.1 y.toNatClampNeg)) : Ctr g yX0_same wsX0_same ({ frames := 1, cells := 0, slots := 0, locals := 21 }) [.ref (a 0), .int x, .int y] (tw g a aT aX tr n fed tx m ln fa T) (some (.int 0)) (tw g a aT aX tr n fed tx m ln fa T) 0 0 := by
  refine Ctr.start (cc := cX0_same) (maxL := 4) (ret := (some .boolean)) (by decide) rfl (Nat.le_of_ble_eq_true rfl) (lv0 := [(0, .ref (a 0)), (1, .int x), (2, .int y)]) rfl ?_
  intro X C F
  have C : Ok g X cX0_same RX0 wsX0_same ({ frames := 1, cells := 0, slots := 0, locals := 21 }) (some .boolean) 4 := C
  have hin : ∀ w ∈ wsX00, w ∈ wsX0_same := fun _ h => List.mem_cons_of_mem _ (List.mem_append_right _ h)
  have lk23 : Cond.fieldLink RX0 23 "TokenRows" "sizes" "[I" ∈ wsX0_same := by decide +kernel
  refine g_aload_n C dX0_same_0 0 rfl ?_
  refine g_iload_n C dX0_same_1 1 rfl ?_
  refine g_callVi (n := 1) C (c_X0_isToken g a aT aX tr n fed tx m ln fa T c hT hc x) gX0_same_X0_isToken rfl rfl rfl rfl (by decide) (by decide) rfl (Nat.le_of_ble_eq_true rfl) dX0_same_2 ?_
  refine g_if_eq C dX0_same_5 (tgt := 31) (by decide) (fun c1 => ?_) (fun c1 => ?_)
  · refine g_iconst C dX0_same_31 (v := 0) (by decide) ?_
    exact g_zret C F (by decide) (rfl) (rfl) dX0_same_32
  · refine g_aload_n C dX0_same_8 0 rfl ?_
    refine g_iload_n C dX0_same_9 2 rfl ?_
    refine g_callVi (n := 1) C (c_X0_isToken g a aT aX tr n fed tx m ln fa T c hT hc y) gX0_same_X0_isToken rfl rfl rfl rfl (by decide) (by decide) rfl (Nat.le_of_ble_eq_true rfl) dX0_same_10 ?_
    refine g_if_eq C dX0_same_13 (tgt := 31) (by decide) (fun c2 => ?_) (fun c2 => ?_)
    · refine g_iconst C dX0_same_31 (v := 0) (by decide) ?_
      exact g_zret C F (by decide) (rfl) (rfl) dX0_same_32
    · refine g_aload_n C dX0_same_16 0 rfl ?_
      refine g_get0 C hin 0 rfl 9 (by decide) lk23 rfl dX0_same_17 ?_
      refine g_iload_n C dX0_same_20 1 rfl ?_
      refine g_iald C 5 rfl (bTok_in (b01_1.mp c1) hc) dX0_same_21 ?_
      refine g_top (y := T.2.2.1 x.toNatClampNeg) (rfl) ?_
      refine g_aload_n C dX0_same_22 0 rfl ?_
      refine g_get0 C hin 0 rfl 9 (by decide) lk23 rfl dX0_same_23 ?_
      refine g_iload_n C dX0_same_26 2 rfl ?_
      refine g_iald C 5 rfl (bTok_in (b01_1.mp c2) hc) dX0_same_27 ?_
      refine g_top (y := T.2.2.1 y.toNatClampNeg) (rfl) ?_
      refine g_icmp_eq C dX0_same_28 (tgt := 33) (by decide) (fun c3 => ?_) (fun c3 => ?_)
      · exact absurd ⟨b01_1.mp c1, b01_1.mp c2, c3⟩ h
      · refine g_iconst C dX0_same_31 (v := 0) (by decide) ?_
        exact g_zret C F (by decide) (rfl) (rfl) dX0_same_32
end
section
/-- the byte k of the text j -/
def kch (j k : Nat) : Int32 := (kByt.getD j []).getD k 0 &&& 255
theorem kLen_lt (j : Nat) : kLen.getD j 0 < 110 := by
  match j with
  | 0 => show 109 < 110; omega
  | 1 => show 67 < 110; omega
  | j + 2 => show 0 < 110; omega
set_option maxHeartbeats 4000000 in
set_option maxRecDepth 100000 in
theorem c_J0_coder_7d493 (g : Gl) (j : Nat) (hj : j < 2) : Ctr g yJ0_coder_7d493 wsJ0_coder_7d493 ({ frames := 0, cells := 0, slots := 0, locals := 0 }) [.ref (gK g j)] [] (some (.int 0)) [] 0 0 := by
  refine Ctr.start (cc := cJ0_coder_7d493) (maxL := 1) (ret := (some .byte)) (by decide) rfl (Nat.le_of_ble_eq_true rfl) (lv0 := [(0, .ref (gK g j))]) rfl ?_
  intro X C F
  have C : Ok g X cJ0_coder_7d493 RJ0 wsJ0_coder_7d493 ({ frames := 0, cells := 0, slots := 0, locals := 0 }) (some .byte) 1 := C
  have lk15 : Cond.fieldLink RJ0 15 "java/lang/String" "coder" "B" ∈ wsJ0_coder_7d493 := by decide +kernel
  have lk38 : Cond.fieldLink RJ0 38 "java/lang/String" "COMPACT_STRINGS" "Z" ∈ wsJ0_coder_7d493 := by decide +kernel
  refine g_getsC C lk38 dJ0_coder_7d493_0 ?_
  refine g_if_eq C dJ0_coder_7d493_3 (tgt := 13) (by decide) (fun c1 => ?_) (fun c1 => ?_)
  · exact absurd c1 (by decide)
  · refine g_aload_n C dJ0_coder_7d493_6 0 rfl ?_
    refine g_getfC C hj lk15 dJ0_coder_7d493_7 ?_
    refine g_goto C dJ0_coder_7d493_10 (tgt := 14) (by decide) ?_
    exact g_zret C F (by decide) (rfl) (rfl) dJ0_coder_7d493_14
set_option maxHeartbeats 4000000 in
set_option maxRecDepth 100000 in
theorem c_J0_isLatin1_aae02 (g : Gl) (j : Nat) (hj : j < 2) : Ctr g yJ0_isLatin1_aae02 wsJ0_isLatin1_aae02 ({ frames := 0, cells := 0, slots := 0, locals := 0 }) [.ref (gK g j)] [] (some (.int 1)) [] 0 0 := by
  refine Ctr.start (cc := cJ0_isLatin1_aae02) (maxL := 1) (ret := (some .boolean)) (by decide) rfl (Nat.le_of_ble_eq_true rfl) (lv0 := [(0, .ref (gK g j))]) rfl ?_
  intro X C F
  have C : Ok g X cJ0_isLatin1_aae02 RJ0 wsJ0_isLatin1_aae02 ({ frames := 0, cells := 0, slots := 0, locals := 0 }) (some .boolean) 1 := C
  have lk15 : Cond.fieldLink RJ0 15 "java/lang/String" "coder" "B" ∈ wsJ0_isLatin1_aae02 := by decide +kernel
  have lk38 : Cond.fieldLink RJ0 38 "java/lang/String" "COMPACT_STRINGS" "Z" ∈ wsJ0_isLatin1_aae02 := by decide +kernel
  refine g_getsC C lk38 dJ0_isLatin1_aae02_0 ?_
  refine g_if_eq C dJ0_isLatin1_aae02_3 (tgt := 17) (by decide) (fun c1 => ?_) (fun c1 => ?_)
  · exact absurd c1 (by decide)
  · refine g_aload_n C dJ0_isLatin1_aae02_6 0 rfl ?_
    refine g_getfC C hj lk15 dJ0_isLatin1_aae02_7 ?_
    refine g_if_ne C dJ0_isLatin1_aae02_10 (tgt := 17) (by decide) (fun c2 => ?_) (fun c2 => ?_)
    · exact absurd c2 (by decide)
    · refine g_iconst C dJ0_isLatin1_aae02_13 (v := 1) (by decide) ?_
      refine g_goto C dJ0_isLatin1_aae02_14 (tgt := 18) (by decide) ?_
      exact g_zret C F (by decide) (rfl) (rfl) dJ0_isLatin1_aae02_18
set_option maxHeartbeats 4000000 in
set_option maxRecDepth 100000 in
theorem c_J0_length_8abf5 (g : Gl) (j : Nat) (hj : j < 2) : Ctr g yJ0_length_8abf5 wsJ0_length_8abf5 ({ frames := 1, cells := 0, slots := 0, locals := 20 }) [.ref (gK g j)] [] (some (.int (nI (kLen.getD j 0)))) [] 0 0 := by
  refine Ctr.start (cc := cJ0_length_8abf5) (maxL := 1) (ret := (some .int)) (by decide) rfl (Nat.le_of_ble_eq_true rfl) (lv0 := [(0, .ref (gK g j))]) rfl ?_
  intro X C F
  have C : Ok g X cJ0_length_8abf5 RJ0 wsJ0_length_8abf5 ({ frames := 1, cells := 0, slots := 0, locals := 20 }) (some .int) 1 := C
  have lk9 : Cond.fieldLink RJ0 9 "java/lang/String" "value" "[B" ∈ wsJ0_length_8abf5 := by decide +kernel
  refine g_aload_n C dJ0_length_8abf5_0 0 rfl ?_
  refine g_getfV C hj lk9 dJ0_length_8abf5_1 ?_
  refine g_alenV C hj (v := nI (kLen.getD j 0)) rfl dJ0_length_8abf5_4 ?_
  refine g_aload_n C dJ0_length_8abf5_5 0 rfl ?_
  refine g_callK (n := 0) C hj (c_J0_coder_7d493 g j hj) gJ0_length_8abf5_J0_coder_7d493 rfl rfl (by decide) (by decide) rfl (Nat.le_of_ble_eq_true rfl) dJ0_length_8abf5_6 ?_
  refine g_ishr C dJ0_length_8abf5_9 ?_
  exact g_iret C F (sc_shr0 (by have := kLen_lt j; omega)) (rfl) dJ0_length_8abf5_10
set_option maxHeartbeats 4000000 in
set_option maxRecDepth 100000 in
theorem c_J3_checkIndex_8e157 (g : Gl) (k n : Nat) (v : Value) (hv : v = .null ∨ ∃ t : Nat, v = .ref t) (hk : k < n) (hn : n < 2 ^ 31) : Ctr g yJ3_checkIndex_8e157 wsJ3_checkIndex_8e157 ({ frames := 0, cells := 0, slots := 0, locals := 0 }) [.int (nI k), .int (nI n), v] [] (some (.int (nI k))) [] 0 0 := by
  have h3 : (lg_sl [.int (nI k), .int (nI n), v]).length ≤ 3 ∧ lv_args 0 [.int (nI k), .int (nI n), v] = [(0, .int (nI k)), (1, .int (nI n)), (2, v)] := by
    rcases hv with rfl | ⟨t, rfl⟩ <;> exact ⟨Nat.le_of_ble_eq_true rfl, rfl⟩
  refine Ctr.start (cc := cJ3_checkIndex_8e157) (maxL := 3) (ret := (some .int)) (by decide) rfl h3.1 (lv0 := [(0, .int (nI k)), (1, .int (nI n)), (2, v)]) rfl ?_
  intro X C F
  have C : Ok g X cJ3_checkIndex_8e157 RJ3 wsJ3_checkIndex_8e157 ({ frames := 0, cells := 0, slots := 0, locals := 0 }) (some .int) 3 := C
  refine g_iload_n C dJ3_checkIndex_8e157_0 0 rfl ?_
  refine g_if_lt C dJ3_checkIndex_8e157_1 (tgt := 9) (by decide) (fun c1 => ?_) (fun c1 => ?_)
  · exact absurd c1 (nI_pos (by omega))
  · refine g_iload_n C dJ3_checkIndex_8e157_4 0 rfl ?_
    refine g_iload_n C dJ3_checkIndex_8e157_5 1 rfl ?_
    refine g_icmp_lt C dJ3_checkIndex_8e157_6 (tgt := 16) (by decide) (fun c2 => ?_) (fun c2 => ?_)
    · refine g_iload_n C dJ3_checkIndex_8e157_16 0 rfl ?_
      exact g_iret C F (rfl) (rfl) dJ3_checkIndex_8e157_17
    · exact absurd (nI_lt hk hn) c2
set_option maxHeartbeats 4000000 in
set_option maxRecDepth 100000 in
theorem c_J0_checkIndex_df160 (g : Gl) (k n : Nat) (hk : k < n) (hn : n < 2 ^ 31) : Ctr g yJ0_checkIndex_df160 wsJ0_checkIndex_df160 ({ frames := 1, cells := 0, slots := 0, locals := 22 }) [.int (nI k), .int (nI n)] [] (none) [] 0 0 := by
  refine Ctr.start (cc := cJ0_checkIndex_df160) (maxL := 2) (ret := none) (by decide) rfl (Nat.le_of_ble_eq_true rfl) (lv0 := [(0, .int (nI k)), (1, .int (nI n))]) rfl ?_
  intro X C F
  have C : Ok g X cJ0_checkIndex_df160 RJ0 wsJ0_checkIndex_df160 ({ frames := 1, cells := 0, slots := 0, locals := 22 }) none 2 := C
  have lk1053 : Cond.fieldLink RJ0 1053 "jdk/internal/util/Preconditions" "SIOOBE_FORMATTER" "Ljava/util/function/BiFunction;" ∈ wsJ0_checkIndex_df160 := by decide +kernel
  refine g_iload_n C dJ0_checkIndex_df160_0 0 rfl ?_
  refine g_iload_n C dJ0_checkIndex_df160_1 1 rfl ?_
  refine g_getsF C lk1053 dJ0_checkIndex_df160_2 (fun v hv => ?_)
  refine g_callSi (n := 3) C (c_J3_checkIndex_8e157 g k n v hv hk hn) gJ0_checkIndex_df160_J3_checkIndex_8e157 rfl rfl (by decide) (by decide) rfl (Nat.le_of_ble_eq_true rfl) dJ0_checkIndex_df160_5 ?_
  refine g_pop C dJ0_checkIndex_df160_8 rfl ?_
  exact g_vret C F (rfl) dJ0_checkIndex_df160_9
set_option maxHeartbeats 4000000 in
set_option maxRecDepth 100000 in
theorem c_J1_charAt_3b067 (g : Gl) (j k : Nat) (hj : j < 2) (hk : k < kLen.getD j 0) : Ctr g yJ1_charAt_3b067 wsJ1_charAt_3b067 ({ frames := 2, cells := 0, slots := 0, locals := 43 }) [.ref (gV g j), .int (nI k)] [] (some (.int (kch j k))) [] 0 0 := by
  refine Ctr.start (cc := cJ1_charAt_3b067) (maxL := 2) (ret := (some .char)) (by decide) rfl (Nat.le_of_ble_eq_true rfl) (lv0 := [(0, .ref (gV g j)), (1, .int (nI k))]) rfl ?_
  intro X C F
  have C : Ok g X cJ1_charAt_3b067 RJ1 wsJ1_charAt_3b067 ({ frames := 2, cells := 0, slots := 0, locals := 43 }) (some .char) 2 := C
  have hlen := kLen_lt j
  refine g_iload_n C dJ1_charAt_3b067_0 1 rfl ?_
  refine g_aload_n C dJ1_charAt_3b067_1 0 rfl ?_
  refine g_alenV C hj (v := nI (kLen.getD j 0)) rfl dJ1_charAt_3b067_2 ?_
  refine g_callSv (n := 2) C (c_J0_checkIndex_df160 g k (kLen.getD j 0) hk (by omega)) gJ1_charAt_3b067_J0_checkIndex_df160 rfl rfl (by decide) (by decide) rfl (Nat.le_of_ble_eq_true rfl) dJ1_charAt_3b067_3 ?_
  refine g_aload_n C dJ1_charAt_3b067_6 0 rfl ?_
  refine g_iload_n C dJ1_charAt_3b067_7 1 rfl ?_
  refine g_baldV C hj (v := (kByt.getD j []).getD k 0) (vp_in_nI hk (by omega)) (by rw [nI_clamp (by omega)]) dJ1_charAt_3b067_8 ?_
  refine g_sipush C dJ1_charAt_3b067_9 (v := 255) (by decide) ?_
  refine g_iand C dJ1_charAt_3b067_12 ?_
  refine g_i2c C dJ1_charAt_3b067_13 (v := kch j k) (sc_c2 _) ?_
  exact g_zret C F (sc_nar _) (rfl) (rfl) dJ1_charAt_3b067_14
set_option maxHeartbeats 4000000 in
set_option maxRecDepth 100000 in
theorem c_J0_charAt_5068e (g : Gl) (j k : Nat) (hj : j < 2) (hk : k < kLen.getD j 0) : Ctr g yJ0_charAt_5068e wsJ0_charAt_5068e ({ frames := 3, cells := 0, slots := 0, locals := 64 }) [.ref (gK g j), .int (nI k)] [] (some (.int (kch j k))) [] 0 0 := by
  refine Ctr.start (cc := cJ0_charAt_5068e) (maxL := 2) (ret := (some .char)) (by decide) rfl (Nat.le_of_ble_eq_true rfl) (lv0 := [(0, .ref (gK g j)), (1, .int (nI k))]) rfl ?_
  intro X C F
  have C : Ok g X cJ0_charAt_5068e RJ0 wsJ0_charAt_5068e ({ frames := 3, cells := 0, slots := 0, locals := 64 }) (some .char) 2 := C
  have lk9 : Cond.fieldLink RJ0 9 "java/lang/String" "value" "[B" ∈ wsJ0_charAt_5068e := by decide +kernel
  refine g_aload_n C dJ0_charAt_5068e_0 0 rfl ?_
  refine g_callK (n := 0) C hj (c_J0_isLatin1_aae02 g j hj) gJ0_charAt_5068e_J0_isLatin1_aae02 rfl rfl (by decide) (by decide) rfl (Nat.le_of_ble_eq_true rfl) dJ0_charAt_5068e_1 ?_
  refine g_if_eq C dJ0_charAt_5068e_4 (tgt := 16) (by decide) (fun c1 => ?_) (fun c1 => ?_)
  · exact absurd c1 (by decide)
  · refine g_aload_n C dJ0_charAt_5068e_7 0 rfl ?_
    refine g_getfV C hj lk9 dJ0_charAt_5068e_8 ?_
    refine g_iload_n C dJ0_charAt_5068e_11 1 rfl ?_
    refine g_callSi (n := 2) C (c_J1_charAt_3b067 g j k hj hk) gJ0_charAt_5068e_J1_charAt_3b067 rfl rfl (by decide) (by decide) rfl (Nat.le_of_ble_eq_true rfl) dJ0_charAt_5068e_12 ?_
    exact g_zret C F (sc_nar _) (rfl) (rfl) dJ0_charAt_5068e_15
end
section
theorem mb_g (x a b : Int32) (k : Nat) (hk : k ≤ 24) (ha : (a.toBitVec.smod 32).toNat = k) (hb : ((b.toUInt32 &&& Int32.toUInt32 31).toBitVec % 32).toNat = k) : (x >>> a).toInt8 = ((x.toUInt32 >>> (b.toUInt32 &&& Int32.toUInt32 31)).toInt32).toInt8 := by
  apply Int8.toBitVec_inj.mp
  rw [Int32.toBitVec_toInt8, Int32.toBitVec_toInt8]
  apply BitVec.eq_of_getLsbD_eq
  intro i hi
  have h1 : (x >>> a).toBitVec.getLsbD i = x.toBitVec.getLsbD (k + i) := by
    rw [Int32.toBitVec_shiftRight]
    show (x.toBitVec.sshiftRight (a.toBitVec.smod 32).toNat).getLsbD i = _
    rw [ha, BitVec.getLsbD_sshiftRight, if_pos (by omega)]
    simp; omega
  have h2 : ((x.toUInt32 >>> (b.toUInt32 &&& Int32.toUInt32 31)).toInt32).toBitVec.getLsbD i = x.toBitVec.getLsbD (k + i) := by
    show (x.toUInt32 >>> (b.toUInt32 &&& Int32.toUInt32 31)).toBitVec.getLsbD i = x.toUInt32.toBitVec.getLsbD (k + i)
    rw [UInt32.toBitVec_shiftRight]
    show (x.toUInt32.toBitVec >>> ((b.toUInt32 &&& Int32.toUInt32 31).toBitVec % 32).toNat).getLsbD i = _
    rw [hb, BitVec.getLsbD_ushiftRight]
  rw [BitVec.getLsbD_signExtend, BitVec.getLsbD_signExtend, if_pos (by omega), if_pos (by omega), h1, h2]
theorem cb_nar (x : Int32) (k : Nat) : vp_nar .byte (cb x k) = cb x k := by
  match k with
  | 0 => exact pk_vb _
  | 1 => exact pk_vb _
  | 2 => exact pk_vb _
  | k + 3 => exact pk_vb _
theorem mb_0 (x : Int32) : (x >>> (((24 : Int32) - 8 * nI 0) &&& 31)).toInt8.toInt32 = cb x 0 := by
  have h : (x >>> ((24 - 8 * nI 0) &&& 31)).toInt8 = ((x.toUInt32 >>> (Int32.toUInt32 24 &&& Int32.toUInt32 31)).toInt32).toInt8 := mb_g x _ _ 24 (by omega) (by decide) (by decide)
  rw [h]; rfl
theorem mb_1 (x : Int32) : (x >>> (((24 : Int32) - 8 * nI (0 + 1)) &&& 31)).toInt8.toInt32 = cb x 1 := by
  have h : (x >>> ((24 - 8 * nI (0 + 1)) &&& 31)).toInt8 = ((x.toUInt32 >>> (Int32.toUInt32 16 &&& Int32.toUInt32 31)).toInt32).toInt8 := mb_g x _ _ 16 (by omega) (by decide) (by decide)
  rw [h]; rfl
theorem mb_2 (x : Int32) : (x >>> (((24 : Int32) - 8 * nI (0 + 1 + 1)) &&& 31)).toInt8.toInt32 = cb x 2 := by
  have h : (x >>> ((24 - 8 * nI (0 + 1 + 1)) &&& 31)).toInt8 = ((x.toUInt32 >>> (Int32.toUInt32 8 &&& Int32.toUInt32 31)).toInt32).toInt8 := mb_g x _ _ 8 (by omega) (by decide) (by decide)
  rw [h]; rfl
theorem mb_3 (x : Int32) : (x >>> (((24 : Int32) - 8 * nI (0 + 1 + 1 + 1)) &&& 31)).toInt8.toInt32 = cb x 3 := by
  rw [show ((24 : Int32) - 8 * nI (0 + 1 + 1 + 1)) = 0 from by decide, sb_shr0]; rfl
set_option maxHeartbeats 4000000 in
set_option maxRecDepth 100000 in
theorem c_X1_four (g : Gl) (b : Nat → Nat) (tr : Nat → Int32) (fed : Int32) (tx : Nat → Int32) (m : Int32) (ks fs ts : Nat → Int32) (ct pl : Int32) (t : Nat) (ht : t + 4 ≤ 16000) (x : Int32) : Ctr g yX1_four wsX1_four ({ frames := 0, cells := 0, slots := 0, locals := 0 }) [.ref (b 0), .int x] (mw g b tr (nI t) fed tx m ks fs ts ct pl) (none) (mw g b (put4 tr t x) (nI (t + 4)) fed tx m ks fs ts ct pl) 0 0 := by
  refine Ctr.start (cc := cX1_four) (maxL := 3) (ret := none) (by decide) rfl (Nat.le_of_ble_eq_true rfl) (lv0 := [(0, .ref (b 0)), (1, .int x)]) rfl ?_
  intro X C F
  have C : Ok g X cX1_four RX1 wsX1_four ({ frames := 0, cells := 0, slots := 0, locals := 0 }) none 3 := C
  have hin : ∀ w ∈ wsX10, w ∈ wsX1_four := fun _ h => List.mem_cons_of_mem _ (List.mem_append_right _ h)
  have lk30 : Cond.fieldLink RX1 30 "TokenRowsModel" "trayed" "I" ∈ wsX1_four := by decide +kernel
  have lk9 : Cond.fieldLink RX1 9 "TokenRowsModel" "tray" "[B" ∈ wsX1_four := by decide +kernel
  refine g_iconst C dX1_four_0 (v := nI 0) (by decide) ?_
  refine g_istore_n (lv' := [(2, .int (nI 0)), (0, .ref (b 0)), (1, .int x)]) C dX1_four_1 (by decide) rfl ?_
  refine g_iload_n C dX1_four_2 0 rfl ?_
  refine g_iconst C dX1_four_3 (v := 4) (by decide) ?_
  refine g_icmp_ge C dX1_four_4 (tgt := 42) (by decide) (fun c1 => ?_) (fun c1 => ?_)
  · exact absurd c1 (by decide)
  · refine g_aload_n C dX1_four_7 1 rfl ?_
    refine g_get1 C hin 0 rfl 0 (by decide) lk9 rfl dX1_four_8 ?_
    refine g_aload_n C dX1_four_11 1 rfl ?_
    refine g_get1 C hin 0 rfl 1 (by decide) lk30 rfl dX1_four_12 ?_
    refine g_iload_n C dX1_four_15 2 rfl ?_
    refine g_bipush C dX1_four_16 (v := 24) (by decide) ?_
    refine g_bipush C dX1_four_18 (v := 8) (by decide) ?_
    refine g_iload_n C dX1_four_20 0 rfl ?_
    refine g_imul C dX1_four_21 ?_
    refine g_isub C dX1_four_22 ?_
    refine g_ishr C dX1_four_23 ?_
    refine g_i2b C dX1_four_24 (v := cb x 0) (mb_0 x) ?_
    refine g_bast (v := cb x 0) (ws' := (mw g b (upd tr t (cb x 0)) (nI t) fed tx m ks fs ts ct pl)) C 1 rfl (vp_in_nI (by omega) (by omega)) (cb_nar x 0) (by rw [nI_clamp (by omega)]; rfl) dX1_four_25 ?_
    refine g_aload_n C dX1_four_26 1 rfl ?_
    refine g_dup C dX1_four_27 rfl ?_
    refine g_get1 C hin 0 rfl 1 (by decide) lk30 rfl dX1_four_28 ?_
    refine g_iconst C dX1_four_31 (v := 1) (by decide) ?_
    refine g_iadd C dX1_four_32 ?_
    refine g_top (nI_add t 1) ?_
    refine g_top (y := nI (t + 1)) (by congr 1) ?_
    refine g_put1 (ws' := (mw g b (upd tr t (cb x 0)) (nI (t + 1)) fed tx m ks fs ts ct pl)) C hin 0 rfl 1 (by decide) lk30 rfl rfl rfl (Nat.le_of_ble_eq_true rfl) rfl dX1_four_33 ?_
    refine g_iinc (o := 0) (v := nI (0 + 1)) (lv' := [(2, .int (nI (0 + 1))), (0, .ref (b 0)), (1, .int x)]) C dX1_four_36 rfl (nI_add 0 1) (by decide) rfl ?_
    refine g_goto C dX1_four_39 (tgt := 2) (by decide) ?_
    refine g_iload_n C dX1_four_2 0 rfl ?_
    refine g_iconst C dX1_four_3 (v := 4) (by decide) ?_
    refine g_icmp_ge C dX1_four_4 (tgt := 42) (by decide) (fun c2 => ?_) (fun c2 => ?_)
    · exact absurd c2 (by decide)
    · refine g_aload_n C dX1_four_7 1 rfl ?_
      refine g_get1 C hin 0 rfl 0 (by decide) lk9 rfl dX1_four_8 ?_
      refine g_aload_n C dX1_four_11 1 rfl ?_
      refine g_get1 C hin 0 rfl 1 (by decide) lk30 rfl dX1_four_12 ?_
      refine g_iload_n C dX1_four_15 2 rfl ?_
      refine g_bipush C dX1_four_16 (v := 24) (by decide) ?_
      refine g_bipush C dX1_four_18 (v := 8) (by decide) ?_
      refine g_iload_n C dX1_four_20 0 rfl ?_
      refine g_imul C dX1_four_21 ?_
      refine g_isub C dX1_four_22 ?_
      refine g_ishr C dX1_four_23 ?_
      refine g_i2b C dX1_four_24 (v := cb x 1) (mb_1 x) ?_
      refine g_bast (v := cb x 1) (ws' := (mw g b (upd (upd tr t (cb x 0)) (t + 1) (cb x 1)) (nI (t + 1)) fed tx m ks fs ts ct pl)) C 1 rfl (vp_in_nI (by omega) (by omega)) (cb_nar x 1) (by rw [nI_clamp (by omega)]; rfl) dX1_four_25 ?_
      refine g_aload_n C dX1_four_26 1 rfl ?_
      refine g_dup C dX1_four_27 rfl ?_
      refine g_get1 C hin 0 rfl 1 (by decide) lk30 rfl dX1_four_28 ?_
      refine g_iconst C dX1_four_31 (v := 1) (by decide) ?_
      refine g_iadd C dX1_four_32 ?_
      refine g_top (nI_add (t + 1) 1) ?_
      refine g_top (y := nI (t + 2)) (by congr 1) ?_
      refine g_put1 (ws' := (mw g b (upd (upd tr t (cb x 0)) (t + 1) (cb x 1)) (nI (t + 2)) fed tx m ks fs ts ct pl)) C hin 0 rfl 1 (by decide) lk30 rfl rfl rfl (Nat.le_of_ble_eq_true rfl) rfl dX1_four_33 ?_
      refine g_iinc (o := 0) (v := nI (0 + 1 + 1)) (lv' := [(2, .int (nI (0 + 1 + 1))), (0, .ref (b 0)), (1, .int x)]) C dX1_four_36 rfl (nI_add (0 + 1) 1) (by decide) rfl ?_
      refine g_goto C dX1_four_39 (tgt := 2) (by decide) ?_
      refine g_iload_n C dX1_four_2 0 rfl ?_
      refine g_iconst C dX1_four_3 (v := 4) (by decide) ?_
      refine g_icmp_ge C dX1_four_4 (tgt := 42) (by decide) (fun c3 => ?_) (fun c3 => ?_)
      · exact absurd c3 (by decide)
      · refine g_aload_n C dX1_four_7 1 rfl ?_
        refine g_get1 C hin 0 rfl 0 (by decide) lk9 rfl dX1_four_8 ?_
        refine g_aload_n C dX1_four_11 1 rfl ?_
        refine g_get1 C hin 0 rfl 1 (by decide) lk30 rfl dX1_four_12 ?_
        refine g_iload_n C dX1_four_15 2 rfl ?_
        refine g_bipush C dX1_four_16 (v := 24) (by decide) ?_
        refine g_bipush C dX1_four_18 (v := 8) (by decide) ?_
        refine g_iload_n C dX1_four_20 0 rfl ?_
        refine g_imul C dX1_four_21 ?_
        refine g_isub C dX1_four_22 ?_
        refine g_ishr C dX1_four_23 ?_
        refine g_i2b C dX1_four_24 (v := cb x 2) (mb_2 x) ?_
        refine g_bast (v := cb x 2) (ws' := (mw g b (upd (upd (upd tr t (cb x 0)) (t + 1) (cb x 1)) (t + 2) (cb x 2)) (nI (t + 2)) fed tx m ks fs ts ct pl)) C 1 rfl (vp_in_nI (by omega) (by omega)) (cb_nar x 2) (by rw [nI_clamp (by omega)]; rfl) dX1_four_25 ?_
        refine g_aload_n C dX1_four_26 1 rfl ?_
        refine g_dup C dX1_four_27 rfl ?_
        refine g_get1 C hin 0 rfl 1 (by decide) lk30 rfl dX1_four_28 ?_
        refine g_iconst C dX1_four_31 (v := 1) (by decide) ?_
        refine g_iadd C dX1_four_32 ?_
        refine g_top (nI_add (t + 2) 1) ?_
        refine g_top (y := nI (t + 3)) (by congr 1) ?_
        refine g_put1 (ws' := (mw g b (upd (upd (upd tr t (cb x 0)) (t + 1) (cb x 1)) (t + 2) (cb x 2)) (nI (t + 3)) fed tx m ks fs ts ct pl)) C hin 0 rfl 1 (by decide) lk30 rfl rfl rfl (Nat.le_of_ble_eq_true rfl) rfl dX1_four_33 ?_
        refine g_iinc (o := 0) (v := nI (0 + 1 + 1 + 1)) (lv' := [(2, .int (nI (0 + 1 + 1 + 1))), (0, .ref (b 0)), (1, .int x)]) C dX1_four_36 rfl (nI_add (0 + 1 + 1) 1) (by decide) rfl ?_
        refine g_goto C dX1_four_39 (tgt := 2) (by decide) ?_
        refine g_iload_n C dX1_four_2 0 rfl ?_
        refine g_iconst C dX1_four_3 (v := 4) (by decide) ?_
        refine g_icmp_ge C dX1_four_4 (tgt := 42) (by decide) (fun c4 => ?_) (fun c4 => ?_)
        · exact absurd c4 (by decide)
        · refine g_aload_n C dX1_four_7 1 rfl ?_
          refine g_get1 C hin 0 rfl 0 (by decide) lk9 rfl dX1_four_8 ?_
          refine g_aload_n C dX1_four_11 1 rfl ?_
          refine g_get1 C hin 0 rfl 1 (by decide) lk30 rfl dX1_four_12 ?_
          refine g_iload_n C dX1_four_15 2 rfl ?_
          refine g_bipush C dX1_four_16 (v := 24) (by decide) ?_
          refine g_bipush C dX1_four_18 (v := 8) (by decide) ?_
          refine g_iload_n C dX1_four_20 0 rfl ?_
          refine g_imul C dX1_four_21 ?_
          refine g_isub C dX1_four_22 ?_
          refine g_ishr C dX1_four_23 ?_
          refine g_i2b C dX1_four_24 (v := cb x 3) (mb_3 x) ?_
          refine g_bast (v := cb x 3) (ws' := (mw g b (upd (upd (upd (upd tr t (cb x 0)) (t + 1) (cb x 1)) (t + 2) (cb x 2)) (t + 3) (cb x 3)) (nI (t + 3)) fed tx m ks fs ts ct pl)) C 1 rfl (vp_in_nI (by omega) (by omega)) (cb_nar x 3) (by rw [nI_clamp (by omega)]; rfl) dX1_four_25 ?_
          refine g_aload_n C dX1_four_26 1 rfl ?_
          refine g_dup C dX1_four_27 rfl ?_
          refine g_get1 C hin 0 rfl 1 (by decide) lk30 rfl dX1_four_28 ?_
          refine g_iconst C dX1_four_31 (v := 1) (by decide) ?_
          refine g_iadd C dX1_four_32 ?_
          refine g_top (nI_add (t + 3) 1) ?_
          refine g_top (y := nI (t + 4)) (by congr 1) ?_
          refine g_put1 (ws' := (mw g b (upd (upd (upd (upd tr t (cb x 0)) (t + 1) (cb x 1)) (t + 2) (cb x 2)) (t + 3) (cb x 3)) (nI (t + 4)) fed tx m ks fs ts ct pl)) C hin 0 rfl 1 (by decide) lk30 rfl rfl rfl (Nat.le_of_ble_eq_true rfl) rfl dX1_four_33 ?_
          refine g_iinc (o := 0) (v := nI (0 + 1 + 1 + 1 + 1)) (lv' := [(2, .int (nI (0 + 1 + 1 + 1 + 1))), (0, .ref (b 0)), (1, .int x)]) C dX1_four_36 rfl (nI_add (0 + 1 + 1 + 1) 1) (by decide) rfl ?_
          refine g_goto C dX1_four_39 (tgt := 2) (by decide) ?_
          refine g_iload_n C dX1_four_2 0 rfl ?_
          refine g_iconst C dX1_four_3 (v := 4) (by decide) ?_
          refine g_icmp_ge C dX1_four_4 (tgt := 42) (by decide) (fun c5 => ?_) (fun c5 => ?_)
          · exact g_vret C F (rfl) dX1_four_42
          · exact absurd (by decide) c5
set_option maxHeartbeats 4000000 in
set_option maxRecDepth 100000 in
theorem c_X1_feed (g : Gl) (b : Nat → Nat) (tr : Nat → Int32) (tx : Nat → Int32) (m : Int32) (ks fs ts : Nat → Int32) (ct pl : Int32) (t f : Nat) (ht : t ≤ 16000) (hf : f ≤ 65536) (x y z u v : Int32) (h : t + 20 ≤ 16000 ∧ f + 20 ≤ 65536) : Ctr g yX1_feed wsX1_feed ({ frames := 1, cells := 0, slots := 0, locals := 22 }) [.ref (b 0), .int x, .int y, .int z, .int u, .int v] (mw g b tr (nI t) (nI f) tx m ks fs ts ct pl) (some (.int (nI (t + 20)))) (mw g b (put20 tr t x y z u v) (nI (t + 20)) (nI (f + 20)) tx m ks fs ts ct pl) 0 0 := by
  refine Ctr.start (cc := cX1_feed) (maxL := 6) (ret := (some .int)) (by decide) rfl (Nat.le_of_ble_eq_true rfl) (lv0 := [(0, .ref (b 0)), (1, .int x), (2, .int y), (3, .int z), (4, .int u), (5, .int v)]) rfl ?_
  intro X C F
  have C : Ok g X cX1_feed RX1 wsX1_feed ({ frames := 1, cells := 0, slots := 0, locals := 22 }) (some .int) 6 := C
  have hin : ∀ w ∈ wsX10, w ∈ wsX1_feed := fun _ h => List.mem_cons_of_mem _ (List.mem_append_right _ h)
  have lc36 : Cond.constant RX1 36 (65536) ∈ wsX1_feed := by decide +kernel
  have lk30 : Cond.fieldLink RX1 30 "TokenRowsModel" "trayed" "I" ∈ wsX1_feed := by decide +kernel
  have lk33 : Cond.fieldLink RX1 33 "TokenRowsModel" "fed" "I" ∈ wsX1_feed := by decide +kernel
  refine g_aload_n C dX1_feed_0 0 rfl ?_
  refine g_get1 C hin 0 rfl 1 (by decide) lk30 rfl dX1_feed_1 ?_
  refine g_bipush C dX1_feed_4 (v := 20) (by decide) ?_
  refine g_iadd C dX1_feed_6 ?_
  refine g_top (nI_add t 20) ?_
  refine g_sipush C dX1_feed_7 (v := 16000) (by decide) ?_
  refine g_icmp_gt C dX1_feed_10 (tgt := 25) (by decide) (fun c1 => ?_) (fun c1 => ?_)
  · have q1 : 16000 < t + 20 := (nI_ltI (a := 16000) (by omega) (by omega)).mp c1
    omega
  · have q1 : ¬ 16000 < t + 20 := fun z => c1 (nI_lt (a := 16000) z (by omega))
    refine g_aload_n C dX1_feed_13 0 rfl ?_
    refine g_get1 C hin 0 rfl 2 (by decide) lk33 rfl dX1_feed_14 ?_
    refine g_bipush C dX1_feed_17 (v := 20) (by decide) ?_
    refine g_iadd C dX1_feed_19 ?_
    refine g_top (nI_add f 20) ?_
    refine g_ldc C dX1_feed_20 (v := 65536) lc36 ?_
    refine g_icmp_le C dX1_feed_22 (tgt := 27) (by decide) (fun c2 => ?_) (fun c2 => ?_)
    · have q2 : f + 20 ≤ 65536 := (nI_leI (b := 65536) (by omega) (by omega)).mp c2
      refine g_aload_n C dX1_feed_27 0 rfl ?_
      refine g_iload_n C dX1_feed_28 1 rfl ?_
      refine g_callVv (n := 1) C (c_X1_four g b tr (nI f) tx m ks fs ts ct pl t (by omega) x) gX1_feed_X1_four rfl rfl rfl rfl (by decide) (by decide) rfl (Nat.le_of_ble_eq_true rfl) dX1_feed_29 ?_
      refine g_aload_n C dX1_feed_32 0 rfl ?_
      refine g_iload_n C dX1_feed_33 2 rfl ?_
      refine g_callVv (n := 1) C (c_X1_four g b (put4 tr t x) (nI f) tx m ks fs ts ct pl (t + 4) (by omega) y) gX1_feed_X1_four rfl rfl rfl rfl (by decide) (by decide) rfl (Nat.le_of_ble_eq_true rfl) dX1_feed_34 ?_
      refine g_aload_n C dX1_feed_37 0 rfl ?_
      refine g_iload_n C dX1_feed_38 3 rfl ?_
      refine g_callVv (n := 1) C (c_X1_four g b (put4 (put4 tr t x) (t + 4) y) (nI f) tx m ks fs ts ct pl (t + 8) (by omega) z) gX1_feed_X1_four rfl rfl rfl rfl (by decide) (by decide) rfl (Nat.le_of_ble_eq_true rfl) dX1_feed_39 ?_
      refine g_aload_n C dX1_feed_42 0 rfl ?_
      refine g_iload C dX1_feed_43 4 rfl ?_
      refine g_callVv (n := 1) C (c_X1_four g b (put4 (put4 (put4 tr t x) (t + 4) y) (t + 8) z) (nI f) tx m ks fs ts ct pl (t + 12) (by omega) u) gX1_feed_X1_four rfl rfl rfl rfl (by decide) (by decide) rfl (Nat.le_of_ble_eq_true rfl) dX1_feed_45 ?_
      refine g_aload_n C dX1_feed_48 0 rfl ?_
      refine g_iload C dX1_feed_49 5 rfl ?_
      refine g_callVv (n := 1) C (c_X1_four g b (put4 (put4 (put4 (put4 tr t x) (t + 4) y) (t + 8) z) (t + 12) u) (nI f) tx m ks fs ts ct pl (t + 16) (by omega) v) gX1_feed_X1_four rfl rfl rfl rfl (by decide) (by decide) rfl (Nat.le_of_ble_eq_true rfl) dX1_feed_51 ?_
      refine g_aload_n C dX1_feed_54 0 rfl ?_
      refine g_dup C dX1_feed_55 rfl ?_
      refine g_get1 C hin 0 rfl 2 (by decide) lk33 rfl dX1_feed_56 ?_
      refine g_bipush C dX1_feed_59 (v := 20) (by decide) ?_
      refine g_iadd C dX1_feed_61 ?_
      refine g_top (nI_add f 20) ?_
      refine g_put1 (ws' := (mw g b (put4 (put4 (put4 (put4 (put4 tr t x) (t + 4) y) (t + 8) z) (t + 12) u) (t + 16) v) (nI (t + 20)) (nI (f + 20)) tx m ks fs ts ct pl)) C hin 0 rfl 2 (by decide) lk33 rfl rfl rfl (Nat.le_of_ble_eq_true rfl) rfl dX1_feed_62 ?_
      refine g_aload_n C dX1_feed_65 0 rfl ?_
      refine g_get1 C hin 0 rfl 1 (by decide) lk30 rfl dX1_feed_66 ?_
      exact g_iret C F (rfl) (rfl) dX1_feed_69
    · have q2 : ¬ f + 20 ≤ 65536 := fun z => c2 (nI_le (b := 65536) z (by omega))
      omega
set_option maxHeartbeats 4000000 in
set_option maxRecDepth 100000 in
theorem c_X1_feedN (g : Gl) (b : Nat → Nat) (tr : Nat → Int32) (tx : Nat → Int32) (m : Int32) (ks fs ts : Nat → Int32) (ct pl : Int32) (t f : Nat) (ht : t ≤ 16000) (hf : f ≤ 65536) (x y z u v : Int32) (h : ¬ (t + 20 ≤ 16000 ∧ f + 20 ≤ 65536)) : Ctr g yX1_feed wsX1_feed ({ frames := 1, cells := 0, slots := 0, locals := 22 }) [.ref (b 0), .int x, .int y, .int z, .int u, .int v] (mw g b tr (nI t) (nI f) tx m ks fs ts ct pl) (some (.int (-1))) (mw g b tr (nI t) (nI f) tx m ks fs ts ct pl) 0 0 := by
  refine Ctr.start (cc := cX1_feed) (maxL := 6) (ret := (some .int)) (by decide) rfl (Nat.le_of_ble_eq_true rfl) (lv0 := [(0, .ref (b 0)), (1, .int x), (2, .int y), (3, .int z), (4, .int u), (5, .int v)]) rfl ?_
  intro X C F
  have C : Ok g X cX1_feed RX1 wsX1_feed ({ frames := 1, cells := 0, slots := 0, locals := 22 }) (some .int) 6 := C
  have hin : ∀ w ∈ wsX10, w ∈ wsX1_feed := fun _ h => List.mem_cons_of_mem _ (List.mem_append_right _ h)
  have lc36 : Cond.constant RX1 36 (65536) ∈ wsX1_feed := by decide +kernel
  have lk30 : Cond.fieldLink RX1 30 "TokenRowsModel" "trayed" "I" ∈ wsX1_feed := by decide +kernel
  have lk33 : Cond.fieldLink RX1 33 "TokenRowsModel" "fed" "I" ∈ wsX1_feed := by decide +kernel
  refine g_aload_n C dX1_feed_0 0 rfl ?_
  refine g_get1 C hin 0 rfl 1 (by decide) lk30 rfl dX1_feed_1 ?_
  refine g_bipush C dX1_feed_4 (v := 20) (by decide) ?_
  refine g_iadd C dX1_feed_6 ?_
  refine g_top (nI_add t 20) ?_
  refine g_sipush C dX1_feed_7 (v := 16000) (by decide) ?_
  refine g_icmp_gt C dX1_feed_10 (tgt := 25) (by decide) (fun c1 => ?_) (fun c1 => ?_)
  · refine g_iconst C dX1_feed_25 (v := (-1)) (by decide) ?_
    exact g_iret C F (rfl) (rfl) dX1_feed_26
  · have q1 : ¬ 16000 < t + 20 := fun z => c1 (nI_lt (a := 16000) z (by omega))
    refine g_aload_n C dX1_feed_13 0 rfl ?_
    refine g_get1 C hin 0 rfl 2 (by decide) lk33 rfl dX1_feed_14 ?_
    refine g_bipush C dX1_feed_17 (v := 20) (by decide) ?_
    refine g_iadd C dX1_feed_19 ?_
    refine g_top (nI_add f 20) ?_
    refine g_ldc C dX1_feed_20 (v := 65536) lc36 ?_
    refine g_icmp_le C dX1_feed_22 (tgt := 27) (by decide) (fun c2 => ?_) (fun c2 => ?_)
    · have q2 : f + 20 ≤ 65536 := (nI_leI (b := 65536) (by omega) (by omega)).mp c2
      exact absurd ⟨by omega, q2⟩ h
    · refine g_iconst C dX1_feed_25 (v := (-1)) (by decide) ?_
      exact g_iret C F (rfl) (rfl) dX1_feed_26
set_option maxHeartbeats 4000000 in
set_option maxRecDepth 100000 in
theorem c_X1_end (g : Gl) (b : Nat → Nat) (tr : Nat → Int32) (fed : Int32) (tx : Nat → Int32) (m : Int32) (ks fs ts : Nat → Int32) (ct pl : Int32) (t j : Nat) (ht : t ≤ 16000) (hj : j ≤ t) : Ctr g yX1_end wsX1_end ({ frames := 0, cells := 0, slots := 0, locals := 0 }) [.ref (b 0), .int (nI j)] (mw g b tr (nI t) fed tx m ks fs ts ct pl) (some (.int (nI j))) (mw g b tr (nI j) fed tx m ks fs ts ct pl) 0 0 := by
  refine Ctr.start (cc := cX1_end) (maxL := 2) (ret := (some .int)) (by decide) rfl (Nat.le_of_ble_eq_true rfl) (lv0 := [(0, .ref (b 0)), (1, .int (nI j))]) rfl ?_
  intro X C F
  have C : Ok g X cX1_end RX1 wsX1_end ({ frames := 0, cells := 0, slots := 0, locals := 0 }) (some .int) 2 := C
  have hin : ∀ w ∈ wsX10, w ∈ wsX1_end := fun _ h => List.mem_cons_of_mem _ (List.mem_append_right _ h)
  have lk30 : Cond.fieldLink RX1 30 "TokenRowsModel" "trayed" "I" ∈ wsX1_end := by decide +kernel
  refine g_iload_n C dX1_end_0 1 rfl ?_
  refine g_if_lt C dX1_end_1 (tgt := 12) (by decide) (fun c1 => ?_) (fun c1 => ?_)
  · exact absurd c1 (nI_pos (by omega))
  · refine g_iload_n C dX1_end_4 1 rfl ?_
    refine g_aload_n C dX1_end_5 0 rfl ?_
    refine g_get1 C hin 0 rfl 1 (by decide) lk30 rfl dX1_end_6 ?_
    refine g_icmp_le C dX1_end_9 (tgt := 14) (by decide) (fun c2 => ?_) (fun c2 => ?_)
    · refine g_aload_n C dX1_end_14 0 rfl ?_
      refine g_iload_n C dX1_end_15 1 rfl ?_
      refine g_put1 (ws' := (mw g b tr (nI j) fed tx m ks fs ts ct pl)) C hin 0 rfl 1 (by decide) lk30 rfl rfl rfl (Nat.le_of_ble_eq_true rfl) rfl dX1_end_16 ?_
      refine g_iload_n C dX1_end_19 1 rfl ?_
      exact g_iret C F (rfl) (rfl) dX1_end_20
    · exact absurd (nI_le hj (by omega)) c2
set_option maxHeartbeats 4000000 in
set_option maxRecDepth 100000 in
theorem c_X1_endN (g : Gl) (b : Nat → Nat) (tr : Nat → Int32) (fed : Int32) (tx : Nat → Int32) (m : Int32) (ks fs ts : Nat → Int32) (ct pl : Int32) (t : Nat) (ht : t ≤ 16000) (x : Int32) (h : ¬ (0 ≤ x.toInt ∧ x.toInt ≤ (t : Int))) : Ctr g yX1_end wsX1_end ({ frames := 0, cells := 0, slots := 0, locals := 0 }) [.ref (b 0), .int x] (mw g b tr (nI t) fed tx m ks fs ts ct pl) (some (.int (-1))) (mw g b tr (nI t) fed tx m ks fs ts ct pl) 0 0 := by
  refine Ctr.start (cc := cX1_end) (maxL := 2) (ret := (some .int)) (by decide) rfl (Nat.le_of_ble_eq_true rfl) (lv0 := [(0, .ref (b 0)), (1, .int x)]) rfl ?_
  intro X C F
  have C : Ok g X cX1_end RX1 wsX1_end ({ frames := 0, cells := 0, slots := 0, locals := 0 }) (some .int) 2 := C
  have hin : ∀ w ∈ wsX10, w ∈ wsX1_end := fun _ h => List.mem_cons_of_mem _ (List.mem_append_right _ h)
  have lk30 : Cond.fieldLink RX1 30 "TokenRowsModel" "trayed" "I" ∈ wsX1_end := by decide +kernel
  refine g_iload_n C dX1_end_0 1 rfl ?_
  refine g_if_lt C dX1_end_1 (tgt := 12) (by decide) (fun c1 => ?_) (fun c1 => ?_)
  · refine g_iconst C dX1_end_12 (v := (-1)) (by decide) ?_
    exact g_iret C F (rfl) (rfl) dX1_end_13
  · refine g_iload_n C dX1_end_4 1 rfl ?_
    refine g_aload_n C dX1_end_5 0 rfl ?_
    refine g_get1 C hin 0 rfl 1 (by decide) lk30 rfl dX1_end_6 ?_
    refine g_icmp_le C dX1_end_9 (tgt := 14) (by decide) (fun c2 => ?_) (fun c2 => ?_)
    · have q := k_le (nI_toInt (n := t) (by omega)) c2
      have q0 := k_nlt (b := 0) (by decide) c1
      omega
    · refine g_iconst C dX1_end_12 (v := (-1)) (by decide) ?_
      exact g_iret C F (rfl) (rfl) dX1_end_13
set_option maxHeartbeats 4000000 in
set_option maxRecDepth 100000 in
theorem c_X1_look (g : Gl) (b : Nat → Nat) (tr : Nat → Int32) (n fed : Int32) (tx : Nat → Int32) (ks fs ts : Nat → Int32) (ct pl : Int32) (N i : Nat) (hN : N ≤ 16000) (hi : i < 2 ^ 30) : Ctr g yX1_look wsX1_look ({ frames := 0, cells := 0, slots := 0, locals := 0 }) [.ref (b 0), .int (nI i)] (mw g b tr n fed tx (nI N) ks fs ts ct pl) (some (.int (look tx N i))) (mw g b tr n fed tx (nI N) ks fs ts ct pl) 0 0 := by
  refine Ctr.start (cc := cX1_look) (maxL := 2) (ret := (some .int)) (by decide) rfl (Nat.le_of_ble_eq_true rfl) (lv0 := [(0, .ref (b 0)), (1, .int (nI i))]) rfl ?_
  intro X C F
  have C : Ok g X cX1_look RX1 wsX1_look ({ frames := 0, cells := 0, slots := 0, locals := 0 }) (some .int) 2 := C
  have hin : ∀ w ∈ wsX10, w ∈ wsX1_look := fun _ h => List.mem_cons_of_mem _ (List.mem_append_right _ h)
  have lk13 : Cond.fieldLink RX1 13 "TokenRowsModel" "text" "[B" ∈ wsX1_look := by decide +kernel
  have lk41 : Cond.fieldLink RX1 41 "TokenRowsModel" "size" "I" ∈ wsX1_look := by decide +kernel
  refine g_iload_n C dX1_look_0 1 rfl ?_
  refine g_if_lt C dX1_look_1 (tgt := 25) (by decide) (fun c1 => ?_) (fun c1 => ?_)
  · exact absurd c1 (nI_pos (by omega))
  · refine g_iload_n C dX1_look_4 1 rfl ?_
    refine g_aload_n C dX1_look_5 0 rfl ?_
    refine g_get1 C hin 0 rfl 4 (by decide) lk41 rfl dX1_look_6 ?_
    refine g_icmp_ge C dX1_look_9 (tgt := 25) (by decide) (fun c2 => ?_) (fun c2 => ?_)
    · have hio : N ≤ i := (nI_leI (by omega) (by omega)).mp c2
      refine g_iconst C dX1_look_25 (v := (-1)) (by decide) ?_
      exact g_iret C F ((look_out hio).symm) (rfl) dX1_look_26
    · have hii : i < N := Nat.not_le.mp (fun z => c2 (nI_le z (by omega)))
      refine g_aload_n C dX1_look_12 0 rfl ?_
      refine g_get1 C hin 0 rfl 3 (by decide) lk13 rfl dX1_look_13 ?_
      refine g_iload_n C dX1_look_16 1 rfl ?_
      refine g_bald C 2 rfl (vp_in_nI (by omega) (by omega)) dX1_look_17 ?_
      refine g_top (y := tx i) (by rw [nI_clamp (by omega)]) ?_
      refine g_sipush C dX1_look_18 (v := 255) (by decide) ?_
      refine g_iand C dX1_look_21 ?_
      refine g_goto C dX1_look_22 (tgt := 26) (by decide) ?_
      exact g_iret C F ((look_in hii).symm) (rfl) dX1_look_26
set_option maxHeartbeats 4000000 in
set_option maxRecDepth 100000 in
theorem c_X1_place (g : Gl) (b : Nat → Nat) (tr : Nat → Int32) (n fed : Int32) (tx : Nat → Int32) (m : Int32) (ks fs ts : Nat → Int32) (ct pl : Int32) : Ctr g yX1_place wsX1_place ({ frames := 0, cells := 0, slots := 0, locals := 0 }) [.ref (b 0)] (mw g b tr n fed tx m ks fs ts ct pl) (some (.int pl)) (mw g b tr n fed tx m ks fs ts ct pl) 0 0 := by
  refine Ctr.start (cc := cX1_place) (maxL := 1) (ret := (some .int)) (by decide) rfl (Nat.le_of_ble_eq_true rfl) (lv0 := [(0, .ref (b 0))]) rfl ?_
  intro X C F
  have C : Ok g X cX1_place RX1 wsX1_place ({ frames := 0, cells := 0, slots := 0, locals := 0 }) (some .int) 1 := C
  have hin : ∀ w ∈ wsX10, w ∈ wsX1_place := fun _ h => List.mem_cons_of_mem _ (List.mem_append_right _ h)
  have lk26 : Cond.fieldLink RX1 26 "TokenRowsModel" "place" "I" ∈ wsX1_place := by decide +kernel
  refine g_aload_n C dX1_place_0 0 rfl ?_
  refine g_get1 C hin 0 rfl 9 (by decide) lk26 rfl dX1_place_1 ?_
  exact g_iret C F (rfl) (rfl) dX1_place_4
set_option maxHeartbeats 4000000 in
set_option maxRecDepth 100000 in
theorem c_X1_tokens (g : Gl) (b : Nat → Nat) (tr : Nat → Int32) (n fed : Int32) (tx : Nat → Int32) (m : Int32) (ks fs ts : Nat → Int32) (ct pl : Int32) : Ctr g yX1_tokens wsX1_tokens ({ frames := 0, cells := 0, slots := 0, locals := 0 }) [.ref (b 0)] (mw g b tr n fed tx m ks fs ts ct pl) (some (.int ct)) (mw g b tr n fed tx m ks fs ts ct pl) 0 0 := by
  refine Ctr.start (cc := cX1_tokens) (maxL := 1) (ret := (some .int)) (by decide) rfl (Nat.le_of_ble_eq_true rfl) (lv0 := [(0, .ref (b 0))]) rfl ?_
  intro X C F
  have C : Ok g X cX1_tokens RX1 wsX1_tokens ({ frames := 0, cells := 0, slots := 0, locals := 0 }) (some .int) 1 := C
  have hin : ∀ w ∈ wsX10, w ∈ wsX1_tokens := fun _ h => List.mem_cons_of_mem _ (List.mem_append_right _ h)
  have lk58 : Cond.fieldLink RX1 58 "TokenRowsModel" "tokens" "I" ∈ wsX1_tokens := by decide +kernel
  refine g_aload_n C dX1_tokens_0 0 rfl ?_
  refine g_get1 C hin 0 rfl 8 (by decide) lk58 rfl dX1_tokens_1 ?_
  exact g_iret C F (rfl) (rfl) dX1_tokens_4
set_option maxHeartbeats 4000000 in
set_option maxRecDepth 100000 in
theorem c_X1_isToken (g : Gl) (b : Nat → Nat) (tr : Nat → Int32) (n fed : Int32) (tx : Nat → Int32) (m : Int32) (ks fs ts : Nat → Int32) (pl : Int32) (c : Nat) (hc : c ≤ 16000) (x : Int32) : Ctr g yX1_isToken wsX1_isToken ({ frames := 0, cells := 0, slots := 0, locals := 0 }) [.ref (b 0), .int x] (mw g b tr n fed tx m ks fs ts (nI c) pl) (some (.int (b01 (bTok c x)))) (mw g b tr n fed tx m ks fs ts (nI c) pl) 0 0 := by
  refine Ctr.start (cc := cX1_isToken) (maxL := 2) (ret := (some .boolean)) (by decide) rfl (Nat.le_of_ble_eq_true rfl) (lv0 := [(0, .ref (b 0)), (1, .int x)]) rfl ?_
  intro X C F
  have C : Ok g X cX1_isToken RX1 wsX1_isToken ({ frames := 0, cells := 0, slots := 0, locals := 0 }) (some .boolean) 2 := C
  have hin : ∀ w ∈ wsX10, w ∈ wsX1_isToken := fun _ h => List.mem_cons_of_mem _ (List.mem_append_right _ h)
  have lk58 : Cond.fieldLink RX1 58 "TokenRowsModel" "tokens" "I" ∈ wsX1_isToken := by decide +kernel
  refine g_iload_n C dX1_isToken_0 1 rfl ?_
  refine g_if_lt C dX1_isToken_1 (tgt := 16) (by decide) (fun c1 => ?_) (fun c1 => ?_)
  · refine g_iconst C dX1_isToken_16 (v := 0) (by decide) ?_
    have c1 := k_lt (b := 0) (by decide) c1
    exact g_zret C F (by decide) ((b01_f (by omega)).symm) (rfl) dX1_isToken_17
  · refine g_iload_n C dX1_isToken_4 1 rfl ?_
    refine g_aload_n C dX1_isToken_5 0 rfl ?_
    refine g_get1 C hin 0 rfl 8 (by decide) lk58 rfl dX1_isToken_6 ?_
    refine g_icmp_ge C dX1_isToken_9 (tgt := 16) (by decide) (fun c2 => ?_) (fun c2 => ?_)
    · refine g_iconst C dX1_isToken_16 (v := 0) (by decide) ?_
      have c1 := k_nlt (b := 0) (by decide) c1
      have c2 := k_ge rfl c2
      have hcc := nI_toInt (n := c) (by omega)
      exact g_zret C F (by decide) ((b01_f (by omega)).symm) (rfl) dX1_isToken_17
    · refine g_iconst C dX1_isToken_12 (v := 1) (by decide) ?_
      refine g_goto C dX1_isToken_13 (tgt := 17) (by decide) ?_
      have c1 := k_nlt (b := 0) (by decide) c1
      have c2 := k_nge rfl c2
      have hcc := nI_toInt (n := c) (by omega)
      exact g_zret C F (by decide) ((b01_t (by omega)).symm) (rfl) dX1_isToken_17
set_option maxHeartbeats 4000000 in
set_option maxRecDepth 100000 in
theorem c_X1_from (g : Gl) (b : Nat → Nat) (tr : Nat → Int32) (n fed : Int32) (tx : Nat → Int32) (m : Int32) (ks fs ts : Nat → Int32) (pl : Int32) (c : Nat) (hc : c ≤ 16000) (x : Int32) : Ctr g yX1_from wsX1_from ({ frames := 1, cells := 0, slots := 0, locals := 21 }) [.ref (b 0), .int x] (mw g b tr n fed tx m ks fs ts (nI c) pl) (some (.int (if bTok c x = true then fs x.toNatClampNeg else -1))) (mw g b tr n fed tx m ks fs ts (nI c) pl) 0 0 := by
  refine Ctr.start (cc := cX1_from) (maxL := 2) (ret := (some .int)) (by decide) rfl (Nat.le_of_ble_eq_true rfl) (lv0 := [(0, .ref (b 0)), (1, .int x)]) rfl ?_
  intro X C F
  have C : Ok g X cX1_from RX1 wsX1_from ({ frames := 1, cells := 0, slots := 0, locals := 21 }) (some .int) 2 := C
  have hin : ∀ w ∈ wsX10, w ∈ wsX1_from := fun _ h => List.mem_cons_of_mem _ (List.mem_append_right _ h)
  have lk20 : Cond.fieldLink RX1 20 "TokenRowsModel" "froms" "[I" ∈ wsX1_from := by decide +kernel
  refine g_aload_n C dX1_from_0 0 rfl ?_
  refine g_iload_n C dX1_from_1 1 rfl ?_
  refine g_callVi (n := 1) C (c_X1_isToken g b tr n fed tx m ks fs ts pl c hc x) gX1_from_X1_isToken rfl rfl rfl rfl (by decide) (by decide) rfl (Nat.le_of_ble_eq_true rfl) dX1_from_2 ?_
  refine g_if_eq C dX1_from_5 (tgt := 17) (by decide) (fun c1 => ?_) (fun c1 => ?_)
  · refine g_iconst C dX1_from_17 (v := (-1)) (by decide) ?_
    exact g_iret C F (by rw [if_neg (by rw [b01_0.mp c1]; decide)]) (rfl) dX1_from_18
  · refine g_aload_n C dX1_from_8 0 rfl ?_
    refine g_get1 C hin 0 rfl 6 (by decide) lk20 rfl dX1_from_9 ?_
    refine g_iload_n C dX1_from_12 1 rfl ?_
    refine g_iald C 4 rfl (bTok_in (b01_1.mp c1) hc) dX1_from_13 ?_
    refine g_top (y := fs x.toNatClampNeg) (rfl) ?_
    refine g_goto C dX1_from_14 (tgt := 18) (by decide) ?_
    exact g_iret C F (by rw [if_pos (b01_1.mp c1)]) (rfl) dX1_from_18
set_option maxHeartbeats 4000000 in
set_option maxRecDepth 100000 in
theorem c_X1_length (g : Gl) (b : Nat → Nat) (tr : Nat → Int32) (n fed : Int32) (tx : Nat → Int32) (m : Int32) (ks fs ts : Nat → Int32) (pl : Int32) (c : Nat) (hc : c ≤ 16000) (x : Int32) : Ctr g yX1_length wsX1_length ({ frames := 1, cells := 0, slots := 0, locals := 21 }) [.ref (b 0), .int x] (mw g b tr n fed tx m ks fs ts (nI c) pl) (some (.int (if bTok c x = true then ts x.toNatClampNeg - fs x.toNatClampNeg else 0))) (mw g b tr n fed tx m ks fs ts (nI c) pl) 0 0 := by
  refine Ctr.start (cc := cX1_length) (maxL := 2) (ret := (some .int)) (by decide) rfl (Nat.le_of_ble_eq_true rfl) (lv0 := [(0, .ref (b 0)), (1, .int x)]) rfl ?_
  intro X C F
  have C : Ok g X cX1_length RX1 wsX1_length ({ frames := 1, cells := 0, slots := 0, locals := 21 }) (some .int) 2 := C
  have hin : ∀ w ∈ wsX10, w ∈ wsX1_length := fun _ h => List.mem_cons_of_mem _ (List.mem_append_right _ h)
  have lk20 : Cond.fieldLink RX1 20 "TokenRowsModel" "froms" "[I" ∈ wsX1_length := by decide +kernel
  have lk23 : Cond.fieldLink RX1 23 "TokenRowsModel" "tos" "[I" ∈ wsX1_length := by decide +kernel
  refine g_aload_n C dX1_length_0 0 rfl ?_
  refine g_iload_n C dX1_length_1 1 rfl ?_
  refine g_callVi (n := 1) C (c_X1_isToken g b tr n fed tx m ks fs ts pl c hc x) gX1_length_X1_isToken rfl rfl rfl rfl (by decide) (by decide) rfl (Nat.le_of_ble_eq_true rfl) dX1_length_2 ?_
  refine g_if_eq C dX1_length_5 (tgt := 24) (by decide) (fun c1 => ?_) (fun c1 => ?_)
  · refine g_iconst C dX1_length_24 (v := 0) (by decide) ?_
    exact g_iret C F (by rw [if_neg (by rw [b01_0.mp c1]; decide)]) (rfl) dX1_length_25
  · refine g_aload_n C dX1_length_8 0 rfl ?_
    refine g_get1 C hin 0 rfl 7 (by decide) lk23 rfl dX1_length_9 ?_
    refine g_iload_n C dX1_length_12 1 rfl ?_
    refine g_iald C 5 rfl (bTok_in (b01_1.mp c1) hc) dX1_length_13 ?_
    refine g_top (y := ts x.toNatClampNeg) (rfl) ?_
    refine g_aload_n C dX1_length_14 0 rfl ?_
    refine g_get1 C hin 0 rfl 6 (by decide) lk20 rfl dX1_length_15 ?_
    refine g_iload_n C dX1_length_18 1 rfl ?_
    refine g_iald C 4 rfl (bTok_in (b01_1.mp c1) hc) dX1_length_19 ?_
    refine g_top (y := fs x.toNatClampNeg) (rfl) ?_
    refine g_isub C dX1_length_20 ?_
    refine g_goto C dX1_length_21 (tgt := 25) (by decide) ?_
    exact g_iret C F (by rw [if_pos (b01_1.mp c1)]) (rfl) dX1_length_25
/-- the place behind a code, -1 if there is none -/
def bhd (L : Nat → Int32) (i : Nat) (q : Int32) : Int32 := if cwd L i q = 0 then -1 else nI (i + cwd L i q)
theorem esc_t {x : Int32} (h : x = 110 ∨ x = 48 ∨ x = 92 ∨ x = 39 ∨ x = 34) : 0 ≤ (escv x).toInt := by
  rcases h with rfl | rfl | rfl | rfl | rfl <;> decide
theorem esc_f {x : Int32} (h1 : ¬ x = 110) (h2 : ¬ x = 48) (h3 : ¬ x = 92) (h4 : ¬ x = 39) (h5 : ¬ x = 34) : ¬ 0 ≤ (escv x).toInt := by
  unfold escv
  rw [if_neg h1, if_neg h2, if_neg h3, if_neg h4, if_neg h5]
  decide
theorem bhd_2 {L : Nat → Int32} {i : Nat} {q : Int32} (h : L i = 92) (h2 : 0 ≤ (escv (L (i + 1))).toInt) : bhd L i q = nI (i + 2) := by
  have e : cwd L i q = 2 := by unfold cwd; rw [if_pos h, if_pos h2]
  unfold bhd; rw [e]; rfl
theorem bhd_2n {L : Nat → Int32} {i : Nat} {q : Int32} (h : L i = 92) (h2 : ¬ 0 ≤ (escv (L (i + 1))).toInt) : bhd L i q = -1 := by
  have e : cwd L i q = 0 := by unfold cwd; rw [if_pos h, if_neg h2]
  unfold bhd; rw [e]; rfl
theorem bhd_1 {L : Nat → Int32} {i : Nat} {q : Int32} (h : ¬ L i = 92) (h2 : 32 ≤ (L i).toInt ∧ (L i).toInt ≤ 126 ∧ ¬ L i = q) : bhd L i q = nI (i + 1) := by
  have e : cwd L i q = 1 := by unfold cwd; rw [if_neg h, if_pos h2]
  unfold bhd; rw [e]; rfl
theorem bhd_1n {L : Nat → Int32} {i : Nat} {q : Int32} (h : ¬ L i = 92) (h2 : ¬ (32 ≤ (L i).toInt ∧ (L i).toInt ≤ 126 ∧ ¬ L i = q)) : bhd L i q = -1 := by
  have e : cwd L i q = 0 := by unfold cwd; rw [if_neg h, if_neg h2]
  unfold bhd; rw [e]; rfl
/-- the reference's code at a place -/
def mcat (L : Nat → Int32) (i : Nat) : Int32 := if L i = 92 then (if L (i + 1) = 110 then 10 else if L (i + 1) = 48 then 0 else L (i + 1)) else L i
set_option maxHeartbeats 4000000 in
set_option maxRecDepth 100000 in
theorem c_X1_behind (g : Gl) (b : Nat → Nat) (tr : Nat → Int32) (n fed : Int32) (tx : Nat → Int32) (ks fs ts : Nat → Int32) (ct pl : Int32) (N i : Nat) (hN : N ≤ 16000) (hi : i < 2 ^ 29) (q : Int32) : Ctr g yX1_behind wsX1_behind ({ frames := 1, cells := 0, slots := 0, locals := 21 }) [.ref (b 0), .int (nI i), .int q] (mw g b tr n fed tx (nI N) ks fs ts ct pl) (some (.int (bhd (look tx N) i q))) (mw g b tr n fed tx (nI N) ks fs ts ct pl) 0 0 := by
  refine Ctr.start (cc := cX1_behind) (maxL := 5) (ret := (some .int)) (by decide) rfl (Nat.le_of_ble_eq_true rfl) (lv0 := [(0, .ref (b 0)), (1, .int (nI i)), (2, .int q)]) rfl ?_
  intro X C F
  have C : Ok g X cX1_behind RX1 wsX1_behind ({ frames := 1, cells := 0, slots := 0, locals := 21 }) (some .int) 5 := C
  have hin : ∀ w ∈ wsX10, w ∈ wsX1_behind := fun _ h => List.mem_cons_of_mem _ (List.mem_append_right _ h)
  refine g_aload_n C dX1_behind_0 0 rfl ?_
  refine g_iload_n C dX1_behind_1 1 rfl ?_
  refine g_callVi (n := 1) C (c_X1_look g b tr n fed tx ks fs ts ct pl N i hN (by omega)) gX1_behind_X1_look rfl rfl rfl rfl (by decide) (by decide) rfl (Nat.le_of_ble_eq_true rfl) dX1_behind_2 ?_
  refine g_istore_n (lv' := [(3, .int (look tx N i)), (0, .ref (b 0)), (1, .int (nI i)), (2, .int q)]) C dX1_behind_5 (by decide) rfl ?_
  refine g_iload_n C dX1_behind_6 0 rfl ?_
  refine g_bipush C dX1_behind_7 (v := 92) (by decide) ?_
  refine g_icmp_ne C dX1_behind_9 (tgt := 64) (by decide) (fun c1 => ?_) (fun c1 => ?_)
  · refine g_iload_n C dX1_behind_64 0 rfl ?_
    refine g_bipush C dX1_behind_65 (v := 32) (by decide) ?_
    refine g_icmp_lt C dX1_behind_67 (tgt := 87) (by decide) (fun c2 => ?_) (fun c2 => ?_)
    · refine g_iconst C dX1_behind_87 (v := (-1)) (by decide) ?_
      have c2 := k_lt (b := 32) (by decide) c2
      exact g_iret C F ((bhd_1n c1 (by omega)).symm) (rfl) dX1_behind_88
    · refine g_iload_n C dX1_behind_70 0 rfl ?_
      refine g_bipush C dX1_behind_71 (v := 126) (by decide) ?_
      refine g_icmp_gt C dX1_behind_73 (tgt := 87) (by decide) (fun c3 => ?_) (fun c3 => ?_)
      · refine g_iconst C dX1_behind_87 (v := (-1)) (by decide) ?_
        have c2 := k_nlt (b := 32) (by decide) c2
        have c3 := k_gt (b := 126) (by decide) c3
        exact g_iret C F ((bhd_1n c1 (by omega)).symm) (rfl) dX1_behind_88
      · refine g_iload_n C dX1_behind_76 0 rfl ?_
        refine g_iload_n C dX1_behind_77 3 rfl ?_
        refine g_icmp_eq C dX1_behind_78 (tgt := 87) (by decide) (fun c4 => ?_) (fun c4 => ?_)
        · refine g_iconst C dX1_behind_87 (v := (-1)) (by decide) ?_
          have c2 := k_nlt (b := 32) (by decide) c2
          have c3 := k_ngt (b := 126) (by decide) c3
          exact g_iret C F ((bhd_1n c1 (fun z => z.2.2 c4)).symm) (rfl) dX1_behind_88
        · refine g_iload_n C dX1_behind_81 2 rfl ?_
          refine g_iconst C dX1_behind_82 (v := 1) (by decide) ?_
          refine g_iadd C dX1_behind_83 ?_
          refine g_top (nI_add i 1) ?_
          refine g_goto C dX1_behind_84 (tgt := 88) (by decide) ?_
          have c2 := k_nlt (b := 32) (by decide) c2
          have c3 := k_ngt (b := 126) (by decide) c3
          exact g_iret C F ((bhd_1 c1 ⟨by omega, by omega, c4⟩).symm) (rfl) dX1_behind_88
  · refine g_aload_n C dX1_behind_12 1 rfl ?_
    refine g_iload_n C dX1_behind_13 2 rfl ?_
    refine g_iconst C dX1_behind_14 (v := 1) (by decide) ?_
    refine g_iadd C dX1_behind_15 ?_
    refine g_top (nI_add i 1) ?_
    refine g_callVi (n := 1) C (c_X1_look g b tr n fed tx ks fs ts ct pl N (i + 1) hN (by omega)) gX1_behind_X1_look rfl rfl rfl rfl (by decide) (by decide) rfl (Nat.le_of_ble_eq_true rfl) dX1_behind_16 ?_
    refine g_istore (lv' := [(4, .int (look tx N (i + 1))), (3, .int (look tx N i)), (0, .ref (b 0)), (1, .int (nI i)), (2, .int q)]) C dX1_behind_19 (by decide) rfl ?_
    refine g_iload C dX1_behind_21 0 rfl ?_
    refine g_bipush C dX1_behind_23 (v := 110) (by decide) ?_
    refine g_icmp_eq C dX1_behind_25 (tgt := 56) (by decide) (fun c5 => ?_) (fun c5 => ?_)
    · refine g_iload_n C dX1_behind_56 3 rfl ?_
      refine g_iconst C dX1_behind_57 (v := 2) (by decide) ?_
      refine g_iadd C dX1_behind_58 ?_
      refine g_top (nI_add i 2) ?_
      refine g_goto C dX1_behind_59 (tgt := 63) (by decide) ?_
      exact g_iret C F ((bhd_2 c1 (esc_t (Or.inl c5))).symm) (rfl) dX1_behind_63
    · refine g_iload C dX1_behind_28 0 rfl ?_
      refine g_bipush C dX1_behind_30 (v := 48) (by decide) ?_
      refine g_icmp_eq C dX1_behind_32 (tgt := 56) (by decide) (fun c6 => ?_) (fun c6 => ?_)
      · refine g_iload_n C dX1_behind_56 3 rfl ?_
        refine g_iconst C dX1_behind_57 (v := 2) (by decide) ?_
        refine g_iadd C dX1_behind_58 ?_
        refine g_top (nI_add i 2) ?_
        refine g_goto C dX1_behind_59 (tgt := 63) (by decide) ?_
        exact g_iret C F ((bhd_2 c1 (esc_t (Or.inr (Or.inl c6)))).symm) (rfl) dX1_behind_63
      · refine g_iload C dX1_behind_35 0 rfl ?_
        refine g_bipush C dX1_behind_37 (v := 92) (by decide) ?_
        refine g_icmp_eq C dX1_behind_39 (tgt := 56) (by decide) (fun c7 => ?_) (fun c7 => ?_)
        · refine g_iload_n C dX1_behind_56 3 rfl ?_
          refine g_iconst C dX1_behind_57 (v := 2) (by decide) ?_
          refine g_iadd C dX1_behind_58 ?_
          refine g_top (nI_add i 2) ?_
          refine g_goto C dX1_behind_59 (tgt := 63) (by decide) ?_
          exact g_iret C F ((bhd_2 c1 (esc_t (Or.inr (Or.inr (Or.inl c7))))).symm) (rfl) dX1_behind_63
        · refine g_iload C dX1_behind_42 0 rfl ?_
          refine g_bipush C dX1_behind_44 (v := 39) (by decide) ?_
          refine g_icmp_eq C dX1_behind_46 (tgt := 56) (by decide) (fun c8 => ?_) (fun c8 => ?_)
          · refine g_iload_n C dX1_behind_56 3 rfl ?_
            refine g_iconst C dX1_behind_57 (v := 2) (by decide) ?_
            refine g_iadd C dX1_behind_58 ?_
            refine g_top (nI_add i 2) ?_
            refine g_goto C dX1_behind_59 (tgt := 63) (by decide) ?_
            exact g_iret C F ((bhd_2 c1 (esc_t (Or.inr (Or.inr (Or.inr (Or.inl c8)))))).symm) (rfl) dX1_behind_63
          · refine g_iload C dX1_behind_49 0 rfl ?_
            refine g_bipush C dX1_behind_51 (v := 34) (by decide) ?_
            refine g_icmp_ne C dX1_behind_53 (tgt := 62) (by decide) (fun c9 => ?_) (fun c9 => ?_)
            · refine g_iconst C dX1_behind_62 (v := (-1)) (by decide) ?_
              exact g_iret C F ((bhd_2n c1 (esc_f c5 c6 c7 c8 c9)).symm) (rfl) dX1_behind_63
            · refine g_iload_n C dX1_behind_56 3 rfl ?_
              refine g_iconst C dX1_behind_57 (v := 2) (by decide) ?_
              refine g_iadd C dX1_behind_58 ?_
              refine g_top (nI_add i 2) ?_
              refine g_goto C dX1_behind_59 (tgt := 63) (by decide) ?_
              exact g_iret C F ((bhd_2 c1 (esc_t (Or.inr (Or.inr (Or.inr (Or.inr c9)))))).symm) (rfl) dX1_behind_63
set_option maxHeartbeats 4000000 in
set_option maxRecDepth 100000 in
theorem c_X1_codeAt (g : Gl) (b : Nat → Nat) (tr : Nat → Int32) (n fed : Int32) (tx : Nat → Int32) (ks fs ts : Nat → Int32) (ct pl : Int32) (N i : Nat) (hN : N ≤ 16000) (hi : i < 2 ^ 29) : Ctr g yX1_codeAt wsX1_codeAt ({ frames := 1, cells := 0, slots := 0, locals := 21 }) [.ref (b 0), .int (nI i)] (mw g b tr n fed tx (nI N) ks fs ts ct pl) (some (.int (mcat (look tx N) i))) (mw g b tr n fed tx (nI N) ks fs ts ct pl) 0 0 := by
  refine Ctr.start (cc := cX1_codeAt) (maxL := 3) (ret := (some .int)) (by decide) rfl (Nat.le_of_ble_eq_true rfl) (lv0 := [(0, .ref (b 0)), (1, .int (nI i))]) rfl ?_
  intro X C F
  have C : Ok g X cX1_codeAt RX1 wsX1_codeAt ({ frames := 1, cells := 0, slots := 0, locals := 21 }) (some .int) 3 := C
  have hin : ∀ w ∈ wsX10, w ∈ wsX1_codeAt := fun _ h => List.mem_cons_of_mem _ (List.mem_append_right _ h)
  refine g_aload_n C dX1_codeAt_0 0 rfl ?_
  refine g_iload_n C dX1_codeAt_1 1 rfl ?_
  refine g_callVi (n := 1) C (c_X1_look g b tr n fed tx ks fs ts ct pl N i hN (by omega)) gX1_codeAt_X1_look rfl rfl rfl rfl (by decide) (by decide) rfl (Nat.le_of_ble_eq_true rfl) dX1_codeAt_2 ?_
  refine g_bipush C dX1_codeAt_5 (v := 92) (by decide) ?_
  refine g_icmp_eq C dX1_codeAt_7 (tgt := 16) (by decide) (fun c1 => ?_) (fun c1 => ?_)
  · refine g_aload_n C dX1_codeAt_16 0 rfl ?_
    refine g_iload_n C dX1_codeAt_17 1 rfl ?_
    refine g_iconst C dX1_codeAt_18 (v := 1) (by decide) ?_
    refine g_iadd C dX1_codeAt_19 ?_
    refine g_top (nI_add i 1) ?_
    refine g_callVi (n := 1) C (c_X1_look g b tr n fed tx ks fs ts ct pl N (i + 1) hN (by omega)) gX1_codeAt_X1_look rfl rfl rfl rfl (by decide) (by decide) rfl (Nat.le_of_ble_eq_true rfl) dX1_codeAt_20 ?_
    refine g_istore_n (lv' := [(2, .int (look tx N (i + 1))), (0, .ref (b 0)), (1, .int (nI i))]) C dX1_codeAt_23 (by decide) rfl ?_
    refine g_iload_n C dX1_codeAt_24 0 rfl ?_
    refine g_bipush C dX1_codeAt_25 (v := 110) (by decide) ?_
    refine g_icmp_ne C dX1_codeAt_27 (tgt := 35) (by decide) (fun c2 => ?_) (fun c2 => ?_)
    · refine g_iload_n C dX1_codeAt_35 0 rfl ?_
      refine g_bipush C dX1_codeAt_36 (v := 48) (by decide) ?_
      refine g_icmp_ne C dX1_codeAt_38 (tgt := 45) (by decide) (fun c3 => ?_) (fun c3 => ?_)
      · refine g_iload_n C dX1_codeAt_45 0 rfl ?_
        exact g_iret C F (by unfold mcat; rw [if_pos c1, if_neg c2, if_neg c3]) (rfl) dX1_codeAt_46
      · refine g_iconst C dX1_codeAt_41 (v := 0) (by decide) ?_
        refine g_goto C dX1_codeAt_42 (tgt := 46) (by decide) ?_
        exact g_iret C F (by unfold mcat; rw [if_pos c1, if_neg c2, if_pos c3]) (rfl) dX1_codeAt_46
    · refine g_bipush C dX1_codeAt_30 (v := 10) (by decide) ?_
      refine g_goto C dX1_codeAt_32 (tgt := 46) (by decide) ?_
      exact g_iret C F (by unfold mcat; rw [if_pos c1, if_pos c2]) (rfl) dX1_codeAt_46
  · refine g_aload_n C dX1_codeAt_10 0 rfl ?_
    refine g_iload_n C dX1_codeAt_11 1 rfl ?_
    refine g_callVi (n := 1) C (c_X1_look g b tr n fed tx ks fs ts ct pl N i hN (by omega)) gX1_codeAt_X1_look rfl rfl rfl rfl (by decide) (by decide) rfl (Nat.le_of_ble_eq_true rfl) dX1_codeAt_12 ?_
    exact g_iret C F (by unfold mcat; rw [if_neg c1]) (rfl) dX1_codeAt_15
def tkE (o : Tok) : Int32 := match o with
  | none => -1
  | some q => nI q.2.2
theorem bhd_no {L : Nat → Int32} {i : Nat} {q : Int32} (h : cwd L i q = 0) : bhd L i q = -1 := if_pos h
theorem bhd_yes {L : Nat → Int32} {i : Nat} {q : Int32} (h : ¬ cwd L i q = 0) : bhd L i q = nI (i + cwd L i q) := if_neg h
set_option maxHeartbeats 4000000 in
set_option maxRecDepth 100000 in
theorem c_X1_stringEnd (g : Gl) (b : Nat → Nat) (tr : Nat → Int32) (n fed : Int32) (tx : Nat → Int32) (ks fs ts : Nat → Int32) (ct pl : Int32) (N i : Nat) (hN : N ≤ 16000) (hi : i < N) : Ctr g yX1_stringEnd wsX1_stringEnd ({ frames := 2, cells := 0, slots := 0, locals := 45 }) [.ref (b 0), .int (nI i)] (mw g b tr n fed tx (nI N) ks fs ts ct pl) (some (.int (tkE (tokStr (look tx N) i)))) (mw g b tr n fed tx (nI N) ks fs ts ct pl) 0 0 := by
  refine Ctr.start (cc := cX1_stringEnd) (maxL := 4) (ret := (some .int)) (by decide) rfl (Nat.le_of_ble_eq_true rfl) (lv0 := [(0, .ref (b 0)), (1, .int (nI i))]) rfl ?_
  intro X C F
  have C : Ok g X cX1_stringEnd RX1 wsX1_stringEnd ({ frames := 2, cells := 0, slots := 0, locals := 45 }) (some .int) 4 := C
  have hin : ∀ w ∈ wsX10, w ∈ wsX1_stringEnd := fun _ h => List.mem_cons_of_mem _ (List.mem_append_right _ h)
  obtain ⟨o, ho⟩ : ∃ o, o = tokStr (look tx N) i := ⟨_, rfl⟩
  rw [← ho] at F
  have exN : o = none → ∀ x3 : Int32, G g X (0, 0) (mw g b tr n fed tx (nI N) ks fs ts ct pl) 6 [(3, .int x3), (2, .int (-1)), (0, .ref (b 0)), (1, .int (nI i))] [] := by
    intro hn x3
    refine g_iload_n C dX1_stringEnd_6 1 rfl ?_
    refine g_if_le C dX1_stringEnd_7 (tgt := 45) (by decide) (fun c1 => ?_) (fun c1 => ?_)
    · refine g_iload_n C dX1_stringEnd_45 1 rfl ?_
      refine g_if_le C dX1_stringEnd_46 (tgt := 55) (by decide) (fun c2 => ?_) (fun c2 => ?_)
      · refine g_iconst C dX1_stringEnd_55 (v := (-1)) (by decide) ?_
        exact g_iret C F (by rw [hn]; rfl) (rfl) dX1_stringEnd_56
      · exact absurd (by decide) c2
    · exact absurd (by decide) c1
  have loop : ∀ (f k p : Nat), k + f = 200 → 0 < p → p ≤ i + 1 + 2 * k → sgo (look tx N) (f + 1) k p = o → G g X (0, 0) (mw g b tr n fed tx (nI N) ks fs ts ct pl) 6 [(3, .int (nI k)), (2, .int (nI p)), (0, .ref (b 0)), (1, .int (nI i))] [] := by
    intro f
    induction f with
    | zero =>
      intro k p h1 h0 h2 h3
      refine g_iload_n C dX1_stringEnd_6 1 rfl ?_
      refine g_if_le C dX1_stringEnd_7 (tgt := 45) (by decide) (fun c3 => ?_) (fun c3 => ?_)
      · exact absurd c3 (nI_nle h0 (by omega))
      · refine g_aload_n C dX1_stringEnd_10 2 rfl ?_
        refine g_iload_n C dX1_stringEnd_11 1 rfl ?_
        refine g_callVi (n := 1) C (c_X1_look g b tr n fed tx ks fs ts ct pl N p hN (by omega)) gX1_stringEnd_X1_look rfl rfl rfl rfl (by decide) (by decide) rfl (Nat.le_of_ble_eq_true rfl) dX1_stringEnd_12 ?_
        refine g_bipush C dX1_stringEnd_15 (v := 34) (by decide) ?_
        refine g_icmp_eq C dX1_stringEnd_17 (tgt := 45) (by decide) (fun c4 => ?_) (fun c4 => ?_)
        · rw [sgo, if_pos c4] at h3
          refine g_iload_n C dX1_stringEnd_45 1 rfl ?_
          refine g_if_le C dX1_stringEnd_46 (tgt := 55) (by decide) (fun c5 => ?_) (fun c5 => ?_)
          · exact absurd c5 (nI_nle h0 (by omega))
          · refine g_iload_n C dX1_stringEnd_49 1 rfl ?_
            refine g_iconst C dX1_stringEnd_50 (v := 1) (by decide) ?_
            refine g_iadd C dX1_stringEnd_51 ?_
            refine g_top (nI_add p 1) ?_
            refine g_goto C dX1_stringEnd_52 (tgt := 56) (by decide) ?_
            exact g_iret C F (by rw [← h3]; rfl) (rfl) dX1_stringEnd_56
        · rw [sgo, if_neg c4] at h3
          refine g_iload_n C dX1_stringEnd_20 0 rfl ?_
          refine g_sipush C dX1_stringEnd_21 (v := 200) (by decide) ?_
          refine g_icmp_ne C dX1_stringEnd_24 (tgt := 31) (by decide) (fun c6 => ?_) (fun c6 => ?_)
          · exact absurd (by rw [show k = 200 by omega]; rfl) c6
          · have hn : o = none := by rw [← h3]; split <;> rfl
            refine g_iconst C dX1_stringEnd_27 (v := (-1)) (by decide) ?_
            refine g_goto C dX1_stringEnd_28 (tgt := 38) (by decide) ?_
            refine g_istore_n (lv' := [(2, .int (-1)), (3, .int (nI k)), (0, .ref (b 0)), (1, .int (nI i))]) C dX1_stringEnd_38 (by decide) rfl ?_
            refine g_iinc (o := 1) (v := nI (k + 1)) (lv' := [(3, .int (nI (k + 1))), (2, .int (-1)), (0, .ref (b 0)), (1, .int (nI i))]) C dX1_stringEnd_39 rfl (nI_add k 1) (by decide) rfl ?_
            refine g_goto C dX1_stringEnd_42 (tgt := 6) (by decide) ?_
            exact exN hn _
    | succ f ih =>
      intro k p h1 h0 h2 h3
      refine g_iload_n C dX1_stringEnd_6 1 rfl ?_
      refine g_if_le C dX1_stringEnd_7 (tgt := 45) (by decide) (fun c7 => ?_) (fun c7 => ?_)
      · exact absurd c7 (nI_nle h0 (by omega))
      · refine g_aload_n C dX1_stringEnd_10 2 rfl ?_
        refine g_iload_n C dX1_stringEnd_11 1 rfl ?_
        refine g_callVi (n := 1) C (c_X1_look g b tr n fed tx ks fs ts ct pl N p hN (by omega)) gX1_stringEnd_X1_look rfl rfl rfl rfl (by decide) (by decide) rfl (Nat.le_of_ble_eq_true rfl) dX1_stringEnd_12 ?_
        refine g_bipush C dX1_stringEnd_15 (v := 34) (by decide) ?_
        refine g_icmp_eq C dX1_stringEnd_17 (tgt := 45) (by decide) (fun c8 => ?_) (fun c8 => ?_)
        · rw [sgo, if_pos c8] at h3
          refine g_iload_n C dX1_stringEnd_45 1 rfl ?_
          refine g_if_le C dX1_stringEnd_46 (tgt := 55) (by decide) (fun c9 => ?_) (fun c9 => ?_)
          · exact absurd c9 (nI_nle h0 (by omega))
          · refine g_iload_n C dX1_stringEnd_49 1 rfl ?_
            refine g_iconst C dX1_stringEnd_50 (v := 1) (by decide) ?_
            refine g_iadd C dX1_stringEnd_51 ?_
            refine g_top (nI_add p 1) ?_
            refine g_goto C dX1_stringEnd_52 (tgt := 56) (by decide) ?_
            exact g_iret C F (by rw [← h3]; rfl) (rfl) dX1_stringEnd_56
        · rw [sgo, if_neg c8] at h3
          refine g_iload_n C dX1_stringEnd_20 0 rfl ?_
          refine g_sipush C dX1_stringEnd_21 (v := 200) (by decide) ?_
          refine g_icmp_ne C dX1_stringEnd_24 (tgt := 31) (by decide) (fun c10 => ?_) (fun c10 => ?_)
          · by_cases hw : cwd (look tx N) p 34 = 0
            · rw [if_pos hw] at h3
              refine g_aload_n C dX1_stringEnd_31 2 rfl ?_
              refine g_iload_n C dX1_stringEnd_32 1 rfl ?_
              refine g_bipush C dX1_stringEnd_33 (v := 34) (by decide) ?_
              refine g_callVi (n := 2) C (c_X1_behind g b tr n fed tx ks fs ts ct pl N p hN (by omega) 34) gX1_stringEnd_X1_behind rfl rfl rfl rfl (by decide) (by decide) rfl (Nat.le_of_ble_eq_true rfl) dX1_stringEnd_35 ?_
              refine g_top (bhd_no hw) ?_
              refine g_istore_n (lv' := [(2, .int (-1)), (3, .int (nI k)), (0, .ref (b 0)), (1, .int (nI i))]) C dX1_stringEnd_38 (by decide) rfl ?_
              refine g_iinc (o := 1) (v := nI (k + 1)) (lv' := [(3, .int (nI (k + 1))), (2, .int (-1)), (0, .ref (b 0)), (1, .int (nI i))]) C dX1_stringEnd_39 rfl (nI_add k 1) (by decide) rfl ?_
              refine g_goto C dX1_stringEnd_42 (tgt := 6) (by decide) ?_
              exact exN h3.symm _
            · rw [if_neg hw] at h3
              refine g_aload_n C dX1_stringEnd_31 2 rfl ?_
              refine g_iload_n C dX1_stringEnd_32 1 rfl ?_
              refine g_bipush C dX1_stringEnd_33 (v := 34) (by decide) ?_
              refine g_callVi (n := 2) C (c_X1_behind g b tr n fed tx ks fs ts ct pl N p hN (by omega) 34) gX1_stringEnd_X1_behind rfl rfl rfl rfl (by decide) (by decide) rfl (Nat.le_of_ble_eq_true rfl) dX1_stringEnd_35 ?_
              refine g_top (bhd_yes hw) ?_
              refine g_istore_n (lv' := [(2, .int (nI (p + cwd (look tx N) p 34))), (3, .int (nI k)), (0, .ref (b 0)), (1, .int (nI i))]) C dX1_stringEnd_38 (by decide) rfl ?_
              refine g_iinc (o := 1) (v := nI (k + 1)) (lv' := [(3, .int (nI (k + 1))), (2, .int (nI (p + cwd (look tx N) p 34))), (0, .ref (b 0)), (1, .int (nI i))]) C dX1_stringEnd_39 rfl (nI_add k 1) (by decide) rfl ?_
              refine g_goto C dX1_stringEnd_42 (tgt := 6) (by decide) ?_
              have hw2 := cwd_le (look tx N) p 34
              exact ih (k + 1) (p + cwd (look tx N) p 34) (by omega) (by omega) (by omega) h3
          · exact absurd c10 (fun z => by have z2 := (nI_eq (b := 200) (by omega) (by omega)).mp z; omega)
  refine g_iload_n C dX1_stringEnd_0 1 rfl ?_
  refine g_iconst C dX1_stringEnd_1 (v := 1) (by decide) ?_
  refine g_iadd C dX1_stringEnd_2 ?_
  refine g_top (nI_add i 1) ?_
  refine g_istore_n (lv' := [(2, .int (nI (i + 1))), (0, .ref (b 0)), (1, .int (nI i))]) C dX1_stringEnd_3 (by decide) rfl ?_
  refine g_iconst C dX1_stringEnd_4 (v := 0) (by decide) ?_
  refine g_istore_n (lv' := [(3, .int 0), (2, .int (nI (i + 1))), (0, .ref (b 0)), (1, .int (nI i))]) C dX1_stringEnd_5 (by decide) rfl ?_
  exact loop 200 0 (i + 1) (by omega) (by omega) (by omega) ho.symm
end
section
/-! PURE: the two texts' words, what the reference makes of them -/
/-- the words of a text: first place, place behind -/
def kW0 : List (Nat × Nat) := [(1, 2), (3, 4), (5, 6), (7, 8), (9, 10), (11, 12), (13, 14), (15, 16), (17, 18), (19, 20), (21, 22), (23, 25), (26, 28), (29, 31), (32, 34), (35, 37), (38, 40), (41, 43), (44, 46), (47, 50), (51, 54), (55, 57), (58, 60), (61, 62), (63, 64), (65, 66), (67, 69), (70, 72), (73, 74), (75, 76), (77, 79), (80, 82), (83, 85), (86, 88), (89, 90), (91, 92), (93, 94), (95, 96), (97, 98), (99, 100), (101, 102), (103, 105), (106, 108)]
def kW1 : List (Nat × Nat) := [(1, 4), (5, 9), (10, 16), (17, 23), (24, 26), (27, 31), (32, 37), (38, 40), (41, 44), (45, 50), (51, 59), (60, 66)]
def pSp (j t : Nat) : Bool := decide (¬ kch j t = 32)
def wfW (j : Nat) : List (Nat × Nat) → Nat → Bool
  | [], a => decide (kLen.getD j 0 ≤ a)
  | q :: r, a => decide (q.1 = a) && decide (scan (pSp j) (kLen.getD j 0) a = q.2) && decide (q.2 < kLen.getD j 0) && wfW j r (q.2 + 1)
theorem wf0 : wfW 0 kW0 1 = true := by decide +kernel
theorem wf1 : wfW 1 kW1 1 = true := by decide +kernel
theorem wfW_nil {j a : Nat} (h : wfW j [] a = true) : kLen.getD j 0 ≤ a := of_decide_eq_true h
theorem wfW_cons {j a : Nat} {q : Nat × Nat} {r : List (Nat × Nat)} (h : wfW j (q :: r) a = true) : q.1 = a ∧ scan (pSp j) (kLen.getD j 0) a = q.2 ∧ q.2 < kLen.getD j 0 ∧ wfW j r (q.2 + 1) = true := by
  rw [wfW] at h
  obtain ⟨h1, h4⟩ := Bool.and_eq_true_iff.mp h
  obtain ⟨h1, h3⟩ := Bool.and_eq_true_iff.mp h1
  obtain ⟨h1, h2⟩ := Bool.and_eq_true_iff.mp h1
  exact ⟨of_decide_eq_true h1, of_decide_eq_true h2, of_decide_eq_true h3, h4⟩
/-- the first c bytes of the text j from a on stand at k -/
def mAt (L : Nat → Int32) (k j a : Nat) : Nat → Bool
  | 0 => true
  | c + 1 => mAt L k j a c && decide (L (k + c) = kch j (a + c))
theorem mAt_no {L : Nat → Int32} {k j a c : Nat} (h : ¬ L (k + c) = kch j (a + c)) : ∀ z, c < z → mAt L k j a z = false
  | 0, hz => by omega
  | z + 1, hz => by
    rw [mAt]
    by_cases e : c = z
    · subst e; rw [decide_eq_false h, Bool.and_false]
    · rw [mAt_no h z (by omega)]; rfl
/-- signEnd: the furthest end of a sign at k -/
def foldS (L : Nat → Int32) (k : Nat) : List (Nat × Nat) → Int32 → Int32
  | [], best => best
  | q :: r, best => foldS L k r (if mAt L k 0 q.1 (q.2 - q.1) = true ∧ ¬ nI (k + q.2 - q.1) ≤ best then nI (k + q.2 - q.1) else best)
def sgnE (L : Nat → Int32) (k : Nat) : Int32 := foldS L k kW0 (-1)
/-- among: the number of the word of z bytes that stands at s -/
def amg (L : Nat → Int32) (s z j : Nat) : List (Nat × Nat) → Nat → Int32
  | [], _ => -1
  | q :: r, w => if q.2 - q.1 = z ∧ mAt L s j q.1 (q.2 - q.1) = true then nI w else amg L s z j r (w + 1)
/-- isInt -/
def pZ (L : Nat → Int32) (t : Nat) : Bool := decide (L t = 48)
def mInt (L : Nat → Int32) (i e : Nat) : Bool := if e - scan (pZ L) e i = 10 then decide (dval L (scan (pZ L) e i) 10 ≤ 2147483647) else decide (e - scan (pZ L) e i < 10)
theorem dval_lt {L : Nat → Int32} {i : Nat} : ∀ k, (∀ t, t < k → bDig (L (i + t)) = true) → dval L i k < 10 ^ k
  | 0, _ => by rw [dval]; decide
  | k + 1, h => by
    have h1 := dval_lt k (fun t ht => h t (by omega))
    have h2 := (dig_nI (h k (by omega))).1
    rw [dval, Nat.pow_succ]; omega
theorem ms_step {L : Nat → Int32} {i j : Nat} (h : bDig (L j) = true) (hij : i ≤ j) : 10 * lN (dval L i (j - i)) + (L j).toInt64 - 48 = lN (dval L i (j + 1 - i)) := by
  obtain ⟨h1, h2, -⟩ := dig_nI h
  have e2 : dval L i (j + 1 - i) = dval L i (j - i) * 10 + dg (L j) := by
    rw [show j + 1 - i = (j - i) + 1 by omega, dval, show i + (j - i) = j by omega]
  have e3 : (L j).toInt64 = lN (48 + dg (L j)) := by rw [← nI_l (n := 48 + dg (L j)) (by omega), ← h2]
  rw [e2, e3, show (10 : Int64) = lN 10 from rfl, show (48 : Int64) = lN 48 from rfl, lN_mul, lN_add, lN_sub (by omega)]
  congr 1; omega
theorem cmp_gt {v : Nat} (h : v < 2 ^ 63) : 0 < lg_cmp (lN v) 2147483647 ↔ ¬ v ≤ 2147483647 := by
  rw [← cmp_le h]
  constructor
  · intro a b; exact absurd b (Int32.not_le.mpr a)
  · intro a; exact Int32.not_le.mp a
/-- the reference's kind at a place -/
def mkd (L : Nat → Int32) (i : Nat) : Int32 := if bDig (L i) = true ∨ L i = 39 then 2 else if bNam (L i) = true then 1 else if L i = 34 then 3 else if 0 < sgnE L i then 5 else 0
end
section
set_option maxHeartbeats 4000000 in
set_option maxRecDepth 100000 in
theorem c_X1_isAt (g : Gl) (b : Nat → Nat) (tr : Nat → Int32) (n fed : Int32) (tx : Nat → Int32) (ks fs ts : Nat → Int32) (ct pl : Int32) (N k j a e : Nat) (hN : N ≤ 16000) (hk : k < 2 ^ 28) (hj : j < 2) (hae : a ≤ e) (he : e ≤ kLen.getD j 0) : Ctr g yX1_isAt wsX1_isAt ({ frames := 4, cells := 0, slots := 0, locals := 85 }) [.ref (b 0), .int (nI k), .ref (gK g j), .int (nI a), .int (nI e)] (mw g b tr n fed tx (nI N) ks fs ts ct pl) (some (.int (b01 (mAt (look tx N) k j a (e - a))))) (mw g b tr n fed tx (nI N) ks fs ts ct pl) 0 0 := by
  refine Ctr.start (cc := cX1_isAt) (maxL := 6) (ret := (some .boolean)) (by decide) rfl (Nat.le_of_ble_eq_true rfl) (lv0 := [(0, .ref (b 0)), (1, .int (nI k)), (2, .ref (gK g j)), (3, .int (nI a)), (4, .int (nI e))]) rfl ?_
  intro X C F
  have C : Ok g X cX1_isAt RX1 wsX1_isAt ({ frames := 4, cells := 0, slots := 0, locals := 85 }) (some .boolean) 6 := C
  have hin : ∀ w ∈ wsX10, w ∈ wsX1_isAt := fun _ h => List.mem_cons_of_mem _ (List.mem_append_right _ h)
  have hlen := kLen_lt j
  have loop : ∀ (f t : Nat), a ≤ t → t ≤ e → e + 1 ≤ t + f → mAt (look tx N) k j a (t - a) = true → G g X (0, 0) (mw g b tr n fed tx (nI N) ks fs ts ct pl) 3 [(5, .int (nI t)), (0, .ref (b 0)), (1, .int (nI k)), (2, .ref (gK g j)), (3, .int (nI a)), (4, .int (nI e))] [] := by
    intro f
    induction f with
    | zero => intro t h1 h2 h3 h4; omega
    | succ f ih =>
      intro t h1 h2 h3 h4
      refine g_iload C dX1_isAt_3 0 rfl ?_
      refine g_iload C dX1_isAt_5 5 rfl ?_
      refine g_icmp_ge C dX1_isAt_7 (tgt := 37) (by decide) (fun c1 => ?_) (fun c1 => ?_)
      · have ht := (nI_leI (by omega) (by omega)).mp c1
        have ht : t = e := by omega
        subst ht
        refine g_iconst C dX1_isAt_37 (v := 1) (by decide) ?_
        exact g_zret C F (by decide) (by rw [h4]; rfl) (rfl) dX1_isAt_38
      · have ht : t < e := Nat.not_le.mp (fun q => c1 (nI_le q (by omega)))
        refine g_aload_n C dX1_isAt_10 1 rfl ?_
        refine g_iload_n C dX1_isAt_11 2 rfl ?_
        refine g_iload C dX1_isAt_12 0 rfl ?_
        refine g_iadd C dX1_isAt_14 ?_
        refine g_top (nI_add k t) ?_
        refine g_iload_n C dX1_isAt_15 4 rfl ?_
        refine g_isub C dX1_isAt_16 ?_
        refine g_top (y := nI (k + t - a)) (nI_subI (b := a) (by omega)) ?_
        refine g_callVi (n := 1) C (c_X1_look g b tr n fed tx ks fs ts ct pl N (k + t - a) hN (by omega)) gX1_isAt_X1_look rfl rfl rfl rfl (by decide) (by decide) rfl (Nat.le_of_ble_eq_true rfl) dX1_isAt_17 ?_
        refine g_aload_n C dX1_isAt_20 3 rfl ?_
        refine g_iload C dX1_isAt_21 0 rfl ?_
        refine g_callK (n := 1) C hj (c_J0_charAt_5068e g j t hj (by omega)) gX1_isAt_J0_charAt_5068e rfl rfl (by decide) (by decide) rfl (Nat.le_of_ble_eq_true rfl) dX1_isAt_23 ?_
        refine g_icmp_eq C dX1_isAt_26 (tgt := 31) (by decide) (fun c2 => ?_) (fun c2 => ?_)
        · have ce := c2
          refine g_iinc (o := 0) (v := nI (t + 1)) (lv' := [(5, .int (nI (t + 1))), (0, .ref (b 0)), (1, .int (nI k)), (2, .ref (gK g j)), (3, .int (nI a)), (4, .int (nI e))]) C dX1_isAt_31 rfl (nI_add t 1) (by decide) rfl ?_
          refine g_goto C dX1_isAt_34 (tgt := 3) (by decide) ?_
          exact ih (t + 1) (by omega) (by omega) (by omega) (by rw [show t + 1 - a = (t - a) + 1 by omega, mAt, h4, show k + (t - a) = k + t - a by omega, show a + (t - a) = t by omega, decide_eq_true ce]; rfl)
        · have hno := mAt_no (L := look tx N) (k := k) (j := j) (a := a) (c := t - a) (by rw [show k + (t - a) = k + t - a by omega, show a + (t - a) = t by omega]; exact c2) (e - a) (by omega)
          refine g_iconst C dX1_isAt_29 (v := 0) (by decide) ?_
          exact g_zret C F (by decide) (by rw [hno]; rfl) (rfl) dX1_isAt_30
  refine g_iload_n C dX1_isAt_0 3 rfl ?_
  refine g_istore (lv' := [(5, .int (nI a)), (0, .ref (b 0)), (1, .int (nI k)), (2, .ref (gK g j)), (3, .int (nI a)), (4, .int (nI e))]) C dX1_isAt_1 (by decide) rfl ?_
  exact loop (e + 1) a (by omega) (by omega) (by omega) (by rw [Nat.sub_self]; rfl)
set_option maxHeartbeats 4000000 in
set_option maxRecDepth 100000 in
theorem c_X1_signEnd (g : Gl) (b : Nat → Nat) (tr : Nat → Int32) (n fed : Int32) (tx : Nat → Int32) (ks fs ts : Nat → Int32) (ct pl : Int32) (N k : Nat) (hN : N ≤ 16000) (hk : k < 2 ^ 28) : Ctr g yX1_signEnd wsX1_signEnd ({ frames := 5, cells := 0, slots := 0, locals := 110 }) [.ref (b 0), .int (nI k)] (mw g b tr n fed tx (nI N) ks fs ts ct pl) (some (.int (sgnE (look tx N) k))) (mw g b tr n fed tx (nI N) ks fs ts ct pl) 0 0 := by
  refine Ctr.start (cc := cX1_signEnd) (maxL := 5) (ret := (some .int)) (by decide) rfl (Nat.le_of_ble_eq_true rfl) (lv0 := [(0, .ref (b 0)), (1, .int (nI k))]) rfl ?_
  intro X C F
  have C : Ok g X cX1_signEnd RX1 wsX1_signEnd ({ frames := 5, cells := 0, slots := 0, locals := 110 }) (some .int) 5 := C
  have hin : ∀ w ∈ wsX10, w ∈ wsX1_signEnd := fun _ h => List.mem_cons_of_mem _ (List.mem_append_right _ h)
  obtain ⟨res, hres⟩ : ∃ r, r = sgnE (look tx N) k := ⟨_, rfl⟩
  rw [← hres] at F
  have hlen := kLen_lt 0
  have loop : ∀ (l : List (Nat × Nat)) (a : Nat) (best : Int32), a ≤ 110 → wfW 0 l a = true → foldS (look tx N) k l best = res → G g X (0, 0) (mw g b tr n fed tx (nI N) ks fs ts ct pl) 4 [(3, .int (nI a)), (2, .int best), (0, .ref (b 0)), (1, .int (nI k))] [] := by
    intro l
    induction l with
    | nil =>
      intro a best ha h1 h2
      have h1 := wfW_nil h1
      have h2 : best = res := h2
      refine g_iload_n C dX1_signEnd_4 0 rfl ?_
      refine g_ldcS0 C rfl dX1_signEnd_5 ?_
      refine g_callK (n := 0) C (by omega) (c_J0_length_8abf5 g 0 (by omega)) gX1_signEnd_J0_length_8abf5 rfl rfl (by decide) (by decide) rfl (Nat.le_of_ble_eq_true rfl) dX1_signEnd_7 ?_
      refine g_icmp_ge C dX1_signEnd_10 (tgt := 72) (by decide) (fun c1 => ?_) (fun c1 => ?_)
      · refine g_iload_n C dX1_signEnd_72 1 rfl ?_
        exact g_iret C F (h2) (rfl) dX1_signEnd_73
      · exact absurd (nI_le h1 (by omega)) c1
    | cons q r ih =>
      intro a best ha h1 h2
      obtain ⟨rfl, hs, hq, h1⟩ := wfW_cons h1
      rw [foldS] at h2
      have hge := scan_ge (pSp 0) (kLen.getD 0 0) q.1
      rw [hs] at hge
      have ex : G g X (0, 0) (mw g b tr n fed tx (nI N) ks fs ts ct pl) 34 [(4, .int (nI q.2)), (3, .int (nI q.1)), (2, .int best), (0, .ref (b 0)), (1, .int (nI k))] [] := by
        refine g_aload_n C dX1_signEnd_34 3 rfl ?_
        refine g_iload_n C dX1_signEnd_35 4 rfl ?_
        refine g_ldcS0 C rfl dX1_signEnd_36 ?_
        refine g_iload_n C dX1_signEnd_38 1 rfl ?_
        refine g_iload C dX1_signEnd_39 0 rfl ?_
        refine g_callVi (n := 4) C (c_X1_isAt g b tr n fed tx ks fs ts ct pl N k 0 q.1 q.2 hN hk (by omega) (by omega) (by omega)) gX1_signEnd_X1_isAt rfl rfl rfl rfl (by decide) (by decide) rfl (Nat.le_of_ble_eq_true rfl) dX1_signEnd_41 ?_
        refine g_if_eq C dX1_signEnd_44 (tgt := 64) (by decide) (fun c2 => ?_) (fun c2 => ?_)
        · rw [if_neg (fun z => by rw [b01_0.mp c2] at z; exact absurd z.1 (by decide))] at h2
          refine g_iload C dX1_signEnd_64 0 rfl ?_
          refine g_iconst C dX1_signEnd_66 (v := 1) (by decide) ?_
          refine g_iadd C dX1_signEnd_67 ?_
          refine g_top (nI_add q.2 1) ?_
          refine g_istore_n (lv' := [(3, .int (nI (q.2 + 1))), (4, .int (nI q.2)), (2, .int best), (0, .ref (b 0)), (1, .int (nI k))]) C dX1_signEnd_68 (by decide) rfl ?_
          refine g_goto C dX1_signEnd_69 (tgt := 4) (by decide) ?_
          refine g_sub [0, 2, 3, 4] rfl ?_
          exact ih (q.2 + 1) _ (by omega) h1 h2
        · have hm := b01_1.mp c2
          refine g_iload_n C dX1_signEnd_47 4 rfl ?_
          refine g_iload C dX1_signEnd_48 0 rfl ?_
          refine g_iadd C dX1_signEnd_50 ?_
          refine g_top (nI_add k q.2) ?_
          refine g_iload_n C dX1_signEnd_51 1 rfl ?_
          refine g_isub C dX1_signEnd_52 ?_
          refine g_top (y := nI (k + q.2 - q.1)) (nI_subI (b := q.1) (by omega)) ?_
          refine g_iload_n C dX1_signEnd_53 2 rfl ?_
          refine g_icmp_le C dX1_signEnd_54 (tgt := 64) (by decide) (fun c3 => ?_) (fun c3 => ?_)
          · rw [if_neg (fun z => z.2 c3)] at h2
            refine g_iload C dX1_signEnd_64 0 rfl ?_
            refine g_iconst C dX1_signEnd_66 (v := 1) (by decide) ?_
            refine g_iadd C dX1_signEnd_67 ?_
            refine g_top (nI_add q.2 1) ?_
            refine g_istore_n (lv' := [(3, .int (nI (q.2 + 1))), (4, .int (nI q.2)), (2, .int best), (0, .ref (b 0)), (1, .int (nI k))]) C dX1_signEnd_68 (by decide) rfl ?_
            refine g_goto C dX1_signEnd_69 (tgt := 4) (by decide) ?_
            refine g_sub [0, 2, 3, 4] rfl ?_
            exact ih (q.2 + 1) _ (by omega) h1 h2
          · rw [if_pos ⟨hm, c3⟩] at h2
            refine g_iload_n C dX1_signEnd_57 4 rfl ?_
            refine g_iload C dX1_signEnd_58 0 rfl ?_
            refine g_iadd C dX1_signEnd_60 ?_
            refine g_top (nI_add k q.2) ?_
            refine g_iload_n C dX1_signEnd_61 1 rfl ?_
            refine g_isub C dX1_signEnd_62 ?_
            refine g_top (y := nI (k + q.2 - q.1)) (nI_subI (b := q.1) (by omega)) ?_
            refine g_istore_n (lv' := [(2, .int (nI (k + q.2 - q.1))), (4, .int (nI q.2)), (3, .int (nI q.1)), (0, .ref (b 0)), (1, .int (nI k))]) C dX1_signEnd_63 (by decide) rfl ?_
            refine g_iload C dX1_signEnd_64 1 rfl ?_
            refine g_iconst C dX1_signEnd_66 (v := 1) (by decide) ?_
            refine g_iadd C dX1_signEnd_67 ?_
            refine g_top (nI_add q.2 1) ?_
            refine g_istore_n (lv' := [(3, .int (nI (q.2 + 1))), (2, .int (nI (k + q.2 - q.1))), (4, .int (nI q.2)), (0, .ref (b 0)), (1, .int (nI k))]) C dX1_signEnd_68 (by decide) rfl ?_
            refine g_goto C dX1_signEnd_69 (tgt := 4) (by decide) ?_
            refine g_sub [0, 1, 3, 4] rfl ?_
            exact ih (q.2 + 1) _ (by omega) h1 h2
      have inn : ∀ (f t : Nat), q.1 ≤ t → t ≤ q.2 → q.2 + 1 ≤ t + f → G g X (0, 0) (mw g b tr n fed tx (nI N) ks fs ts ct pl) 16 [(4, .int (nI t)), (3, .int (nI q.1)), (2, .int best), (0, .ref (b 0)), (1, .int (nI k))] [] := by
        intro f
        induction f with
        | zero => intro t h4 h5 h6; omega
        | succ f ih2 =>
          intro t h4 h5 h6
          refine g_ldcS0 C rfl dX1_signEnd_16 ?_
          refine g_iload C dX1_signEnd_18 0 rfl ?_
          refine g_callK (n := 1) C (by omega) (c_J0_charAt_5068e g 0 t (by omega) (by omega)) gX1_signEnd_J0_charAt_5068e rfl rfl (by decide) (by decide) rfl (Nat.le_of_ble_eq_true rfl) dX1_signEnd_20 ?_
          refine g_bipush C dX1_signEnd_23 (v := 32) (by decide) ?_
          refine g_icmp_eq C dX1_signEnd_25 (tgt := 34) (by decide) (fun c4 => ?_) (fun c4 => ?_)
          · have ht2 : t = q.2 := by
              rcases Nat.lt_or_ge t q.2 with z | z
              · have z2 := of_decide_eq_true (scan_all (p := pSp 0) (N := kLen.getD 0 0) (i := q.1) h4 (by rw [hs]; exact z)); exact absurd c4 z2
              · omega
            subst ht2
            exact ex
          · have ht2 : ¬ t = q.2 := by
              intro z
              have z2 := of_decide_eq_false (scan_at (p := pSp 0) (N := kLen.getD 0 0) (i := q.1) (by rw [hs]; exact hq))
              rw [hs, ← z] at z2
              exact z2 c4
            refine g_iinc (o := 0) (v := nI (t + 1)) (lv' := [(4, .int (nI (t + 1))), (3, .int (nI q.1)), (2, .int best), (0, .ref (b 0)), (1, .int (nI k))]) C dX1_signEnd_28 rfl (nI_add t 1) (by decide) rfl ?_
            refine g_goto C dX1_signEnd_31 (tgt := 16) (by decide) ?_
            exact ih2 (t + 1) (by omega) (by omega) (by omega)
      refine g_iload_n C dX1_signEnd_4 0 rfl ?_
      refine g_ldcS0 C rfl dX1_signEnd_5 ?_
      refine g_callK (n := 0) C (by omega) (c_J0_length_8abf5 g 0 (by omega)) gX1_signEnd_J0_length_8abf5 rfl rfl (by decide) (by decide) rfl (Nat.le_of_ble_eq_true rfl) dX1_signEnd_7 ?_
      refine g_icmp_ge C dX1_signEnd_10 (tgt := 72) (by decide) (fun c5 => ?_) (fun c5 => ?_)
      · exact absurd ((nI_leI (by omega) (by omega)).mp c5) (by omega)
      · refine g_iload_n C dX1_signEnd_13 0 rfl ?_
        refine g_istore (lv' := [(4, .int (nI q.1)), (3, .int (nI q.1)), (2, .int best), (0, .ref (b 0)), (1, .int (nI k))]) C dX1_signEnd_14 (by decide) rfl ?_
        exact inn (q.2 + 1) q.1 (by omega) (by omega) (by omega)
  refine g_iconst C dX1_signEnd_0 (v := (-1)) (by decide) ?_
  refine g_istore_n (lv' := [(2, .int (-1)), (0, .ref (b 0)), (1, .int (nI k))]) C dX1_signEnd_1 (by decide) rfl ?_
  refine g_iconst C dX1_signEnd_2 (v := 1) (by decide) ?_
  refine g_istore_n (lv' := [(3, .int 1), (2, .int (-1)), (0, .ref (b 0)), (1, .int (nI k))]) C dX1_signEnd_3 (by decide) rfl ?_
  exact loop kW0 1 (-1) (by omega) wf0 hres.symm
set_option maxHeartbeats 4000000 in
set_option maxRecDepth 100000 in
theorem c_X1_among (g : Gl) (b : Nat → Nat) (tr : Nat → Int32) (n fed : Int32) (tx : Nat → Int32) (ks fs ts : Nat → Int32) (ct pl : Int32) (N j s e : Nat) (l0 : List (Nat × Nat)) (x : Int32) (hN : N ≤ 16000) (hj : j < 2) (hl0 : wfW j l0 1 = true) (hx : vp_in x 16000) (hfs : fs x.toNatClampNeg = nI s) (hts : ts x.toNatClampNeg = nI e) (hse : s ≤ e) (he : e ≤ 16000) : Ctr g yX1_among wsX1_among ({ frames := 5, cells := 0, slots := 0, locals := 110 }) [.ref (b 0), .int x, .ref (gK g j)] (mw g b tr n fed tx (nI N) ks fs ts ct pl) (some (.int (amg (look tx N) s (e - s) j l0 0))) (mw g b tr n fed tx (nI N) ks fs ts ct pl) 0 0 := by
  refine Ctr.start (cc := cX1_among) (maxL := 6) (ret := (some .int)) (by decide) rfl (Nat.le_of_ble_eq_true rfl) (lv0 := [(0, .ref (b 0)), (1, .int x), (2, .ref (gK g j))]) rfl ?_
  intro X C F
  have C : Ok g X cX1_among RX1 wsX1_among ({ frames := 5, cells := 0, slots := 0, locals := 110 }) (some .int) 6 := C
  have hin : ∀ w ∈ wsX10, w ∈ wsX1_among := fun _ h => List.mem_cons_of_mem _ (List.mem_append_right _ h)
  have lk20 : Cond.fieldLink RX1 20 "TokenRowsModel" "froms" "[I" ∈ wsX1_among := by decide +kernel
  have lk23 : Cond.fieldLink RX1 23 "TokenRowsModel" "tos" "[I" ∈ wsX1_among := by decide +kernel
  obtain ⟨res, hres⟩ : ∃ r, r = amg (look tx N) s (e - s) j l0 0 := ⟨_, rfl⟩
  rw [← hres] at F
  have hlen := kLen_lt j
  have loop : ∀ (l : List (Nat × Nat)) (a w : Nat), a ≤ 110 → wfW j l a = true → amg (look tx N) s (e - s) j l w = res → G g X (0, 0) (mw g b tr n fed tx (nI N) ks fs ts ct pl) 5 [(4, .int (nI a)), (3, .int (nI w)), (0, .ref (b 0)), (1, .int x), (2, .ref (gK g j))] [] := by
    intro l
    induction l with
    | nil =>
      intro a w ha h1 h2
      have h1 := wfW_nil h1
      have h2 : -1 = res := h2
      refine g_iload C dX1_among_5 0 rfl ?_
      refine g_aload_n C dX1_among_7 4 rfl ?_
      refine g_callK (n := 0) C hj (c_J0_length_8abf5 g j hj) gX1_among_J0_length_8abf5 rfl rfl (by decide) (by decide) rfl (Nat.le_of_ble_eq_true rfl) dX1_among_8 ?_
      refine g_icmp_ge C dX1_among_11 (tgt := 88) (by decide) (fun c1 => ?_) (fun c1 => ?_)
      · refine g_iconst C dX1_among_88 (v := (-1)) (by decide) ?_
        exact g_iret C F (h2) (rfl) dX1_among_89
      · exact absurd (nI_le h1 (by omega)) c1
    | cons q r ih =>
      intro a w ha h1 h2
      obtain ⟨rfl, hs, hq, h1⟩ := wfW_cons h1
      rw [amg] at h2
      have hge := scan_ge (pSp j) (kLen.getD j 0) q.1
      rw [hs] at hge
      have ex : G g X (0, 0) (mw g b tr n fed tx (nI N) ks fs ts ct pl) 35 [(5, .int (nI q.2)), (4, .int (nI q.1)), (3, .int (nI w)), (0, .ref (b 0)), (1, .int x), (2, .ref (gK g j))] [] := by
        refine g_iload C dX1_among_35 0 rfl ?_
        refine g_iload C dX1_among_37 1 rfl ?_
        refine g_isub C dX1_among_39 ?_
        refine g_top (y := nI (q.2 - q.1)) (nI_subI (b := q.1) (by omega)) ?_
        refine g_aload_n C dX1_among_40 3 rfl ?_
        refine g_get1 C hin 0 rfl 7 (by decide) lk23 rfl dX1_among_41 ?_
        refine g_iload_n C dX1_among_44 4 rfl ?_
        refine g_iald C 5 rfl (hx) dX1_among_45 ?_
        refine g_top (y := nI e) (hts) ?_
        refine g_aload_n C dX1_among_46 3 rfl ?_
        refine g_get1 C hin 0 rfl 6 (by decide) lk20 rfl dX1_among_47 ?_
        refine g_iload_n C dX1_among_50 4 rfl ?_
        refine g_iald C 4 rfl (hx) dX1_among_51 ?_
        refine g_top (y := nI s) (hfs) ?_
        refine g_isub C dX1_among_52 ?_
        refine g_top (y := nI (e - s)) (nI_subI (b := s) (by omega)) ?_
        refine g_icmp_ne C dX1_among_53 (tgt := 76) (by decide) (fun c2 => ?_) (fun c2 => ?_)
        · rw [if_neg (fun z => c2 (by rw [z.1]))] at h2
          refine g_iinc (o := 2) (v := nI (w + 1)) (lv' := [(3, .int (nI (w + 1))), (5, .int (nI q.2)), (4, .int (nI q.1)), (0, .ref (b 0)), (1, .int x), (2, .ref (gK g j))]) C dX1_among_76 rfl (nI_add w 1) (by decide) rfl ?_
          refine g_iload C dX1_among_79 1 rfl ?_
          refine g_iconst C dX1_among_81 (v := 1) (by decide) ?_
          refine g_iadd C dX1_among_82 ?_
          refine g_top (nI_add q.2 1) ?_
          refine g_istore (lv' := [(4, .int (nI (q.2 + 1))), (3, .int (nI (w + 1))), (5, .int (nI q.2)), (0, .ref (b 0)), (1, .int x), (2, .ref (gK g j))]) C dX1_among_83 (by decide) rfl ?_
          refine g_goto C dX1_among_85 (tgt := 5) (by decide) ?_
          refine g_sub [0, 1, 3, 4, 5] rfl ?_
          exact ih (q.2 + 1) (w + 1) (by omega) h1 h2
        · have hz := (nI_eq (by omega) (by omega)).mp c2
          refine g_aload_n C dX1_among_56 3 rfl ?_
          refine g_aload_n C dX1_among_57 3 rfl ?_
          refine g_get1 C hin 0 rfl 6 (by decide) lk20 rfl dX1_among_58 ?_
          refine g_iload_n C dX1_among_61 4 rfl ?_
          refine g_iald C 4 rfl (hx) dX1_among_62 ?_
          refine g_top (y := nI s) (hfs) ?_
          refine g_aload_n C dX1_among_63 5 rfl ?_
          refine g_iload C dX1_among_64 1 rfl ?_
          refine g_iload C dX1_among_66 0 rfl ?_
          refine g_callVi (n := 4) C (c_X1_isAt g b tr n fed tx ks fs ts ct pl N s j q.1 q.2 hN (by omega) hj (by omega) (by omega)) gX1_among_X1_isAt rfl rfl rfl rfl (by decide) (by decide) rfl (Nat.le_of_ble_eq_true rfl) dX1_among_68 ?_
          refine g_if_eq C dX1_among_71 (tgt := 76) (by decide) (fun c3 => ?_) (fun c3 => ?_)
          · rw [if_neg (fun z => by rw [b01_0.mp c3] at z; exact absurd z.2 (by decide))] at h2
            refine g_iinc (o := 2) (v := nI (w + 1)) (lv' := [(3, .int (nI (w + 1))), (5, .int (nI q.2)), (4, .int (nI q.1)), (0, .ref (b 0)), (1, .int x), (2, .ref (gK g j))]) C dX1_among_76 rfl (nI_add w 1) (by decide) rfl ?_
            refine g_iload C dX1_among_79 1 rfl ?_
            refine g_iconst C dX1_among_81 (v := 1) (by decide) ?_
            refine g_iadd C dX1_among_82 ?_
            refine g_top (nI_add q.2 1) ?_
            refine g_istore (lv' := [(4, .int (nI (q.2 + 1))), (3, .int (nI (w + 1))), (5, .int (nI q.2)), (0, .ref (b 0)), (1, .int x), (2, .ref (gK g j))]) C dX1_among_83 (by decide) rfl ?_
            refine g_goto C dX1_among_85 (tgt := 5) (by decide) ?_
            refine g_sub [0, 1, 3, 4, 5] rfl ?_
            exact ih (q.2 + 1) (w + 1) (by omega) h1 h2
          · rw [if_pos ⟨hz, b01_1.mp c3⟩] at h2
            refine g_iload_n C dX1_among_74 2 rfl ?_
            exact g_iret C F (h2) (rfl) dX1_among_75
      have inn : ∀ (f t : Nat), q.1 ≤ t → t ≤ q.2 → q.2 + 1 ≤ t + f → G g X (0, 0) (mw g b tr n fed tx (nI N) ks fs ts ct pl) 18 [(5, .int (nI t)), (4, .int (nI q.1)), (3, .int (nI w)), (0, .ref (b 0)), (1, .int x), (2, .ref (gK g j))] [] := by
        intro f
        induction f with
        | zero => intro t h4 h5 h6; omega
        | succ f ih2 =>
          intro t h4 h5 h6
          refine g_aload_n C dX1_among_18 5 rfl ?_
          refine g_iload C dX1_among_19 0 rfl ?_
          refine g_callK (n := 1) C hj (c_J0_charAt_5068e g j t hj (by omega)) gX1_among_J0_charAt_5068e rfl rfl (by decide) (by decide) rfl (Nat.le_of_ble_eq_true rfl) dX1_among_21 ?_
          refine g_bipush C dX1_among_24 (v := 32) (by decide) ?_
          refine g_icmp_eq C dX1_among_26 (tgt := 35) (by decide) (fun c4 => ?_) (fun c4 => ?_)
          · have ht2 : t = q.2 := by
              rcases Nat.lt_or_ge t q.2 with z | z
              · have z2 := of_decide_eq_true (scan_all (p := pSp j) (N := kLen.getD j 0) (i := q.1) h4 (by rw [hs]; exact z)); exact absurd c4 z2
              · omega
            subst ht2
            exact ex
          · have ht2 : ¬ t = q.2 := by
              intro z
              have z2 := of_decide_eq_false (scan_at (p := pSp j) (N := kLen.getD j 0) (i := q.1) (by rw [hs]; exact hq))
              rw [hs, ← z] at z2
              exact z2 c4
            refine g_iinc (o := 0) (v := nI (t + 1)) (lv' := [(5, .int (nI (t + 1))), (4, .int (nI q.1)), (3, .int (nI w)), (0, .ref (b 0)), (1, .int x), (2, .ref (gK g j))]) C dX1_among_29 rfl (nI_add t 1) (by decide) rfl ?_
            refine g_goto C dX1_among_32 (tgt := 18) (by decide) ?_
            exact ih2 (t + 1) (by omega) (by omega) (by omega)
      refine g_iload C dX1_among_5 0 rfl ?_
      refine g_aload_n C dX1_among_7 4 rfl ?_
      refine g_callK (n := 0) C hj (c_J0_length_8abf5 g j hj) gX1_among_J0_length_8abf5 rfl rfl (by decide) (by decide) rfl (Nat.le_of_ble_eq_true rfl) dX1_among_8 ?_
      refine g_icmp_ge C dX1_among_11 (tgt := 88) (by decide) (fun c5 => ?_) (fun c5 => ?_)
      · exact absurd ((nI_leI (by omega) (by omega)).mp c5) (by omega)
      · refine g_iload C dX1_among_14 0 rfl ?_
        refine g_istore (lv' := [(5, .int (nI q.1)), (4, .int (nI q.1)), (3, .int (nI w)), (0, .ref (b 0)), (1, .int x), (2, .ref (gK g j))]) C dX1_among_16 (by decide) rfl ?_
        exact inn (q.2 + 1) q.1 (by omega) (by omega) (by omega)
  refine g_iconst C dX1_among_0 (v := nI 0) (by decide) ?_
  refine g_istore_n (lv' := [(3, .int (nI 0)), (0, .ref (b 0)), (1, .int x), (2, .ref (gK g j))]) C dX1_among_1 (by decide) rfl ?_
  refine g_iconst C dX1_among_2 (v := nI 1) (by decide) ?_
  refine g_istore (lv' := [(4, .int (nI 1)), (3, .int (nI 0)), (0, .ref (b 0)), (1, .int x), (2, .ref (gK g j))]) C dX1_among_3 (by decide) rfl ?_
  exact loop l0 1 0 (by omega) hl0 hres.symm
set_option maxHeartbeats 4000000 in
set_option maxRecDepth 100000 in
theorem c_X1_isInt (g : Gl) (b : Nat → Nat) (tr : Nat → Int32) (n fed : Int32) (tx : Nat → Int32) (ks fs ts : Nat → Int32) (ct pl : Int32) (N i e : Nat) (hN : N ≤ 16000) (hie : i ≤ e) (he : e ≤ N) (hd : ∀ t, i ≤ t → t < e → bDig (look tx N t) = true) : Ctr g yX1_isInt wsX1_isInt ({ frames := 1, cells := 0, slots := 0, locals := 21 }) [.ref (b 0), .int (nI i), .int (nI e)] (mw g b tr n fed tx (nI N) ks fs ts ct pl) (some (.int (b01 (mInt (look tx N) i e)))) (mw g b tr n fed tx (nI N) ks fs ts ct pl) 0 0 := by
  refine Ctr.start (cc := cX1_isInt) (maxL := 7) (ret := (some .boolean)) (by decide) rfl (Nat.le_of_ble_eq_true rfl) (lv0 := [(0, .ref (b 0)), (1, .int (nI i)), (2, .int (nI e))]) rfl ?_
  intro X C F
  have C : Ok g X cX1_isInt RX1 wsX1_isInt ({ frames := 1, cells := 0, slots := 0, locals := 21 }) (some .boolean) 7 := C
  have hin : ∀ w ∈ wsX10, w ∈ wsX1_isInt := fun _ h => List.mem_cons_of_mem _ (List.mem_append_right _ h)
  have lc90 : Cond.constantLong RX1 90 (10) ∈ wsX1_isInt := by decide +kernel
  have lc92 : Cond.constantLong RX1 92 (48) ∈ wsX1_isInt := by decide +kernel
  have lc94 : Cond.constantLong RX1 94 (2147483647) ∈ wsX1_isInt := by decide +kernel
  obtain ⟨J, hJ⟩ : ∃ J, J = scan (pZ (look tx N)) e i := ⟨_, rfl⟩
  have hJ1 : i ≤ J := by rw [hJ]; exact scan_ge _ _ _
  have hJ2 : J ≤ e := by rw [hJ]; exact scan_le hie
  have hs : mInt (look tx N) i e = if e - J = 10 then decide (dval (look tx N) J 10 ≤ 2147483647) else decide (e - J < 10) := by rw [hJ]; rfl
  have loop2 : e - J = 10 → ∀ (f t : Nat), J ≤ t → t ≤ e → e + 1 ≤ t + f → G g X (0, 0) (mw g b tr n fed tx (nI N) ks fs ts ct pl) 51 [(6, .int (nI t)), (4, .long (lN (dval (look tx N) J (t - J)))), (3, .int (nI J)), (0, .ref (b 0)), (1, .int (nI i)), (2, .int (nI e))] [] := by
    intro h10 f
    induction f with
    | zero => intro t h1 h2 h3; omega
    | succ f ih =>
      intro t h1 h2 h3
      refine g_iload C dX1_isInt_51 0 rfl ?_
      refine g_iload_n C dX1_isInt_53 5 rfl ?_
      refine g_icmp_ge C dX1_isInt_54 (tgt := 83) (by decide) (fun c1 => ?_) (fun c1 => ?_)
      · have ht := (nI_leI (by omega) (by omega)).mp c1
        have ht : t = e := by omega
        subst ht
        have hv := dval_lt (L := look tx N) (i := J) 10 (fun q hq => hd (J + q) (by omega) (by omega))
        refine g_lload C dX1_isInt_83 1 rfl ?_
        refine g_ldc2 C dX1_isInt_85 (v := 2147483647) lc94 ?_
        refine g_lcmp C dX1_isInt_88 ?_
        refine g_if_gt C dX1_isInt_89 (tgt := 96) (by decide) (fun c2 => ?_) (fun c2 => ?_)
        · have hle := (cmp_gt (by rw [h10]; omega)).mp c2
          refine g_iconst C dX1_isInt_96 (v := 0) (by decide) ?_
          exact g_zret C F (by decide) (by rw [hs, if_pos h10, ← h10]; exact (b01_f hle).symm) (rfl) dX1_isInt_97
        · have hle : dval (look tx N) J (t - J) ≤ 2147483647 := Classical.byContradiction (fun z => c2 ((cmp_gt (by rw [h10]; omega)).mpr z))
          refine g_iconst C dX1_isInt_92 (v := 1) (by decide) ?_
          refine g_goto C dX1_isInt_93 (tgt := 97) (by decide) ?_
          exact g_zret C F (by decide) (by rw [hs, if_pos h10, ← h10]; exact (b01_t hle).symm) (rfl) dX1_isInt_97
      · have ht : t < e := Nat.not_le.mp (fun q => c1 (nI_le q (by omega)))
        refine g_ldc2 C dX1_isInt_57 (v := 10) lc90 ?_
        refine g_lload C dX1_isInt_60 1 rfl ?_
        refine g_lmul C dX1_isInt_62 ?_
        refine g_aload_n C dX1_isInt_63 3 rfl ?_
        refine g_iload C dX1_isInt_64 0 rfl ?_
        refine g_callVi (n := 1) C (c_X1_look g b tr n fed tx ks fs ts ct pl N t hN (by omega)) gX1_isInt_X1_look rfl rfl rfl rfl (by decide) (by decide) rfl (Nat.le_of_ble_eq_true rfl) dX1_isInt_66 ?_
        refine g_i2l C dX1_isInt_69 (v := Int32.toInt64 (look tx N t)) rfl ?_
        refine g_ladd C dX1_isInt_70 ?_
        refine g_ldc2 C dX1_isInt_71 (v := 48) lc92 ?_
        refine g_lsub C dX1_isInt_74 ?_
        refine g_topl (y := lN (dval (look tx N) J (t + 1 - J))) (ms_step (hd t (by omega) ht) h1) ?_
        refine g_lstore (lv' := [(4, .long (lN (dval (look tx N) J (t + 1 - J)))), (6, .int (nI t)), (3, .int (nI J)), (0, .ref (b 0)), (1, .int (nI i)), (2, .int (nI e))]) C dX1_isInt_75 (by decide) rfl ?_
        refine g_iinc (o := 1) (v := nI (t + 1)) (lv' := [(6, .int (nI (t + 1))), (4, .long (lN (dval (look tx N) J (t + 1 - J)))), (3, .int (nI J)), (0, .ref (b 0)), (1, .int (nI i)), (2, .int (nI e))]) C dX1_isInt_77 rfl (nI_add t 1) (by decide) rfl ?_
        refine g_goto C dX1_isInt_80 (tgt := 51) (by decide) ?_
        exact ih (t + 1) (by omega) (by omega) (by omega)
  have ex : G g X (0, 0) (mw g b tr n fed tx (nI N) ks fs ts ct pl) 23 [(3, .int (nI J)), (0, .ref (b 0)), (1, .int (nI i)), (2, .int (nI e))] [] := by
    refine g_iload_n C dX1_isInt_23 3 rfl ?_
    refine g_iload_n C dX1_isInt_24 0 rfl ?_
    refine g_isub C dX1_isInt_25 ?_
    refine g_top (y := nI (e - J)) (nI_subI (b := J) (by omega)) ?_
    refine g_bipush C dX1_isInt_26 (v := 10) (by decide) ?_
    refine g_icmp_eq C dX1_isInt_28 (tgt := 45) (by decide) (fun c3 => ?_) (fun c3 => ?_)
    · have h10 : e - J = 10 := (nI_eq (b := 10) (by omega) (by omega)).mp c3
      refine g_lconst C dX1_isInt_45 (v := 0) (by decide) ?_
      refine g_lstore (lv' := [(4, .long 0), (3, .int (nI J)), (0, .ref (b 0)), (1, .int (nI i)), (2, .int (nI e))]) C dX1_isInt_46 (by decide) rfl ?_
      refine g_iload_n C dX1_isInt_48 1 rfl ?_
      refine g_istore (lv' := [(6, .int (nI J)), (4, .long 0), (3, .int (nI J)), (0, .ref (b 0)), (1, .int (nI i)), (2, .int (nI e))]) C dX1_isInt_49 (by decide) rfl ?_
      refine g_lv (lv' := [(6, .int (nI J)), (4, .long (lN (dval (look tx N) J (J - J)))), (3, .int (nI J)), (0, .ref (b 0)), (1, .int (nI i)), (2, .int (nI e))]) (by rw [Nat.sub_self]; rfl) ?_
      exact loop2 h10 (e + 1) J (by omega) (by omega) (by omega)
    · have h10 : ¬ e - J = 10 := fun z => c3 (by rw [z]; rfl)
      refine g_iload_n C dX1_isInt_31 3 rfl ?_
      refine g_iload_n C dX1_isInt_32 0 rfl ?_
      refine g_isub C dX1_isInt_33 ?_
      refine g_top (y := nI (e - J)) (nI_subI (b := J) (by omega)) ?_
      refine g_bipush C dX1_isInt_34 (v := 10) (by decide) ?_
      refine g_icmp_ge C dX1_isInt_36 (tgt := 43) (by decide) (fun c4 => ?_) (fun c4 => ?_)
      · have hz := (nI_leI (a := 10) (by omega) (by omega)).mp c4
        refine g_iconst C dX1_isInt_43 (v := 0) (by decide) ?_
        exact g_zret C F (by decide) (by rw [hs, if_neg h10]; exact (b01_f (by omega)).symm) (rfl) dX1_isInt_44
      · have hz : e - J < 10 := Nat.not_le.mp (fun q => c4 (nI_le (a := 10) q (by omega)))
        refine g_iconst C dX1_isInt_39 (v := 1) (by decide) ?_
        refine g_goto C dX1_isInt_40 (tgt := 44) (by decide) ?_
        exact g_zret C F (by decide) (by rw [hs, if_neg h10]; exact (b01_t hz).symm) (rfl) dX1_isInt_44
  have loop : ∀ (k j : Nat), j ≤ e → e + 1 ≤ j + k → scan (pZ (look tx N)) e j = J → G g X (0, 0) (mw g b tr n fed tx (nI N) ks fs ts ct pl) 2 [(3, .int (nI j)), (0, .ref (b 0)), (1, .int (nI i)), (2, .int (nI e))] [] := by
    intro k
    induction k with
    | zero => intro j h1 h2 h3; omega
    | succ k ih =>
      intro j h1 h2 h3
      refine g_iload_n C dX1_isInt_2 0 rfl ?_
      refine g_iload_n C dX1_isInt_3 3 rfl ?_
      refine g_icmp_ge C dX1_isInt_4 (tgt := 23) (by decide) (fun c5 => ?_) (fun c5 => ?_)
      · have hj := (nI_leI (by omega) (by omega)).mp c5
        rw [scan_end hj] at h3
        subst h3
        exact ex
      · have hj : j < e := Nat.not_le.mp (fun z => c5 (nI_le z (by omega)))
        refine g_aload_n C dX1_isInt_7 1 rfl ?_
        refine g_iload_n C dX1_isInt_8 0 rfl ?_
        refine g_callVi (n := 1) C (c_X1_look g b tr n fed tx ks fs ts ct pl N j hN (by omega)) gX1_isInt_X1_look rfl rfl rfl rfl (by decide) (by decide) rfl (Nat.le_of_ble_eq_true rfl) dX1_isInt_9 ?_
        refine g_bipush C dX1_isInt_12 (v := 48) (by decide) ?_
        refine g_icmp_ne C dX1_isInt_14 (tgt := 23) (by decide) (fun c6 => ?_) (fun c6 => ?_)
        · rw [scan_stop (show pZ (look tx N) j = false from decide_eq_false c6)] at h3
          subst h3
          exact ex
        · rw [scan_step hj (show pZ (look tx N) j = true from decide_eq_true c6)] at h3
          refine g_iinc (o := 0) (v := nI (j + 1)) (lv' := [(3, .int (nI (j + 1))), (0, .ref (b 0)), (1, .int (nI i)), (2, .int (nI e))]) C dX1_isInt_17 rfl (nI_add j 1) (by decide) rfl ?_
          refine g_goto C dX1_isInt_20 (tgt := 2) (by decide) ?_
          exact ih (j + 1) (by omega) (by omega) h3
  refine g_iload_n C dX1_isInt_0 1 rfl ?_
  refine g_istore_n (lv' := [(3, .int (nI i)), (0, .ref (b 0)), (1, .int (nI i)), (2, .int (nI e))]) C dX1_isInt_1 (by decide) rfl ?_
  exact loop (e + 1) i (by omega) (by omega) hJ.symm
set_option maxHeartbeats 4000000 in
set_option maxRecDepth 100000 in
theorem c_X1_kindAt (g : Gl) (b : Nat → Nat) (tr : Nat → Int32) (n fed : Int32) (tx : Nat → Int32) (ks fs ts : Nat → Int32) (ct pl : Int32) (N i : Nat) (hN : N ≤ 16000) (hi : i < 2 ^ 28) : Ctr g yX1_kindAt wsX1_kindAt ({ frames := 6, cells := 0, slots := 0, locals := 134 }) [.ref (b 0), .int (nI i)] (mw g b tr n fed tx (nI N) ks fs ts ct pl) (some (.int (mkd (look tx N) i))) (mw g b tr n fed tx (nI N) ks fs ts ct pl) 0 0 := by
  refine Ctr.start (cc := cX1_kindAt) (maxL := 3) (ret := (some .int)) (by decide) rfl (Nat.le_of_ble_eq_true rfl) (lv0 := [(0, .ref (b 0)), (1, .int (nI i))]) rfl ?_
  intro X C F
  have C : Ok g X cX1_kindAt RX1 wsX1_kindAt ({ frames := 6, cells := 0, slots := 0, locals := 134 }) (some .int) 3 := C
  have hin : ∀ w ∈ wsX10, w ∈ wsX1_kindAt := fun _ h => List.mem_cons_of_mem _ (List.mem_append_right _ h)
  refine g_aload_n C dX1_kindAt_0 0 rfl ?_
  refine g_iload_n C dX1_kindAt_1 1 rfl ?_
  refine g_callVi (n := 1) C (c_X1_look g b tr n fed tx ks fs ts ct pl N i hN (by omega)) gX1_kindAt_X1_look rfl rfl rfl rfl (by decide) (by decide) rfl (Nat.le_of_ble_eq_true rfl) dX1_kindAt_2 ?_
  refine g_istore_n (lv' := [(2, .int (look tx N i)), (0, .ref (b 0)), (1, .int (nI i))]) C dX1_kindAt_5 (by decide) rfl ?_
  refine g_iload_n C dX1_kindAt_6 0 rfl ?_
  refine g_callSi (n := 1) C (c_X1_isDigit g (look tx N i)) gX1_kindAt_X1_isDigit rfl rfl (by decide) (by decide) rfl (Nat.le_of_ble_eq_true rfl) dX1_kindAt_7 ?_
  refine g_if_ne C dX1_kindAt_10 (tgt := 19) (by decide) (fun c1 => ?_) (fun c1 => ?_)
  · refine g_iconst C dX1_kindAt_19 (v := 2) (by decide) ?_
    exact g_iret C F (by unfold mkd; rw [if_pos (Or.inl (b01_1.mp c1))]) (rfl) dX1_kindAt_20
  · refine g_iload_n C dX1_kindAt_13 0 rfl ?_
    refine g_bipush C dX1_kindAt_14 (v := 39) (by decide) ?_
    refine g_icmp_ne C dX1_kindAt_16 (tgt := 21) (by decide) (fun c2 => ?_) (fun c2 => ?_)
    · refine g_iload_n C dX1_kindAt_21 0 rfl ?_
      refine g_callSi (n := 1) C (c_X1_isInName g (look tx N i)) gX1_kindAt_X1_isInName rfl rfl (by decide) (by decide) rfl (Nat.le_of_ble_eq_true rfl) dX1_kindAt_22 ?_
      refine g_if_eq C dX1_kindAt_25 (tgt := 30) (by decide) (fun c3 => ?_) (fun c3 => ?_)
      · refine g_iload_n C dX1_kindAt_30 0 rfl ?_
        refine g_bipush C dX1_kindAt_31 (v := 34) (by decide) ?_
        refine g_icmp_ne C dX1_kindAt_33 (tgt := 38) (by decide) (fun c4 => ?_) (fun c4 => ?_)
        · refine g_aload_n C dX1_kindAt_38 1 rfl ?_
          refine g_iload_n C dX1_kindAt_39 2 rfl ?_
          refine g_callVi (n := 1) C (c_X1_signEnd g b tr n fed tx ks fs ts ct pl N i hN (by omega)) gX1_kindAt_X1_signEnd rfl rfl rfl rfl (by decide) (by decide) rfl (Nat.le_of_ble_eq_true rfl) dX1_kindAt_40 ?_
          refine g_if_le C dX1_kindAt_43 (tgt := 50) (by decide) (fun c5 => ?_) (fun c5 => ?_)
          · refine g_iconst C dX1_kindAt_50 (v := 0) (by decide) ?_
            exact g_iret C F (by unfold mkd; rw [if_neg (fun z => by rcases z with z | z; (rw [b01_0.mp c1] at z; exact absurd z (by decide)); (exact c2 z)), if_neg (by rw [b01_0.mp c3]; decide), if_neg c4, if_neg (Int32.not_lt.mpr c5)]) (rfl) dX1_kindAt_51
          · refine g_iconst C dX1_kindAt_46 (v := 5) (by decide) ?_
            refine g_goto C dX1_kindAt_47 (tgt := 51) (by decide) ?_
            exact g_iret C F (by unfold mkd; rw [if_neg (fun z => by rcases z with z | z; (rw [b01_0.mp c1] at z; exact absurd z (by decide)); (exact c2 z)), if_neg (by rw [b01_0.mp c3]; decide), if_neg c4, if_pos (Int32.not_le.mp c5)]) (rfl) dX1_kindAt_51
        · refine g_iconst C dX1_kindAt_36 (v := 3) (by decide) ?_
          exact g_iret C F (by unfold mkd; rw [if_neg (fun z => by rcases z with z | z; (rw [b01_0.mp c1] at z; exact absurd z (by decide)); (exact c2 z)), if_neg (by rw [b01_0.mp c3]; decide), if_pos c4]) (rfl) dX1_kindAt_37
      · refine g_iconst C dX1_kindAt_28 (v := 1) (by decide) ?_
        exact g_iret C F (by unfold mkd; rw [if_neg (fun z => by rcases z with z | z; (rw [b01_0.mp c1] at z; exact absurd z (by decide)); (exact c2 z)), if_pos (b01_1.mp c3)]) (rfl) dX1_kindAt_29
    · refine g_iconst C dX1_kindAt_19 (v := 2) (by decide) ?_
      exact g_iret C F (by unfold mkd; rw [if_pos (Or.inr c2)]) (rfl) dX1_kindAt_20
end
section
/-! PURE: isInt is the limit; blanks; the reference's run -/
theorem look_pos {tx : Nat → Int32} {N j : Nat} (h : 0 ≤ (look tx N j).toInt) : j < N := by
  have := look_rng tx N j
  omega
theorem look_neg {tx : Nat → Int32} {N j : Nat} (h : (look tx N j).toInt < 0) : N ≤ j := by
  have := look_rng tx N j
  omega
theorem dval_zero {L : Nat → Int32} {i J : Nat} (hij : i ≤ J) (hz : ∀ t, i ≤ t → t < J → L t = 48) : ∀ k, dval L i (J - i + k) = dval L J k := by
  have h0 : ∀ m, i + m ≤ J → dval L i m = 0 := by
    intro m
    induction m with
    | zero => intro _; rfl
    | succ m ih =>
      intro hm
      rw [dval, ih (by omega), hz (i + m) (by omega) (by omega)]
      decide
  intro k
  induction k with
  | zero => rw [Nat.add_zero, h0 (J - i) (by omega)]; rfl
  | succ k ih => rw [← Nat.add_assoc, dval, ih, dval, show i + (J - i + k) = J + k by omega]
theorem dval_ge {L : Nat → Int32} {J : Nat} (h : 1 ≤ dg (L J)) : ∀ k, 10 ^ k ≤ dval L J (k + 1)
  | 0 => by rw [dval, dval, Nat.add_zero]; omega
  | k + 1 => by
    have := dval_ge h k
    rw [dval, Nat.pow_succ]; omega
theorem mInt_dval {L : Nat → Int32} {i e : Nat} (hie : i ≤ e) (hd : ∀ t, i ≤ t → t < e → bDig (L t) = true) : mInt L i e = decide (dval L i (e - i) ≤ 2147483647) := by
  obtain ⟨J, hJ⟩ : ∃ J, J = scan (pZ L) e i := ⟨_, rfl⟩
  have h1 : i ≤ J := by rw [hJ]; exact scan_ge _ _ _
  have h2 : J ≤ e := by rw [hJ]; exact scan_le hie
  have hz := dval_zero (L := L) h1 (fun t a b => of_decide_eq_true (scan_all (p := pZ L) (N := e) (i := i) a (by rw [← hJ]; exact b))) (e - J)
  rw [show J - i + (e - J) = e - i by omega] at hz
  unfold mInt
  rw [← hJ, hz]
  by_cases h10 : e - J = 10
  · rw [if_pos h10, h10]
  · rw [if_neg h10]
    rcases Nat.lt_or_ge (e - J) 10 with h | h
    · rw [decide_eq_true h]
      have := dval_lt (L := L) (i := J) (e - J) (fun t ht => hd (J + t) (by omega) (by omega))
      have h9 : 10 ^ (e - J) ≤ 10 ^ 9 := Nat.pow_le_pow_right (by omega) (by omega)
      rw [decide_eq_true (by omega)]
    · rw [decide_eq_false (by omega)]
      have hne : ¬ L J = 48 := of_decide_eq_false (by have := scan_at (p := pZ L) (N := e) (i := i) (by rw [← hJ]; omega); rw [← hJ] at this; exact this)
      have hdj := bDig_t (hd J h1 (by omega))
      have hg : 1 ≤ dg (L J) := by
        unfold dg
        have h48 : ¬ (L J).toInt = 48 := fun q => hne (k_of (y := 48) q)
        omega
      have := dval_ge hg (e - J - 1)
      rw [show e - J - 1 + 1 = e - J by omega] at this
      have h9 : 10 ^ 10 ≤ 10 ^ (e - J - 1) := Nat.pow_le_pow_right (by omega) (by omega)
      rw [decide_eq_false (by omega)]
/-- what blanks skips: the place behind, the fault -/
def skp (L : Nat → Int32) (N : Nat) : Nat → Nat → Nat × Option Nat
  | 0, i => (i, none)
  | f + 1, i => if bBlk (L i) = true then skp L N f (i + 1) else if L i = 47 ∧ L (i + 1) = 47 then (if (stpLin L N i).2.1 = none then skp L N f (stpLin L N i).1 else (i, (stpLin L N i).2.1)) else if L i = 47 ∧ L (i + 1) = 42 then (if (stpStar L N i).2.1 = none then skp L N f (stpStar L N i).1 else (i, (stpStar L N i).2.1)) else (i, none)
theorem lin_none {L : Nat → Int32} {N i : Nat} (h : ¬ (scan (pLin L) N (i + 2) < N ∧ ¬ L (scan (pLin L) N (i + 2)) = 10)) : (stpLin L N i).2.1 = none := if_neg h
theorem lin_some {L : Nat → Int32} {N i : Nat} (h : scan (pLin L) N (i + 2) < N ∧ ¬ L (scan (pLin L) N (i + 2)) = 10) : (stpLin L N i).2.1 = some (scan (pLin L) N (i + 2)) := if_pos h
theorem star_none {L : Nat → Int32} {N i : Nat} (h : scan (pStar L) N (i + 2) < N) (h2 : L (scan (pStar L) N (i + 2)) = 42 ∧ L (scan (pStar L) N (i + 2) + 1) = 47) : (stpStar L N i).2.1 = none ∧ (stpStar L N i).1 = scan (pStar L) N (i + 2) + 2 := by
  unfold stpStar
  dsimp only
  rw [if_pos h, if_pos h2, if_pos h, if_pos h2]
  exact ⟨rfl, rfl⟩
theorem star_bad {L : Nat → Int32} {N i : Nat} (h : scan (pStar L) N (i + 2) < N) (h2 : ¬ (L (scan (pStar L) N (i + 2)) = 42 ∧ L (scan (pStar L) N (i + 2) + 1) = 47)) : (stpStar L N i).2.1 = some (scan (pStar L) N (i + 2)) := by
  unfold stpStar
  dsimp only
  rw [if_pos h, if_neg h2]
theorem star_end {L : Nat → Int32} {N i : Nat} (h : ¬ scan (pStar L) N (i + 2) < N) : (stpStar L N i).2.1 = some i := by
  unfold stpStar
  dsimp only
  rw [if_neg h]
/-- the reference's run: place, fault, kinds, froms, tos, how many -/
abbrev MR : Type := Nat × Option Nat × (Nat → Int32) × (Nat → Int32) × (Nat → Int32) × Nat
def mstep (L : Nat → Int32) (N : Nat) (s : MR) : MR := match tok L N s.1 with
  | none => (s.1, some s.1, s.2.2.1, s.2.2.2.1, s.2.2.2.2.1, s.2.2.2.2.2)
  | some q => ((skp L N (N + 1 - q.2.2) q.2.2).1, (skp L N (N + 1 - q.2.2) q.2.2).2, upd s.2.2.1 s.2.2.2.2.2 (mkd L s.1), upd s.2.2.2.1 s.2.2.2.2.2 (nI s.1), upd s.2.2.2.2.1 s.2.2.2.2.2 (nI q.2.2), s.2.2.2.2.2 + 1)
def mrun (L : Nat → Int32) (N : Nat) : Nat → MR → MR
  | 0, s => s
  | f + 1, s => if s.2.1 = none ∧ s.1 < N then mrun L N f (mstep L N s) else s
/-- the first k bytes of tr, the rest of tx -/
def cpy (tr tx : Nat → Int32) (k : Nat) : Nat → Int32 := fun j => if j < k then tr j else tx j
theorem cpy_step (tr tx : Nat → Int32) (k : Nat) : upd (cpy tr tx k) k (tr k) = cpy tr tx (k + 1) := by
  funext j
  unfold upd cpy
  by_cases h : j = k
  · rw [if_pos h, if_pos (by omega), h]
  · rw [if_neg h]
    by_cases h2 : j < k
    · rw [if_pos h2, if_pos (by omega)]
    · rw [if_neg h2, if_neg (by omega)]
theorem cpy_0 (tr tx : Nat → Int32) : cpy tr tx 0 = tx := by
  funext j; unfold cpy; rw [if_neg (by omega)]
theorem skp_ok {tx : Nat → Int32} {N : Nat} : ∀ (f i : Nat), i ≤ N → N + 1 ≤ i + f → i ≤ (skp (look tx N) N f i).1 ∧ (skp (look tx N) N f i).1 ≤ N ∧ (∀ p, (skp (look tx N) N f i).2 = some p → p < N) ∧ ((skp (look tx N) N f i).2 = none → bBlk (look tx N (skp (look tx N) N f i).1) = false ∧ ¬ (look tx N (skp (look tx N) N f i).1 = 47 ∧ look tx N ((skp (look tx N) N f i).1 + 1) = 47) ∧ ¬ (look tx N (skp (look tx N) N f i).1 = 47 ∧ look tx N ((skp (look tx N) N f i).1 + 1) = 42))
  | 0, i, h1, h2 => by omega
  | f + 1, i, h1, h2 => by
    rw [skp]
    split
    · rename_i hb
      have hi : i < N := look_pos (tx := tx) (by have := bBlk_t hb; omega)
      have := skp_ok (tx := tx) (N := N) f (i + 1) hi (by omega)
      exact ⟨by omega, this.2.1, this.2.2⟩
    · rename_i hb
      have hb : bBlk (look tx N i) = false := Bool.eq_false_iff.mpr hb
      split
      · rename_i hc
        have hl := look_ltN hc.2 (by decide)
        have hs : stp (look tx N) N i = stpLin (look tx N) N i := by unfold stp; rw [if_neg (by rw [hb]; decide), if_pos hc]
        have hp := stp_prog (tx := tx) (N := N) (i := i) (by omega)
        rw [hs] at hp
        split
        · rename_i hn
          have h3 := hp.1 hn
          have := skp_ok (tx := tx) f (stpLin (look tx N) N i).1 hp.2.1 (by omega)
          exact ⟨by omega, this.2.1, this.2.2⟩
        · rename_i hn
          exact ⟨Nat.le_refl i, h1, fun p hq => stp_fa (i := i) (by omega) (by rw [hs]; exact hq), fun hq => absurd hq hn⟩
      · rename_i hc1
        split
        · rename_i hc
          have hl := look_ltN hc.2 (by decide)
          have hs : stp (look tx N) N i = stpStar (look tx N) N i := by unfold stp; rw [if_neg (by rw [hb]; decide), if_neg hc1, if_pos hc]
          have hp := stp_prog (tx := tx) (N := N) (i := i) (by omega)
          rw [hs] at hp
          split
          · rename_i hn
            have h3 := hp.1 hn
            have := skp_ok (tx := tx) f (stpStar (look tx N) N i).1 hp.2.1 (by omega)
            exact ⟨by omega, this.2.1, this.2.2⟩
          · rename_i hn
            exact ⟨Nat.le_refl i, h1, fun p hq => stp_fa (i := i) (by omega) (by rw [hs]; exact hq), fun hq => absurd hq hn⟩
        · rename_i hc2
          exact ⟨Nat.le_refl i, h1, fun p hq => (by cases hq), fun _ => ⟨hb, hc1, hc2⟩⟩
end
section
theorem hex_lt {tx : Nat → Int32} {N j : Nat} (h : 0 ≤ (hexv (look tx N j)).toInt) : j < N := by
  rcases Nat.lt_or_ge j N with q | q
  · exact q
  · rw [look_out q] at h; exact absurd h (by decide)
set_option maxHeartbeats 4000000 in
set_option maxRecDepth 100000 in
theorem c_X1_endOf5 (g : Gl) (b : Nat → Nat) (tr : Nat → Int32) (n fed : Int32) (tx : Nat → Int32) (ks fs ts : Nat → Int32) (ct pl : Int32) (N i : Nat) (hN : N ≤ 16000) (hi : i < N) : Ctr g yX1_endOf wsX1_endOf ({ frames := 6, cells := 0, slots := 0, locals := 134 }) [.ref (b 0), .int 5, .int (nI i)] (mw g b tr n fed tx (nI N) ks fs ts ct pl) (some (.int (sgnE (look tx N) i))) (mw g b tr n fed tx (nI N) ks fs ts ct pl) 0 0 := by
  refine Ctr.start (cc := cX1_endOf) (maxL := 5) (ret := (some .int)) (by decide) rfl (Nat.le_of_ble_eq_true rfl) (lv0 := [(0, .ref (b 0)), (1, .int 5), (2, .int (nI i))]) rfl ?_
  intro X C F
  have C : Ok g X cX1_endOf RX1 wsX1_endOf ({ frames := 6, cells := 0, slots := 0, locals := 134 }) (some .int) 5 := C
  have hin : ∀ w ∈ wsX10, w ∈ wsX1_endOf := fun _ h => List.mem_cons_of_mem _ (List.mem_append_right _ h)
  refine g_iload_n C dX1_endOf_0 2 rfl ?_
  refine g_istore_n (lv' := [(3, .int (nI i)), (0, .ref (b 0)), (1, .int 5), (2, .int (nI i))]) C dX1_endOf_1 (by decide) rfl ?_
  refine g_iload_n C dX1_endOf_2 2 rfl ?_
  refine g_iconst C dX1_endOf_3 (v := 5) (by decide) ?_
  refine g_icmp_ne C dX1_endOf_4 (tgt := 13) (by decide) (fun c1 => ?_) (fun c1 => ?_)
  · exact absurd c1 (by decide)
  · refine g_aload_n C dX1_endOf_7 1 rfl ?_
    refine g_iload_n C dX1_endOf_8 3 rfl ?_
    refine g_callVi (n := 1) C (c_X1_signEnd g b tr n fed tx ks fs ts ct pl N i hN (by omega)) gX1_endOf_X1_signEnd rfl rfl rfl rfl (by decide) (by decide) rfl (Nat.le_of_ble_eq_true rfl) dX1_endOf_9 ?_
    exact g_iret C F (rfl) (rfl) dX1_endOf_12
set_option maxHeartbeats 4000000 in
set_option maxRecDepth 100000 in
theorem c_X1_endOf3 (g : Gl) (b : Nat → Nat) (tr : Nat → Int32) (n fed : Int32) (tx : Nat → Int32) (ks fs ts : Nat → Int32) (ct pl : Int32) (N i : Nat) (hN : N ≤ 16000) (hi : i < N) : Ctr g yX1_endOf wsX1_endOf ({ frames := 6, cells := 0, slots := 0, locals := 134 }) [.ref (b 0), .int 3, .int (nI i)] (mw g b tr n fed tx (nI N) ks fs ts ct pl) (some (.int (tkE (tokStr (look tx N) i)))) (mw g b tr n fed tx (nI N) ks fs ts ct pl) 0 0 := by
  refine Ctr.start (cc := cX1_endOf) (maxL := 5) (ret := (some .int)) (by decide) rfl (Nat.le_of_ble_eq_true rfl) (lv0 := [(0, .ref (b 0)), (1, .int 3), (2, .int (nI i))]) rfl ?_
  intro X C F
  have C : Ok g X cX1_endOf RX1 wsX1_endOf ({ frames := 6, cells := 0, slots := 0, locals := 134 }) (some .int) 5 := C
  have hin : ∀ w ∈ wsX10, w ∈ wsX1_endOf := fun _ h => List.mem_cons_of_mem _ (List.mem_append_right _ h)
  refine g_iload_n C dX1_endOf_0 2 rfl ?_
  refine g_istore_n (lv' := [(3, .int (nI i)), (0, .ref (b 0)), (1, .int 3), (2, .int (nI i))]) C dX1_endOf_1 (by decide) rfl ?_
  refine g_iload_n C dX1_endOf_2 2 rfl ?_
  refine g_iconst C dX1_endOf_3 (v := 5) (by decide) ?_
  refine g_icmp_ne C dX1_endOf_4 (tgt := 13) (by decide) (fun c1 => ?_) (fun c1 => ?_)
  · refine g_iload_n C dX1_endOf_13 2 rfl ?_
    refine g_iconst C dX1_endOf_14 (v := 3) (by decide) ?_
    refine g_icmp_ne C dX1_endOf_15 (tgt := 24) (by decide) (fun c2 => ?_) (fun c2 => ?_)
    · exact absurd c2 (by decide)
    · refine g_aload_n C dX1_endOf_18 1 rfl ?_
      refine g_iload_n C dX1_endOf_19 3 rfl ?_
      refine g_callVi (n := 1) C (c_X1_stringEnd g b tr n fed tx ks fs ts ct pl N i hN hi) gX1_endOf_X1_stringEnd rfl rfl rfl rfl (by decide) (by decide) rfl (Nat.le_of_ble_eq_true rfl) dX1_endOf_20 ?_
      exact g_iret C F (rfl) (rfl) dX1_endOf_23
  · exact absurd c1 (by decide)
set_option maxHeartbeats 4000000 in
set_option maxRecDepth 100000 in
theorem c_X1_endOf1 (g : Gl) (b : Nat → Nat) (tr : Nat → Int32) (n fed : Int32) (tx : Nat → Int32) (ks fs ts : Nat → Int32) (ct pl : Int32) (N i : Nat) (hN : N ≤ 16000) (hi : i < N) : Ctr g yX1_endOf wsX1_endOf ({ frames := 6, cells := 0, slots := 0, locals := 134 }) [.ref (b 0), .int 1, .int (nI i)] (mw g b tr n fed tx (nI N) ks fs ts ct pl) (some (.int (if scan (pNam (look tx N)) N i - i ≤ 24 then nI (scan (pNam (look tx N)) N i) else -1))) (mw g b tr n fed tx (nI N) ks fs ts ct pl) 0 0 := by
  refine Ctr.start (cc := cX1_endOf) (maxL := 5) (ret := (some .int)) (by decide) rfl (Nat.le_of_ble_eq_true rfl) (lv0 := [(0, .ref (b 0)), (1, .int 1), (2, .int (nI i))]) rfl ?_
  intro X C F
  have C : Ok g X cX1_endOf RX1 wsX1_endOf ({ frames := 6, cells := 0, slots := 0, locals := 134 }) (some .int) 5 := C
  have hin : ∀ w ∈ wsX10, w ∈ wsX1_endOf := fun _ h => List.mem_cons_of_mem _ (List.mem_append_right _ h)
  obtain ⟨e, he⟩ : ∃ e, e = scan (pNam (look tx N)) N i := ⟨_, rfl⟩
  rw [← he] at F
  have he1 : i ≤ e := by rw [he]; exact scan_ge _ _ _
  have he2 : e ≤ N := by rw [he]; exact scan_le (by omega)
  have ex : G g X (0, 0) (mw g b tr n fed tx (nI N) ks fs ts ct pl) 46 [(3, .int (nI e)), (0, .ref (b 0)), (1, .int 1), (2, .int (nI i))] [] := by
    refine g_iload_n C dX1_endOf_46 0 rfl ?_
    refine g_iload_n C dX1_endOf_47 3 rfl ?_
    refine g_isub C dX1_endOf_48 ?_
    refine g_top (y := nI (e - i)) (nI_subI (b := i) (by omega)) ?_
    refine g_bipush C dX1_endOf_49 (v := 24) (by decide) ?_
    refine g_icmp_gt C dX1_endOf_51 (tgt := 58) (by decide) (fun c1 => ?_) (fun c1 => ?_)
    · have hz := (nI_ltI (a := 24) (by omega) (by omega)).mp c1
      refine g_iconst C dX1_endOf_58 (v := (-1)) (by decide) ?_
      exact g_iret C F (by rw [if_neg (by omega)]) (rfl) dX1_endOf_59
    · have hz : ¬ 24 < e - i := fun q => c1 (nI_lt (a := 24) q (by omega))
      refine g_iload_n C dX1_endOf_54 0 rfl ?_
      refine g_goto C dX1_endOf_55 (tgt := 59) (by decide) ?_
      exact g_iret C F (by rw [if_pos (by omega)]) (rfl) dX1_endOf_59
  have loop : ∀ (k j : Nat), j ≤ N → N + 1 ≤ j + k → scan (pNam (look tx N)) N j = e → G g X (0, 0) (mw g b tr n fed tx (nI N) ks fs ts ct pl) 29 [(3, .int (nI j)), (0, .ref (b 0)), (1, .int 1), (2, .int (nI i))] [] := by
    intro k
    induction k with
    | zero => intro j h1 h2 h3; omega
    | succ k ih =>
      intro j h1 h2 h3
      refine g_aload_n C dX1_endOf_29 1 rfl ?_
      refine g_iload_n C dX1_endOf_30 0 rfl ?_
      refine g_callVi (n := 1) C (c_X1_look g b tr n fed tx ks fs ts ct pl N j hN (by omega)) gX1_endOf_X1_look rfl rfl rfl rfl (by decide) (by decide) rfl (Nat.le_of_ble_eq_true rfl) dX1_endOf_31 ?_
      refine g_callSi (n := 1) C (c_X1_isInName g (look tx N j)) gX1_endOf_X1_isInName rfl rfl (by decide) (by decide) rfl (Nat.le_of_ble_eq_true rfl) dX1_endOf_34 ?_
      refine g_if_eq C dX1_endOf_37 (tgt := 46) (by decide) (fun c2 => ?_) (fun c2 => ?_)
      · rw [scan_stop (show pNam (look tx N) j = false from b01_0.mp c2)] at h3
        subst h3
        exact ex
      · have hj : j < N := look_pos (tx := tx) (by have := bNam_t (b01_1.mp c2); omega)
        rw [scan_step hj (show pNam (look tx N) j = true from b01_1.mp c2)] at h3
        refine g_iinc (o := 0) (v := nI (j + 1)) (lv' := [(3, .int (nI (j + 1))), (0, .ref (b 0)), (1, .int 1), (2, .int (nI i))]) C dX1_endOf_40 rfl (nI_add j 1) (by decide) rfl ?_
        refine g_goto C dX1_endOf_43 (tgt := 29) (by decide) ?_
        exact ih (j + 1) (by omega) (by omega) h3
  refine g_iload_n C dX1_endOf_0 2 rfl ?_
  refine g_istore_n (lv' := [(3, .int (nI i)), (0, .ref (b 0)), (1, .int 1), (2, .int (nI i))]) C dX1_endOf_1 (by decide) rfl ?_
  refine g_iload_n C dX1_endOf_2 2 rfl ?_
  refine g_iconst C dX1_endOf_3 (v := 5) (by decide) ?_
  refine g_icmp_ne C dX1_endOf_4 (tgt := 13) (by decide) (fun c3 => ?_) (fun c3 => ?_)
  · refine g_iload_n C dX1_endOf_13 2 rfl ?_
    refine g_iconst C dX1_endOf_14 (v := 3) (by decide) ?_
    refine g_icmp_ne C dX1_endOf_15 (tgt := 24) (by decide) (fun c4 => ?_) (fun c4 => ?_)
    · refine g_iload_n C dX1_endOf_24 2 rfl ?_
      refine g_iconst C dX1_endOf_25 (v := 1) (by decide) ?_
      refine g_icmp_ne C dX1_endOf_26 (tgt := 60) (by decide) (fun c5 => ?_) (fun c5 => ?_)
      · exact absurd c5 (by decide)
      · exact loop (N + 1) i (by omega) (by omega) he.symm
    · exact absurd c4 (by decide)
  · exact absurd c3 (by decide)
set_option maxHeartbeats 4000000 in
set_option maxRecDepth 100000 in
theorem c_X1_endOf2q (g : Gl) (b : Nat → Nat) (tr : Nat → Int32) (n fed : Int32) (tx : Nat → Int32) (ks fs ts : Nat → Int32) (ct pl : Int32) (N i : Nat) (hN : N ≤ 16000) (hi : i < N) (hq : look tx N i = 39) : Ctr g yX1_endOf wsX1_endOf ({ frames := 6, cells := 0, slots := 0, locals := 134 }) [.ref (b 0), .int 2, .int (nI i)] (mw g b tr n fed tx (nI N) ks fs ts ct pl) (some (.int (tkE (tokQuo (look tx N) i)))) (mw g b tr n fed tx (nI N) ks fs ts ct pl) 0 0 := by
  refine Ctr.start (cc := cX1_endOf) (maxL := 5) (ret := (some .int)) (by decide) rfl (Nat.le_of_ble_eq_true rfl) (lv0 := [(0, .ref (b 0)), (1, .int 2), (2, .int (nI i))]) rfl ?_
  intro X C F
  have C : Ok g X cX1_endOf RX1 wsX1_endOf ({ frames := 6, cells := 0, slots := 0, locals := 134 }) (some .int) 5 := C
  have hin : ∀ w ∈ wsX10, w ∈ wsX1_endOf := fun _ h => List.mem_cons_of_mem _ (List.mem_append_right _ h)
  obtain ⟨w, hw⟩ : ∃ w, w = cwd (look tx N) (i + 1) 39 := ⟨_, rfl⟩
  have hw2 : w ≤ 2 := by rw [hw]; exact cwd_le _ _ _
  have hs : tokQuo (look tx N) i = if w = 0 then none else if look tx N (i + 1 + w) = 39 then some (2, cat (look tx N) (i + 1), i + 1 + w + 1) else none := by rw [hw]; rfl
  refine g_iload_n C dX1_endOf_0 2 rfl ?_
  refine g_istore_n (lv' := [(3, .int (nI i)), (0, .ref (b 0)), (1, .int 2), (2, .int (nI i))]) C dX1_endOf_1 (by decide) rfl ?_
  refine g_iload_n C dX1_endOf_2 2 rfl ?_
  refine g_iconst C dX1_endOf_3 (v := 5) (by decide) ?_
  refine g_icmp_ne C dX1_endOf_4 (tgt := 13) (by decide) (fun c1 => ?_) (fun c1 => ?_)
  · refine g_iload_n C dX1_endOf_13 2 rfl ?_
    refine g_iconst C dX1_endOf_14 (v := 3) (by decide) ?_
    refine g_icmp_ne C dX1_endOf_15 (tgt := 24) (by decide) (fun c2 => ?_) (fun c2 => ?_)
    · refine g_iload_n C dX1_endOf_24 2 rfl ?_
      refine g_iconst C dX1_endOf_25 (v := 1) (by decide) ?_
      refine g_icmp_ne C dX1_endOf_26 (tgt := 60) (by decide) (fun c3 => ?_) (fun c3 => ?_)
      · refine g_aload_n C dX1_endOf_60 1 rfl ?_
        refine g_iload_n C dX1_endOf_61 3 rfl ?_
        refine g_callVi (n := 1) C (c_X1_look g b tr n fed tx ks fs ts ct pl N i hN (by omega)) gX1_endOf_X1_look rfl rfl rfl rfl (by decide) (by decide) rfl (Nat.le_of_ble_eq_true rfl) dX1_endOf_62 ?_
        refine g_bipush C dX1_endOf_65 (v := 39) (by decide) ?_
        refine g_icmp_ne C dX1_endOf_67 (tgt := 102) (by decide) (fun c4 => ?_) (fun c4 => ?_)
        · exact absurd hq c4
        · refine g_aload_n C dX1_endOf_70 1 rfl ?_
          refine g_iload_n C dX1_endOf_71 3 rfl ?_
          refine g_iconst C dX1_endOf_72 (v := 1) (by decide) ?_
          refine g_iadd C dX1_endOf_73 ?_
          refine g_top (nI_add i 1) ?_
          refine g_bipush C dX1_endOf_74 (v := 39) (by decide) ?_
          refine g_callVi (n := 2) C (c_X1_behind g b tr n fed tx ks fs ts ct pl N (i + 1) hN (by omega) 39) gX1_endOf_X1_behind rfl rfl rfl rfl (by decide) (by decide) rfl (Nat.le_of_ble_eq_true rfl) dX1_endOf_76 ?_
          by_cases hz : w = 0
          · refine g_top (y := -1) (bhd_no (by rw [← hw]; exact hz)) ?_
            refine g_istore_n (lv' := [(3, .int (-1)), (0, .ref (b 0)), (1, .int 2), (2, .int (nI i))]) C dX1_endOf_79 (by decide) rfl ?_
            refine g_iload_n C dX1_endOf_80 0 rfl ?_
            refine g_if_le C dX1_endOf_81 (tgt := 100) (by decide) (fun c5 => ?_) (fun c5 => ?_)
            · refine g_iconst C dX1_endOf_100 (v := (-1)) (by decide) ?_
              exact g_iret C F (by rw [hs, if_pos hz]; rfl) (rfl) dX1_endOf_101
            · exact absurd c5 (by decide)
          · refine g_top (y := nI (i + 1 + w)) (by rw [bhd_yes (by rw [← hw]; exact hz), ← hw]) ?_
            refine g_istore_n (lv' := [(3, .int (nI (i + 1 + w))), (0, .ref (b 0)), (1, .int 2), (2, .int (nI i))]) C dX1_endOf_79 (by decide) rfl ?_
            refine g_iload_n C dX1_endOf_80 0 rfl ?_
            refine g_if_le C dX1_endOf_81 (tgt := 100) (by decide) (fun c6 => ?_) (fun c6 => ?_)
            · exact absurd c6 (nI_nle (by omega) (by omega))
            · refine g_aload_n C dX1_endOf_84 1 rfl ?_
              refine g_iload_n C dX1_endOf_85 0 rfl ?_
              refine g_callVi (n := 1) C (c_X1_look g b tr n fed tx ks fs ts ct pl N (i + 1 + w) hN (by omega)) gX1_endOf_X1_look rfl rfl rfl rfl (by decide) (by decide) rfl (Nat.le_of_ble_eq_true rfl) dX1_endOf_86 ?_
              refine g_bipush C dX1_endOf_89 (v := 39) (by decide) ?_
              refine g_icmp_ne C dX1_endOf_91 (tgt := 100) (by decide) (fun c7 => ?_) (fun c7 => ?_)
              · refine g_iconst C dX1_endOf_100 (v := (-1)) (by decide) ?_
                exact g_iret C F (by rw [hs, if_neg hz, if_neg c7]; rfl) (rfl) dX1_endOf_101
              · refine g_iload_n C dX1_endOf_94 0 rfl ?_
                refine g_iconst C dX1_endOf_95 (v := 1) (by decide) ?_
                refine g_iadd C dX1_endOf_96 ?_
                refine g_top (nI_add (i + 1 + w) 1) ?_
                refine g_goto C dX1_endOf_97 (tgt := 101) (by decide) ?_
                exact g_iret C F (by rw [hs, if_neg hz, if_pos c7]; rfl) (rfl) dX1_endOf_101
      · exact absurd c3 (by decide)
    · exact absurd c2 (by decide)
  · exact absurd c1 (by decide)
set_option maxHeartbeats 4000000 in
set_option maxRecDepth 100000 in
theorem c_X1_endOf2h (g : Gl) (b : Nat → Nat) (tr : Nat → Int32) (n fed : Int32) (tx : Nat → Int32) (ks fs ts : Nat → Int32) (ct pl : Int32) (N i : Nat) (hN : N ≤ 16000) (hi : i < N) (hq : bHex (look tx N) i = true) : Ctr g yX1_endOf wsX1_endOf ({ frames := 6, cells := 0, slots := 0, locals := 134 }) [.ref (b 0), .int 2, .int (nI i)] (mw g b tr n fed tx (nI N) ks fs ts ct pl) (some (.int (tkE (tokHex (look tx N) N i)))) (mw g b tr n fed tx (nI N) ks fs ts ct pl) 0 0 := by
  refine Ctr.start (cc := cX1_endOf) (maxL := 5) (ret := (some .int)) (by decide) rfl (Nat.le_of_ble_eq_true rfl) (lv0 := [(0, .ref (b 0)), (1, .int 2), (2, .int (nI i))]) rfl ?_
  intro X C F
  have C : Ok g X cX1_endOf RX1 wsX1_endOf ({ frames := 6, cells := 0, slots := 0, locals := 134 }) (some .int) 5 := C
  have hin : ∀ w ∈ wsX10, w ∈ wsX1_endOf := fun _ h => List.mem_cons_of_mem _ (List.mem_append_right _ h)
  have hx := of_decide_eq_true hq
  have hl := look_ltN hx.2.1 (by decide)
  obtain ⟨e, he⟩ : ∃ e, e = scan (pHex (look tx N)) N (i + 2) := ⟨_, rfl⟩
  have he1 : i + 2 ≤ e := by rw [he]; exact scan_ge _ _ _
  have he2 : e ≤ N := by rw [he]; exact scan_le (by omega)
  have hs : tokHex (look tx N) N i = if 8 < e - i - 2 then none else some (2, hval (look tx N) (i + 2) (e - (i + 2)), e) := by rw [he]; rfl
  have ex : G g X (0, 0) (mw g b tr n fed tx (nI N) ks fs ts ct pl) 170 [(3, .int (nI e)), (4, .int 1), (0, .ref (b 0)), (1, .int 2), (2, .int (nI i))] [] := by
    refine g_iload_n C dX1_endOf_170 0 rfl ?_
    refine g_iload_n C dX1_endOf_171 4 rfl ?_
    refine g_isub C dX1_endOf_172 ?_
    refine g_top (y := nI (e - i)) (nI_subI (b := i) (by omega)) ?_
    refine g_bipush C dX1_endOf_173 (v := 10) (by decide) ?_
    refine g_icmp_gt C dX1_endOf_175 (tgt := 182) (by decide) (fun c1 => ?_) (fun c1 => ?_)
    · have hz := (nI_ltI (a := 10) (by omega) (by omega)).mp c1
      refine g_iconst C dX1_endOf_182 (v := (-1)) (by decide) ?_
      exact g_iret C F (by rw [hs, if_pos (by omega)]; rfl) (rfl) dX1_endOf_183
    · have hz : ¬ 10 < e - i := fun q => c1 (nI_lt (a := 10) q (by omega))
      refine g_iload_n C dX1_endOf_178 0 rfl ?_
      refine g_goto C dX1_endOf_179 (tgt := 183) (by decide) ?_
      exact g_iret C F (by rw [hs, if_neg (by omega)]; rfl) (rfl) dX1_endOf_183
  have loop : ∀ (k j : Nat), j ≤ N → N + 1 ≤ j + k → scan (pHex (look tx N)) N j = e → G g X (0, 0) (mw g b tr n fed tx (nI N) ks fs ts ct pl) 153 [(3, .int (nI j)), (4, .int 1), (0, .ref (b 0)), (1, .int 2), (2, .int (nI i))] [] := by
    intro k
    induction k with
    | zero => intro j h1 h2 h3; omega
    | succ k ih =>
      intro j h1 h2 h3
      refine g_aload_n C dX1_endOf_153 2 rfl ?_
      refine g_iload_n C dX1_endOf_154 0 rfl ?_
      refine g_callVi (n := 1) C (c_X1_look g b tr n fed tx ks fs ts ct pl N j hN (by omega)) gX1_endOf_X1_look rfl rfl rfl rfl (by decide) (by decide) rfl (Nat.le_of_ble_eq_true rfl) dX1_endOf_155 ?_
      refine g_callSi (n := 1) C (c_X1_sixteen g (look tx N j)) gX1_endOf_X1_sixteen rfl rfl (by decide) (by decide) rfl (Nat.le_of_ble_eq_true rfl) dX1_endOf_158 ?_
      refine g_if_lt C dX1_endOf_161 (tgt := 170) (by decide) (fun c2 => ?_) (fun c2 => ?_)
      · have hq2 := k_lt (b := 0) (by decide) c2
        rw [scan_stop (show pHex (look tx N) j = false from decide_eq_false (by omega))] at h3
        subst h3
        exact ex
      · have hq2 := k_nlt (b := 0) (by decide) c2
        have hj : j < N := hex_lt hq2
        rw [scan_step hj (show pHex (look tx N) j = true from decide_eq_true hq2)] at h3
        refine g_iinc (o := 0) (v := nI (j + 1)) (lv' := [(3, .int (nI (j + 1))), (4, .int 1), (0, .ref (b 0)), (1, .int 2), (2, .int (nI i))]) C dX1_endOf_164 rfl (nI_add j 1) (by decide) rfl ?_
        refine g_goto C dX1_endOf_167 (tgt := 153) (by decide) ?_
        exact ih (j + 1) (by omega) (by omega) h3
  refine g_iload_n C dX1_endOf_0 2 rfl ?_
  refine g_istore_n (lv' := [(3, .int (nI i)), (0, .ref (b 0)), (1, .int 2), (2, .int (nI i))]) C dX1_endOf_1 (by decide) rfl ?_
  refine g_iload_n C dX1_endOf_2 2 rfl ?_
  refine g_iconst C dX1_endOf_3 (v := 5) (by decide) ?_
  refine g_icmp_ne C dX1_endOf_4 (tgt := 13) (by decide) (fun c3 => ?_) (fun c3 => ?_)
  · refine g_iload_n C dX1_endOf_13 2 rfl ?_
    refine g_iconst C dX1_endOf_14 (v := 3) (by decide) ?_
    refine g_icmp_ne C dX1_endOf_15 (tgt := 24) (by decide) (fun c4 => ?_) (fun c4 => ?_)
    · refine g_iload_n C dX1_endOf_24 2 rfl ?_
      refine g_iconst C dX1_endOf_25 (v := 1) (by decide) ?_
      refine g_icmp_ne C dX1_endOf_26 (tgt := 60) (by decide) (fun c5 => ?_) (fun c5 => ?_)
      · refine g_aload_n C dX1_endOf_60 1 rfl ?_
        refine g_iload_n C dX1_endOf_61 3 rfl ?_
        refine g_callVi (n := 1) C (c_X1_look g b tr n fed tx ks fs ts ct pl N i hN (by omega)) gX1_endOf_X1_look rfl rfl rfl rfl (by decide) (by decide) rfl (Nat.le_of_ble_eq_true rfl) dX1_endOf_62 ?_
        refine g_bipush C dX1_endOf_65 (v := 39) (by decide) ?_
        refine g_icmp_ne C dX1_endOf_67 (tgt := 102) (by decide) (fun c6 => ?_) (fun c6 => ?_)
        · refine g_aload_n C dX1_endOf_102 1 rfl ?_
          refine g_iload_n C dX1_endOf_103 3 rfl ?_
          refine g_callVi (n := 1) C (c_X1_look g b tr n fed tx ks fs ts ct pl N i hN (by omega)) gX1_endOf_X1_look rfl rfl rfl rfl (by decide) (by decide) rfl (Nat.le_of_ble_eq_true rfl) dX1_endOf_104 ?_
          refine g_bipush C dX1_endOf_107 (v := 48) (by decide) ?_
          refine g_icmp_ne C dX1_endOf_109 (tgt := 141) (by decide) (fun c7 => ?_) (fun c7 => ?_)
          · exact absurd hx.1 c7
          · refine g_aload_n C dX1_endOf_112 1 rfl ?_
            refine g_iload_n C dX1_endOf_113 3 rfl ?_
            refine g_iconst C dX1_endOf_114 (v := 1) (by decide) ?_
            refine g_iadd C dX1_endOf_115 ?_
            refine g_top (nI_add i 1) ?_
            refine g_callVi (n := 1) C (c_X1_look g b tr n fed tx ks fs ts ct pl N (i + 1) hN (by omega)) gX1_endOf_X1_look rfl rfl rfl rfl (by decide) (by decide) rfl (Nat.le_of_ble_eq_true rfl) dX1_endOf_116 ?_
            refine g_bipush C dX1_endOf_119 (v := 120) (by decide) ?_
            refine g_icmp_ne C dX1_endOf_121 (tgt := 141) (by decide) (fun c8 => ?_) (fun c8 => ?_)
            · exact absurd hx.2.1 c8
            · refine g_aload_n C dX1_endOf_124 1 rfl ?_
              refine g_iload_n C dX1_endOf_125 3 rfl ?_
              refine g_iconst C dX1_endOf_126 (v := 2) (by decide) ?_
              refine g_iadd C dX1_endOf_127 ?_
              refine g_top (nI_add i 2) ?_
              refine g_callVi (n := 1) C (c_X1_look g b tr n fed tx ks fs ts ct pl N (i + 2) hN (by omega)) gX1_endOf_X1_look rfl rfl rfl rfl (by decide) (by decide) rfl (Nat.le_of_ble_eq_true rfl) dX1_endOf_128 ?_
              refine g_callSi (n := 1) C (c_X1_sixteen g (look tx N (i + 2))) gX1_endOf_X1_sixteen rfl rfl (by decide) (by decide) rfl (Nat.le_of_ble_eq_true rfl) dX1_endOf_131 ?_
              refine g_if_lt C dX1_endOf_134 (tgt := 141) (by decide) (fun c9 => ?_) (fun c9 => ?_)
              · exact absurd (k_lt (b := 0) (by decide) c9) (by have := hx.2.2; omega)
              · refine g_iconst C dX1_endOf_137 (v := 1) (by decide) ?_
                refine g_goto C dX1_endOf_138 (tgt := 142) (by decide) ?_
                refine g_istore (lv' := [(4, .int 1), (3, .int (nI i)), (0, .ref (b 0)), (1, .int 2), (2, .int (nI i))]) C dX1_endOf_142 (by decide) rfl ?_
                refine g_iload C dX1_endOf_144 0 rfl ?_
                refine g_if_eq C dX1_endOf_146 (tgt := 184) (by decide) (fun c10 => ?_) (fun c10 => ?_)
                · exact absurd c10 (by decide)
                · refine g_iload_n C dX1_endOf_149 4 rfl ?_
                  refine g_iconst C dX1_endOf_150 (v := 2) (by decide) ?_
                  refine g_iadd C dX1_endOf_151 ?_
                  refine g_top (nI_add i 2) ?_
                  refine g_istore_n (lv' := [(3, .int (nI (i + 2))), (4, .int 1), (0, .ref (b 0)), (1, .int 2), (2, .int (nI i))]) C dX1_endOf_152 (by decide) rfl ?_
                  exact loop (N + 1) (i + 2) (by omega) (by omega) he.symm
        · exact absurd (hx.1.symm.trans c6) (by decide)
      · exact absurd c5 (by decide)
    · exact absurd c4 (by decide)
  · exact absurd c3 (by decide)
set_option maxHeartbeats 4000000 in
set_option maxRecDepth 100000 in
theorem c_X1_endOf2d (g : Gl) (b : Nat → Nat) (tr : Nat → Int32) (n fed : Int32) (tx : Nat → Int32) (ks fs ts : Nat → Int32) (ct pl : Int32) (N i : Nat) (hN : N ≤ 16000) (hi : i < N) (hq : bHex (look tx N) i = false) (hn : ¬ look tx N i = 39) : Ctr g yX1_endOf wsX1_endOf ({ frames := 6, cells := 0, slots := 0, locals := 134 }) [.ref (b 0), .int 2, .int (nI i)] (mw g b tr n fed tx (nI N) ks fs ts ct pl) (some (.int (tkE (tokDig (look tx N) N i)))) (mw g b tr n fed tx (nI N) ks fs ts ct pl) 0 0 := by
  refine Ctr.start (cc := cX1_endOf) (maxL := 5) (ret := (some .int)) (by decide) rfl (Nat.le_of_ble_eq_true rfl) (lv0 := [(0, .ref (b 0)), (1, .int 2), (2, .int (nI i))]) rfl ?_
  intro X C F
  have C : Ok g X cX1_endOf RX1 wsX1_endOf ({ frames := 6, cells := 0, slots := 0, locals := 134 }) (some .int) 5 := C
  have hin : ∀ w ∈ wsX10, w ∈ wsX1_endOf := fun _ h => List.mem_cons_of_mem _ (List.mem_append_right _ h)
  have hx := of_decide_eq_false hq
  obtain ⟨e, he⟩ : ∃ e, e = scan (pDig (look tx N)) N i := ⟨_, rfl⟩
  have he1 : i ≤ e := by rw [he]; exact scan_ge _ _ _
  have he2 : e ≤ N := by rw [he]; exact scan_le (by omega)
  have hd : ∀ t, i ≤ t → t < e → bDig (look tx N t) = true := fun t a b => scan_all (p := pDig (look tx N)) (N := N) (i := i) a (by rw [← he]; exact b)
  have hs : tokDig (look tx N) N i = if 2147483647 < dval (look tx N) i (e - i) then none else some (2, nI (dval (look tx N) i (e - i)), e) := by rw [he]; rfl
  have hmi := mInt_dval he1 hd
  have ex : G g X (0, 0) (mw g b tr n fed tx (nI N) ks fs ts ct pl) 201 [(4, .int 0), (3, .int (nI e)), (0, .ref (b 0)), (1, .int 2), (2, .int (nI i))] [] := by
    refine g_aload_n C dX1_endOf_201 2 rfl ?_
    refine g_iload_n C dX1_endOf_202 4 rfl ?_
    refine g_iload_n C dX1_endOf_203 1 rfl ?_
    refine g_callVi (n := 2) C (c_X1_isInt g b tr n fed tx ks fs ts ct pl N i e hN he1 he2 hd) gX1_endOf_X1_isInt rfl rfl rfl rfl (by decide) (by decide) rfl (Nat.le_of_ble_eq_true rfl) dX1_endOf_204 ?_
    refine g_if_eq C dX1_endOf_207 (tgt := 214) (by decide) (fun c1 => ?_) (fun c1 => ?_)
    · have hz := of_decide_eq_false (hmi.symm.trans (b01_0.mp c1))
      refine g_iconst C dX1_endOf_214 (v := (-1)) (by decide) ?_
      exact g_iret C F (by rw [hs, if_pos (by omega)]; rfl) (rfl) dX1_endOf_215
    · have hz := of_decide_eq_true (hmi.symm.trans (b01_1.mp c1))
      refine g_iload_n C dX1_endOf_210 1 rfl ?_
      refine g_goto C dX1_endOf_211 (tgt := 215) (by decide) ?_
      exact g_iret C F (by rw [hs, if_neg (by omega)]; rfl) (rfl) dX1_endOf_215
  have loop : ∀ (k j : Nat), j ≤ N → N + 1 ≤ j + k → scan (pDig (look tx N)) N j = e → G g X (0, 0) (mw g b tr n fed tx (nI N) ks fs ts ct pl) 184 [(4, .int 0), (3, .int (nI j)), (0, .ref (b 0)), (1, .int 2), (2, .int (nI i))] [] := by
    intro k
    induction k with
    | zero => intro j h1 h2 h3; omega
    | succ k ih =>
      intro j h1 h2 h3
      refine g_aload_n C dX1_endOf_184 2 rfl ?_
      refine g_iload_n C dX1_endOf_185 1 rfl ?_
      refine g_callVi (n := 1) C (c_X1_look g b tr n fed tx ks fs ts ct pl N j hN (by omega)) gX1_endOf_X1_look rfl rfl rfl rfl (by decide) (by decide) rfl (Nat.le_of_ble_eq_true rfl) dX1_endOf_186 ?_
      refine g_callSi (n := 1) C (c_X1_isDigit g (look tx N j)) gX1_endOf_X1_isDigit rfl rfl (by decide) (by decide) rfl (Nat.le_of_ble_eq_true rfl) dX1_endOf_189 ?_
      refine g_if_eq C dX1_endOf_192 (tgt := 201) (by decide) (fun c2 => ?_) (fun c2 => ?_)
      · rw [scan_stop (show pDig (look tx N) j = false from b01_0.mp c2)] at h3
        subst h3
        exact ex
      · have hj : j < N := look_pos (tx := tx) (by have := bDig_t (b01_1.mp c2); omega)
        rw [scan_step hj (show pDig (look tx N) j = true from b01_1.mp c2)] at h3
        refine g_iinc (o := 1) (v := nI (j + 1)) (lv' := [(3, .int (nI (j + 1))), (4, .int 0), (0, .ref (b 0)), (1, .int 2), (2, .int (nI i))]) C dX1_endOf_195 rfl (nI_add j 1) (by decide) rfl ?_
        refine g_goto C dX1_endOf_198 (tgt := 184) (by decide) ?_
        refine g_sub [1, 0, 2, 3, 4] rfl ?_
        exact ih (j + 1) (by omega) (by omega) h3
  refine g_iload_n C dX1_endOf_0 2 rfl ?_
  refine g_istore_n (lv' := [(3, .int (nI i)), (0, .ref (b 0)), (1, .int 2), (2, .int (nI i))]) C dX1_endOf_1 (by decide) rfl ?_
  refine g_iload_n C dX1_endOf_2 2 rfl ?_
  refine g_iconst C dX1_endOf_3 (v := 5) (by decide) ?_
  refine g_icmp_ne C dX1_endOf_4 (tgt := 13) (by decide) (fun c3 => ?_) (fun c3 => ?_)
  · refine g_iload_n C dX1_endOf_13 2 rfl ?_
    refine g_iconst C dX1_endOf_14 (v := 3) (by decide) ?_
    refine g_icmp_ne C dX1_endOf_15 (tgt := 24) (by decide) (fun c4 => ?_) (fun c4 => ?_)
    · refine g_iload_n C dX1_endOf_24 2 rfl ?_
      refine g_iconst C dX1_endOf_25 (v := 1) (by decide) ?_
      refine g_icmp_ne C dX1_endOf_26 (tgt := 60) (by decide) (fun c5 => ?_) (fun c5 => ?_)
      · refine g_aload_n C dX1_endOf_60 1 rfl ?_
        refine g_iload_n C dX1_endOf_61 3 rfl ?_
        refine g_callVi (n := 1) C (c_X1_look g b tr n fed tx ks fs ts ct pl N i hN (by omega)) gX1_endOf_X1_look rfl rfl rfl rfl (by decide) (by decide) rfl (Nat.le_of_ble_eq_true rfl) dX1_endOf_62 ?_
        refine g_bipush C dX1_endOf_65 (v := 39) (by decide) ?_
        refine g_icmp_ne C dX1_endOf_67 (tgt := 102) (by decide) (fun c6 => ?_) (fun c6 => ?_)
        · refine g_aload_n C dX1_endOf_102 1 rfl ?_
          refine g_iload_n C dX1_endOf_103 3 rfl ?_
          refine g_callVi (n := 1) C (c_X1_look g b tr n fed tx ks fs ts ct pl N i hN (by omega)) gX1_endOf_X1_look rfl rfl rfl rfl (by decide) (by decide) rfl (Nat.le_of_ble_eq_true rfl) dX1_endOf_104 ?_
          refine g_bipush C dX1_endOf_107 (v := 48) (by decide) ?_
          refine g_icmp_ne C dX1_endOf_109 (tgt := 141) (by decide) (fun c7 => ?_) (fun c7 => ?_)
          · refine g_iconst C dX1_endOf_141 (v := 0) (by decide) ?_
            refine g_istore (lv' := [(4, .int 0), (3, .int (nI i)), (0, .ref (b 0)), (1, .int 2), (2, .int (nI i))]) C dX1_endOf_142 (by decide) rfl ?_
            refine g_iload C dX1_endOf_144 0 rfl ?_
            refine g_if_eq C dX1_endOf_146 (tgt := 184) (by decide) (fun c8 => ?_) (fun c8 => ?_)
            · exact loop (N + 1) i (by omega) (by omega) he.symm
            · exact absurd c8 (by decide)
          · refine g_aload_n C dX1_endOf_112 1 rfl ?_
            refine g_iload_n C dX1_endOf_113 3 rfl ?_
            refine g_iconst C dX1_endOf_114 (v := 1) (by decide) ?_
            refine g_iadd C dX1_endOf_115 ?_
            refine g_top (nI_add i 1) ?_
            refine g_callVi (n := 1) C (c_X1_look g b tr n fed tx ks fs ts ct pl N (i + 1) hN (by omega)) gX1_endOf_X1_look rfl rfl rfl rfl (by decide) (by decide) rfl (Nat.le_of_ble_eq_true rfl) dX1_endOf_116 ?_
            refine g_bipush C dX1_endOf_119 (v := 120) (by decide) ?_
            refine g_icmp_ne C dX1_endOf_121 (tgt := 141) (by decide) (fun c9 => ?_) (fun c9 => ?_)
            · refine g_iconst C dX1_endOf_141 (v := 0) (by decide) ?_
              refine g_istore (lv' := [(4, .int 0), (3, .int (nI i)), (0, .ref (b 0)), (1, .int 2), (2, .int (nI i))]) C dX1_endOf_142 (by decide) rfl ?_
              refine g_iload C dX1_endOf_144 0 rfl ?_
              refine g_if_eq C dX1_endOf_146 (tgt := 184) (by decide) (fun c10 => ?_) (fun c10 => ?_)
              · exact loop (N + 1) i (by omega) (by omega) he.symm
              · exact absurd c10 (by decide)
            · refine g_aload_n C dX1_endOf_124 1 rfl ?_
              refine g_iload_n C dX1_endOf_125 3 rfl ?_
              refine g_iconst C dX1_endOf_126 (v := 2) (by decide) ?_
              refine g_iadd C dX1_endOf_127 ?_
              refine g_top (nI_add i 2) ?_
              refine g_callVi (n := 1) C (c_X1_look g b tr n fed tx ks fs ts ct pl N (i + 2) hN (by omega)) gX1_endOf_X1_look rfl rfl rfl rfl (by decide) (by decide) rfl (Nat.le_of_ble_eq_true rfl) dX1_endOf_128 ?_
              refine g_callSi (n := 1) C (c_X1_sixteen g (look tx N (i + 2))) gX1_endOf_X1_sixteen rfl rfl (by decide) (by decide) rfl (Nat.le_of_ble_eq_true rfl) dX1_endOf_131 ?_
              refine g_if_lt C dX1_endOf_134 (tgt := 141) (by decide) (fun c11 => ?_) (fun c11 => ?_)
              · refine g_iconst C dX1_endOf_141 (v := 0) (by decide) ?_
                refine g_istore (lv' := [(4, .int 0), (3, .int (nI i)), (0, .ref (b 0)), (1, .int 2), (2, .int (nI i))]) C dX1_endOf_142 (by decide) rfl ?_
                refine g_iload C dX1_endOf_144 0 rfl ?_
                refine g_if_eq C dX1_endOf_146 (tgt := 184) (by decide) (fun c12 => ?_) (fun c12 => ?_)
                · exact loop (N + 1) i (by omega) (by omega) he.symm
                · exact absurd c12 (by decide)
              · exact absurd ⟨c7, c9, k_nlt (b := 0) (by decide) c11⟩ hx
        · exact absurd c6 hn
      · exact absurd c5 (by decide)
    · exact absurd c4 (by decide)
  · exact absurd c3 (by decide)
end
section
set_option maxHeartbeats 4000000 in
set_option maxRecDepth 100000 in
theorem c_X1_blanks (g : Gl) (b : Nat → Nat) (tr : Nat → Int32) (n fed : Int32) (tx : Nat → Int32) (ks fs ts : Nat → Int32) (ct : Int32) (N i : Nat) (hN : N ≤ 16000) (hi : i ≤ N) : Ctr g yX1_blanks wsX1_blanks ({ frames := 2, cells := 0, slots := 0, locals := 40 }) [.ref (b 0), .int (nI i)] (mw g b tr n fed tx (nI N) ks fs ts ct (-1)) (some (.int (nI (skp (look tx N) N (N + 1 - i) i).1))) (mw g b tr n fed tx (nI N) ks fs ts ct (stF (skp (look tx N) N (N + 1 - i) i).2 (-1))) 0 0 := by
  refine Ctr.start (cc := cX1_blanks) (maxL := 7) (ret := (some .int)) (by decide) rfl (Nat.le_of_ble_eq_true rfl) (lv0 := [(0, .ref (b 0)), (1, .int (nI i))]) rfl ?_
  intro X C F
  have C : Ok g X cX1_blanks RX1 wsX1_blanks ({ frames := 2, cells := 0, slots := 0, locals := 40 }) (some .int) 7 := C
  have hin : ∀ w ∈ wsX10, w ∈ wsX1_blanks := fun _ h => List.mem_cons_of_mem _ (List.mem_append_right _ h)
  have lk26 : Cond.fieldLink RX1 26 "TokenRowsModel" "place" "I" ∈ wsX1_blanks := by decide +kernel
  obtain ⟨R, hR⟩ : ∃ R, R = skp (look tx N) N (N + 1 - i) i := ⟨_, rfl⟩
  rw [← hR] at F
  have loop : ∀ (f k : Nat), k ≤ N → N + 1 ≤ k + f → skp (look tx N) N f k = R → G g X (0, 0) (mw g b tr n fed tx (nI N) ks fs ts ct (-1)) 8 [(2, .int (nI k)), (3, .int 1), (0, .ref (b 0)), (1, .int (nI i))] [] := by
    intro f
    induction f with
    | zero => intro k h1 h2 h3; omega
    | succ f ih =>
      intro k h1 h2 h3
      rw [skp] at h3
      have remLin : bBlk (look tx N k) = false → look tx N k = 47 ∧ look tx N (k + 1) = 47 → G g X (0, 0) (mw g b tr n fed tx (nI N) ks fs ts ct (-1)) 105 [(3, .int 1), (5, .int 0), (4, .int 1), (2, .int (nI k)), (0, .ref (b 0)), (1, .int (nI i))] [] := by
        intro hb hc
        have hl := look_ltN hc.2 (by decide)
        rw [if_neg (by rw [hb]; decide), if_pos hc] at h3
        obtain ⟨e, he⟩ : ∃ e, e = scan (pLin (look tx N)) N (k + 2) := ⟨_, rfl⟩
        have he1 : k + 2 ≤ e := by rw [he]; exact scan_ge _ _ _
        have he2 : e ≤ N := by rw [he]; exact scan_le (by omega)
        have hat : e < N → pLin (look tx N) e = false := fun q => by have := scan_at (p := pLin (look tx N)) (N := N) (i := k + 2) (by rw [← he]; exact q); rw [← he] at this; exact this
        have ex : G g X (0, 0) (mw g b tr n fed tx (nI N) ks fs ts ct (-1)) 180 [(6, .int (nI e)), (3, .int 1), (5, .int 0), (4, .int 1), (2, .int (nI k)), (0, .ref (b 0)), (1, .int (nI i))] [] := by
          refine g_aload_n C dX1_blanks_180 5 rfl ?_
          refine g_iload C dX1_blanks_181 0 rfl ?_
          refine g_callVi (n := 1) C (c_X1_look g b tr n fed tx ks fs ts ct (-1) N e hN (by omega)) gX1_blanks_X1_look rfl rfl rfl rfl (by decide) (by decide) rfl (Nat.le_of_ble_eq_true rfl) dX1_blanks_183 ?_
          refine g_if_lt C dX1_blanks_186 (tgt := 210) (by decide) (fun c1 => ?_) (fun c1 => ?_)
          · have hge := look_neg (k_lt (b := 0) (by decide) c1)
            have hno := lin_none (L := look tx N) (N := N) (i := k) (by rw [← he]; omega)
            rw [if_pos hno, show (stpLin (look tx N) N k).1 = e from he.symm] at h3
            refine g_iload C dX1_blanks_210 2 rfl ?_
            refine g_if_eq C dX1_blanks_212 (tgt := 229) (by decide) (fun c2 => ?_) (fun c2 => ?_)
            · refine g_aload_n C dX1_blanks_229 5 rfl ?_
              refine g_get1 C hin 0 rfl 9 (by decide) lk26 rfl dX1_blanks_230 ?_
              refine g_if_lt C dX1_blanks_233 (tgt := 238) (by decide) (fun c3 => ?_) (fun c3 => ?_)
              · refine g_iload C dX1_blanks_238 3 rfl ?_
                refine g_if_eq C dX1_blanks_240 (tgt := 248) (by decide) (fun c4 => ?_) (fun c4 => ?_)
                · exact absurd c4 (by decide)
                · refine g_iload C dX1_blanks_243 0 rfl ?_
                  refine g_goto C dX1_blanks_245 (tgt := 252) (by decide) ?_
                  refine g_istore_n (lv' := [(2, .int (nI e)), (6, .int (nI e)), (3, .int 1), (5, .int 0), (4, .int 1), (0, .ref (b 0)), (1, .int (nI i))]) C dX1_blanks_252 (by decide) rfl ?_
                  refine g_goto C dX1_blanks_253 (tgt := 4) (by decide) ?_
                  refine g_iload_n C dX1_blanks_4 2 rfl ?_
                  refine g_if_eq C dX1_blanks_5 (tgt := 256) (by decide) (fun c5 => ?_) (fun c5 => ?_)
                  · exact absurd c5 (by decide)
                  · refine g_sub [0, 2, 5, 6] rfl ?_
                    exact ih e (by omega) (by omega) h3
              · exact absurd c3 (by decide)
            · exact absurd c2 (by decide)
          · have hlt := look_pos (k_nlt (b := 0) (by decide) c1)
            refine g_aload_n C dX1_blanks_189 5 rfl ?_
            refine g_iload C dX1_blanks_190 0 rfl ?_
            refine g_callVi (n := 1) C (c_X1_look g b tr n fed tx ks fs ts ct (-1) N e hN (by omega)) gX1_blanks_X1_look rfl rfl rfl rfl (by decide) (by decide) rfl (Nat.le_of_ble_eq_true rfl) dX1_blanks_192 ?_
            refine g_callSi (n := 1) C (c_X1_isAllowed g (look tx N e)) gX1_blanks_X1_isAllowed rfl rfl (by decide) (by decide) rfl (Nat.le_of_ble_eq_true rfl) dX1_blanks_195 ?_
            refine g_if_ne C dX1_blanks_198 (tgt := 210) (by decide) (fun c6 => ?_) (fun c6 => ?_)
            · have hal := b01_1.mp c6
              have h10 : look tx N e = 10 := by
                have q := hat hlt
                unfold pLin at q
                rw [hal, Bool.and_true] at q
                exact Classical.byContradiction (fun z => absurd (decide_eq_true z) (by rw [q]; decide))
              have hno := lin_none (L := look tx N) (N := N) (i := k) (by rw [← he]; exact fun z => z.2 h10)
              rw [if_pos hno, show (stpLin (look tx N) N k).1 = e from he.symm] at h3
              refine g_iload C dX1_blanks_210 2 rfl ?_
              refine g_if_eq C dX1_blanks_212 (tgt := 229) (by decide) (fun c7 => ?_) (fun c7 => ?_)
              · refine g_aload_n C dX1_blanks_229 5 rfl ?_
                refine g_get1 C hin 0 rfl 9 (by decide) lk26 rfl dX1_blanks_230 ?_
                refine g_if_lt C dX1_blanks_233 (tgt := 238) (by decide) (fun c8 => ?_) (fun c8 => ?_)
                · refine g_iload C dX1_blanks_238 3 rfl ?_
                  refine g_if_eq C dX1_blanks_240 (tgt := 248) (by decide) (fun c9 => ?_) (fun c9 => ?_)
                  · exact absurd c9 (by decide)
                  · refine g_iload C dX1_blanks_243 0 rfl ?_
                    refine g_goto C dX1_blanks_245 (tgt := 252) (by decide) ?_
                    refine g_istore_n (lv' := [(2, .int (nI e)), (6, .int (nI e)), (3, .int 1), (5, .int 0), (4, .int 1), (0, .ref (b 0)), (1, .int (nI i))]) C dX1_blanks_252 (by decide) rfl ?_
                    refine g_goto C dX1_blanks_253 (tgt := 4) (by decide) ?_
                    refine g_iload_n C dX1_blanks_4 2 rfl ?_
                    refine g_if_eq C dX1_blanks_5 (tgt := 256) (by decide) (fun c10 => ?_) (fun c10 => ?_)
                    · exact absurd c10 (by decide)
                    · refine g_sub [0, 2, 5, 6] rfl ?_
                      exact ih e (by omega) (by omega) h3
                · exact absurd c8 (by decide)
              · exact absurd c7 (by decide)
            · have hal := bMay_f (b01_0.mp c6)
              have h10 : ¬ look tx N e = 10 := fun z => hal (by rw [z]; decide)
              have hso := lin_some (L := look tx N) (N := N) (i := k) (by rw [← he]; exact ⟨hlt, h10⟩)
              rw [if_neg (by rw [hso]; exact fun z => (by cases z)), hso, ← he] at h3
              refine g_aload_n C dX1_blanks_201 5 rfl ?_
              refine g_iload C dX1_blanks_202 0 rfl ?_
              refine g_put1 (ws' := (mw g b tr n fed tx (nI N) ks fs ts ct (nI e))) C hin 0 rfl 9 (by decide) lk26 rfl rfl rfl (Nat.le_of_ble_eq_true rfl) rfl dX1_blanks_204 ?_
              refine g_goto C dX1_blanks_207 (tgt := 229) (by decide) ?_
              refine g_aload_n C dX1_blanks_229 5 rfl ?_
              refine g_get1 C hin 0 rfl 9 (by decide) lk26 rfl dX1_blanks_230 ?_
              refine g_if_lt C dX1_blanks_233 (tgt := 238) (by decide) (fun c11 => ?_) (fun c11 => ?_)
              · exact absurd c11 (nI_pos (by omega))
              · refine g_iload_n C dX1_blanks_236 4 rfl ?_
                exact g_iret C F (by rw [← h3]) (by rw [← h3]; rfl) dX1_blanks_237
        have lp : ∀ (f2 j : Nat), j ≤ N → N + 1 ≤ j + f2 → scan (pLin (look tx N)) N j = e → G g X (0, 0) (mw g b tr n fed tx (nI N) ks fs ts ct (-1)) 110 [(6, .int (nI j)), (3, .int 1), (5, .int 0), (4, .int 1), (2, .int (nI k)), (0, .ref (b 0)), (1, .int (nI i))] [] := by
          intro f2
          induction f2 with
          | zero => intro j q1 q2 q3; omega
          | succ f2 ih2 =>
            intro j q1 q2 q3
            refine g_aload_n C dX1_blanks_110 5 rfl ?_
            refine g_iload C dX1_blanks_111 0 rfl ?_
            refine g_callVi (n := 1) C (c_X1_look g b tr n fed tx ks fs ts ct (-1) N j hN (by omega)) gX1_blanks_X1_look rfl rfl rfl rfl (by decide) (by decide) rfl (Nat.le_of_ble_eq_true rfl) dX1_blanks_113 ?_
            refine g_if_lt C dX1_blanks_116 (tgt := 180) (by decide) (fun c12 => ?_) (fun c12 => ?_)
            · have hge := look_neg (k_lt (b := 0) (by decide) c12)
              rw [scan_end hge] at q3
              subst q3
              exact ex
            · have hj := look_pos (k_nlt (b := 0) (by decide) c12)
              refine g_aload_n C dX1_blanks_119 5 rfl ?_
              refine g_iload C dX1_blanks_120 0 rfl ?_
              refine g_callVi (n := 1) C (c_X1_look g b tr n fed tx ks fs ts ct (-1) N j hN (by omega)) gX1_blanks_X1_look rfl rfl rfl rfl (by decide) (by decide) rfl (Nat.le_of_ble_eq_true rfl) dX1_blanks_122 ?_
              refine g_callSi (n := 1) C (c_X1_isAllowed g (look tx N j)) gX1_blanks_X1_isAllowed rfl rfl (by decide) (by decide) rfl (Nat.le_of_ble_eq_true rfl) dX1_blanks_125 ?_
              refine g_if_eq C dX1_blanks_128 (tgt := 180) (by decide) (fun c13 => ?_) (fun c13 => ?_)
              · rw [scan_stop (show pLin (look tx N) j = false by unfold pLin; rw [b01_0.mp c13, Bool.and_false])] at q3
                subst q3
                exact ex
              · have hal := b01_1.mp c13
                refine g_iload C dX1_blanks_131 3 rfl ?_
                refine g_if_eq C dX1_blanks_133 (tgt := 150) (by decide) (fun c14 => ?_) (fun c14 => ?_)
                · exact absurd c14 (by decide)
                · refine g_aload_n C dX1_blanks_136 5 rfl ?_
                  refine g_iload C dX1_blanks_137 0 rfl ?_
                  refine g_callVi (n := 1) C (c_X1_look g b tr n fed tx ks fs ts ct (-1) N j hN (by omega)) gX1_blanks_X1_look rfl rfl rfl rfl (by decide) (by decide) rfl (Nat.le_of_ble_eq_true rfl) dX1_blanks_139 ?_
                  refine g_bipush C dX1_blanks_142 (v := 10) (by decide) ?_
                  refine g_icmp_ne C dX1_blanks_144 (tgt := 174) (by decide) (fun c15 => ?_) (fun c15 => ?_)
                  · rw [scan_step hj (show pLin (look tx N) j = true by unfold pLin; rw [hal, decide_eq_true c15]; rfl)] at q3
                    refine g_iinc (o := 0) (v := nI (j + 1)) (lv' := [(6, .int (nI (j + 1))), (3, .int 1), (5, .int 0), (4, .int 1), (2, .int (nI k)), (0, .ref (b 0)), (1, .int (nI i))]) C dX1_blanks_174 rfl (nI_add j 1) (by decide) rfl ?_
                    refine g_goto C dX1_blanks_177 (tgt := 110) (by decide) ?_
                    exact ih2 (j + 1) (by omega) (by omega) q3
                  · refine g_goto C dX1_blanks_147 (tgt := 180) (by decide) ?_
                    rw [scan_stop (show pLin (look tx N) j = false by unfold pLin; rw [decide_eq_false (fun z => z c15)]; rfl)] at q3
                    subst q3
                    exact ex
        refine g_iload_n C dX1_blanks_105 3 rfl ?_
        refine g_iconst C dX1_blanks_106 (v := 2) (by decide) ?_
        refine g_iadd C dX1_blanks_107 ?_
        refine g_top (nI_add k 2) ?_
        refine g_istore (lv' := [(6, .int (nI (k + 2))), (3, .int 1), (5, .int 0), (4, .int 1), (2, .int (nI k)), (0, .ref (b 0)), (1, .int (nI i))]) C dX1_blanks_108 (by decide) rfl ?_
        exact lp (N + 1) (k + 2) (by omega) (by omega) he.symm
      have remStar : bBlk (look tx N k) = false → look tx N k = 47 ∧ look tx N (k + 1) = 42 → G g X (0, 0) (mw g b tr n fed tx (nI N) ks fs ts ct (-1)) 105 [(3, .int 1), (5, .int 1), (4, .int 0), (2, .int (nI k)), (0, .ref (b 0)), (1, .int (nI i))] [] := by
        intro hb hc
        have hl := look_ltN hc.2 (by decide)
        rw [if_neg (by rw [hb]; decide), if_neg (fun z => absurd (z.2.symm.trans hc.2) (by decide)), if_pos hc] at h3
        obtain ⟨e, he⟩ : ∃ e, e = scan (pStar (look tx N)) N (k + 2) := ⟨_, rfl⟩
        have he1 : k + 2 ≤ e := by rw [he]; exact scan_ge _ _ _
        have he2 : e ≤ N := by rw [he]; exact scan_le (by omega)
        have hat : e < N → pStar (look tx N) e = false := fun q => by have := scan_at (p := pStar (look tx N)) (N := N) (i := k + 2) (by rw [← he]; exact q); rw [← he] at this; exact this
        have ex : G g X (0, 0) (mw g b tr n fed tx (nI N) ks fs ts ct (-1)) 180 [(6, .int (nI e)), (3, .int 1), (5, .int 1), (4, .int 0), (2, .int (nI k)), (0, .ref (b 0)), (1, .int (nI i))] [] := by
          refine g_aload_n C dX1_blanks_180 5 rfl ?_
          refine g_iload C dX1_blanks_181 0 rfl ?_
          refine g_callVi (n := 1) C (c_X1_look g b tr n fed tx ks fs ts ct (-1) N e hN (by omega)) gX1_blanks_X1_look rfl rfl rfl rfl (by decide) (by decide) rfl (Nat.le_of_ble_eq_true rfl) dX1_blanks_183 ?_
          refine g_if_lt C dX1_blanks_186 (tgt := 210) (by decide) (fun c16 => ?_) (fun c16 => ?_)
          · have hge := look_neg (k_lt (b := 0) (by decide) c16)
            have hso := star_end (L := look tx N) (N := N) (i := k) (by rw [← he]; omega)
            rw [if_neg (by rw [hso]; exact fun z => (by cases z)), hso] at h3
            refine g_iload C dX1_blanks_210 2 rfl ?_
            refine g_if_eq C dX1_blanks_212 (tgt := 229) (by decide) (fun c17 => ?_) (fun c17 => ?_)
            · exact absurd c17 (by decide)
            · refine g_aload_n C dX1_blanks_215 5 rfl ?_
              refine g_iload C dX1_blanks_216 0 rfl ?_
              refine g_callVi (n := 1) C (c_X1_look g b tr n fed tx ks fs ts ct (-1) N e hN (by omega)) gX1_blanks_X1_look rfl rfl rfl rfl (by decide) (by decide) rfl (Nat.le_of_ble_eq_true rfl) dX1_blanks_218 ?_
              refine g_if_ge C dX1_blanks_221 (tgt := 229) (by decide) (fun c18 => ?_) (fun c18 => ?_)
              · exact absurd (k_ge (b := 0) (by decide) c18) (by have := look_rng tx N e; omega)
              · refine g_aload_n C dX1_blanks_224 5 rfl ?_
                refine g_iload_n C dX1_blanks_225 4 rfl ?_
                refine g_put1 (ws' := (mw g b tr n fed tx (nI N) ks fs ts ct (nI k))) C hin 0 rfl 9 (by decide) lk26 rfl rfl rfl (Nat.le_of_ble_eq_true rfl) rfl dX1_blanks_226 ?_
                refine g_aload_n C dX1_blanks_229 5 rfl ?_
                refine g_get1 C hin 0 rfl 9 (by decide) lk26 rfl dX1_blanks_230 ?_
                refine g_if_lt C dX1_blanks_233 (tgt := 238) (by decide) (fun c19 => ?_) (fun c19 => ?_)
                · exact absurd c19 (nI_pos (by omega))
                · refine g_iload_n C dX1_blanks_236 4 rfl ?_
                  exact g_iret C F (by rw [← h3]) (by rw [← h3]; rfl) dX1_blanks_237
          · have hlt := look_pos (k_nlt (b := 0) (by decide) c16)
            refine g_aload_n C dX1_blanks_189 5 rfl ?_
            refine g_iload C dX1_blanks_190 0 rfl ?_
            refine g_callVi (n := 1) C (c_X1_look g b tr n fed tx ks fs ts ct (-1) N e hN (by omega)) gX1_blanks_X1_look rfl rfl rfl rfl (by decide) (by decide) rfl (Nat.le_of_ble_eq_true rfl) dX1_blanks_192 ?_
            refine g_callSi (n := 1) C (c_X1_isAllowed g (look tx N e)) gX1_blanks_X1_isAllowed rfl rfl (by decide) (by decide) rfl (Nat.le_of_ble_eq_true rfl) dX1_blanks_195 ?_
            refine g_if_ne C dX1_blanks_198 (tgt := 210) (by decide) (fun c20 => ?_) (fun c20 => ?_)
            · have hal := b01_1.mp c20
              have h10 : look tx N e = 42 ∧ look tx N (e + 1) = 47 := by
                have q := hat hlt
                unfold pStar at q
                rw [hal, Bool.and_true] at q
                exact Classical.byContradiction (fun z => absurd (decide_eq_true z) (by rw [q]; decide))
              have hl2 := look_ltN h10.2 (by decide)
              have hno := star_none (L := look tx N) (N := N) (i := k) (by rw [← he]; exact hlt) (by rw [← he]; exact h10)
              rw [if_pos hno.1, hno.2, ← he] at h3
              refine g_iload C dX1_blanks_210 2 rfl ?_
              refine g_if_eq C dX1_blanks_212 (tgt := 229) (by decide) (fun c21 => ?_) (fun c21 => ?_)
              · exact absurd c21 (by decide)
              · refine g_aload_n C dX1_blanks_215 5 rfl ?_
                refine g_iload C dX1_blanks_216 0 rfl ?_
                refine g_callVi (n := 1) C (c_X1_look g b tr n fed tx ks fs ts ct (-1) N e hN (by omega)) gX1_blanks_X1_look rfl rfl rfl rfl (by decide) (by decide) rfl (Nat.le_of_ble_eq_true rfl) dX1_blanks_218 ?_
                refine g_if_ge C dX1_blanks_221 (tgt := 229) (by decide) (fun c22 => ?_) (fun c22 => ?_)
                · refine g_aload_n C dX1_blanks_229 5 rfl ?_
                  refine g_get1 C hin 0 rfl 9 (by decide) lk26 rfl dX1_blanks_230 ?_
                  refine g_if_lt C dX1_blanks_233 (tgt := 238) (by decide) (fun c23 => ?_) (fun c23 => ?_)
                  · refine g_iload C dX1_blanks_238 3 rfl ?_
                    refine g_if_eq C dX1_blanks_240 (tgt := 248) (by decide) (fun c24 => ?_) (fun c24 => ?_)
                    · refine g_iload C dX1_blanks_248 0 rfl ?_
                      refine g_iconst C dX1_blanks_250 (v := 2) (by decide) ?_
                      refine g_iadd C dX1_blanks_251 ?_
                      refine g_top (nI_add e 2) ?_
                      refine g_istore_n (lv' := [(2, .int (nI (e + 2))), (6, .int (nI e)), (3, .int 1), (5, .int 1), (4, .int 0), (0, .ref (b 0)), (1, .int (nI i))]) C dX1_blanks_252 (by decide) rfl ?_
                      refine g_goto C dX1_blanks_253 (tgt := 4) (by decide) ?_
                      refine g_iload_n C dX1_blanks_4 2 rfl ?_
                      refine g_if_eq C dX1_blanks_5 (tgt := 256) (by decide) (fun c25 => ?_) (fun c25 => ?_)
                      · exact absurd c25 (by decide)
                      · refine g_sub [0, 2, 5, 6] rfl ?_
                        exact ih (e + 2) (by omega) (by omega) h3
                    · exact absurd c24 (by decide)
                  · exact absurd c23 (by decide)
                · exact absurd (k_nge (b := 0) (by decide) c22) (by have := look_rng tx N e; omega)
            · have hal := bMay_f (b01_0.mp c20)
              have h10 : ¬ (look tx N e = 42 ∧ look tx N (e + 1) = 47) := fun z => hal (by rw [z.1]; decide)
              have hso := star_bad (L := look tx N) (N := N) (i := k) (by rw [← he]; exact hlt) (by rw [← he]; exact h10)
              rw [if_neg (by rw [hso]; exact fun z => (by cases z)), hso, ← he] at h3
              refine g_aload_n C dX1_blanks_201 5 rfl ?_
              refine g_iload C dX1_blanks_202 0 rfl ?_
              refine g_put1 (ws' := (mw g b tr n fed tx (nI N) ks fs ts ct (nI e))) C hin 0 rfl 9 (by decide) lk26 rfl rfl rfl (Nat.le_of_ble_eq_true rfl) rfl dX1_blanks_204 ?_
              refine g_goto C dX1_blanks_207 (tgt := 229) (by decide) ?_
              refine g_aload_n C dX1_blanks_229 5 rfl ?_
              refine g_get1 C hin 0 rfl 9 (by decide) lk26 rfl dX1_blanks_230 ?_
              refine g_if_lt C dX1_blanks_233 (tgt := 238) (by decide) (fun c26 => ?_) (fun c26 => ?_)
              · exact absurd c26 (nI_pos (by omega))
              · refine g_iload_n C dX1_blanks_236 4 rfl ?_
                exact g_iret C F (by rw [← h3]) (by rw [← h3]; rfl) dX1_blanks_237
        have lp : ∀ (f2 j : Nat), j ≤ N → N + 1 ≤ j + f2 → scan (pStar (look tx N)) N j = e → G g X (0, 0) (mw g b tr n fed tx (nI N) ks fs ts ct (-1)) 110 [(6, .int (nI j)), (3, .int 1), (5, .int 1), (4, .int 0), (2, .int (nI k)), (0, .ref (b 0)), (1, .int (nI i))] [] := by
          intro f2
          induction f2 with
          | zero => intro j q1 q2 q3; omega
          | succ f2 ih2 =>
            intro j q1 q2 q3
            refine g_aload_n C dX1_blanks_110 5 rfl ?_
            refine g_iload C dX1_blanks_111 0 rfl ?_
            refine g_callVi (n := 1) C (c_X1_look g b tr n fed tx ks fs ts ct (-1) N j hN (by omega)) gX1_blanks_X1_look rfl rfl rfl rfl (by decide) (by decide) rfl (Nat.le_of_ble_eq_true rfl) dX1_blanks_113 ?_
            refine g_if_lt C dX1_blanks_116 (tgt := 180) (by decide) (fun c27 => ?_) (fun c27 => ?_)
            · have hge := look_neg (k_lt (b := 0) (by decide) c27)
              rw [scan_end hge] at q3
              subst q3
              exact ex
            · have hj := look_pos (k_nlt (b := 0) (by decide) c27)
              refine g_aload_n C dX1_blanks_119 5 rfl ?_
              refine g_iload C dX1_blanks_120 0 rfl ?_
              refine g_callVi (n := 1) C (c_X1_look g b tr n fed tx ks fs ts ct (-1) N j hN (by omega)) gX1_blanks_X1_look rfl rfl rfl rfl (by decide) (by decide) rfl (Nat.le_of_ble_eq_true rfl) dX1_blanks_122 ?_
              refine g_callSi (n := 1) C (c_X1_isAllowed g (look tx N j)) gX1_blanks_X1_isAllowed rfl rfl (by decide) (by decide) rfl (Nat.le_of_ble_eq_true rfl) dX1_blanks_125 ?_
              refine g_if_eq C dX1_blanks_128 (tgt := 180) (by decide) (fun c28 => ?_) (fun c28 => ?_)
              · rw [scan_stop (show pStar (look tx N) j = false by unfold pStar; rw [b01_0.mp c28, Bool.and_false])] at q3
                subst q3
                exact ex
              · have hal := b01_1.mp c28
                refine g_iload C dX1_blanks_131 3 rfl ?_
                refine g_if_eq C dX1_blanks_133 (tgt := 150) (by decide) (fun c29 => ?_) (fun c29 => ?_)
                · refine g_aload_n C dX1_blanks_150 5 rfl ?_
                  refine g_iload C dX1_blanks_151 0 rfl ?_
                  refine g_callVi (n := 1) C (c_X1_look g b tr n fed tx ks fs ts ct (-1) N j hN (by omega)) gX1_blanks_X1_look rfl rfl rfl rfl (by decide) (by decide) rfl (Nat.le_of_ble_eq_true rfl) dX1_blanks_153 ?_
                  refine g_bipush C dX1_blanks_156 (v := 42) (by decide) ?_
                  refine g_icmp_ne C dX1_blanks_158 (tgt := 174) (by decide) (fun c30 => ?_) (fun c30 => ?_)
                  · rw [scan_step hj (show pStar (look tx N) j = true by unfold pStar; rw [hal, decide_eq_true (show ¬ (look tx N j = 42 ∧ look tx N (j + 1) = 47) from fun z => c30 z.1)]; rfl)] at q3
                    refine g_iinc (o := 0) (v := nI (j + 1)) (lv' := [(6, .int (nI (j + 1))), (3, .int 1), (5, .int 1), (4, .int 0), (2, .int (nI k)), (0, .ref (b 0)), (1, .int (nI i))]) C dX1_blanks_174 rfl (nI_add j 1) (by decide) rfl ?_
                    refine g_goto C dX1_blanks_177 (tgt := 110) (by decide) ?_
                    exact ih2 (j + 1) (by omega) (by omega) q3
                  · have h42 := c30
                    refine g_aload_n C dX1_blanks_161 5 rfl ?_
                    refine g_iload C dX1_blanks_162 0 rfl ?_
                    refine g_iconst C dX1_blanks_164 (v := 1) (by decide) ?_
                    refine g_iadd C dX1_blanks_165 ?_
                    refine g_top (nI_add j 1) ?_
                    refine g_callVi (n := 1) C (c_X1_look g b tr n fed tx ks fs ts ct (-1) N (j + 1) hN (by omega)) gX1_blanks_X1_look rfl rfl rfl rfl (by decide) (by decide) rfl (Nat.le_of_ble_eq_true rfl) dX1_blanks_166 ?_
                    refine g_bipush C dX1_blanks_169 (v := 47) (by decide) ?_
                    refine g_icmp_eq C dX1_blanks_171 (tgt := 180) (by decide) (fun c31 => ?_) (fun c31 => ?_)
                    · rw [scan_stop (show pStar (look tx N) j = false by unfold pStar; rw [decide_eq_false (fun z => z ⟨h42, c31⟩)]; rfl)] at q3
                      subst q3
                      exact ex
                    · rw [scan_step hj (show pStar (look tx N) j = true by unfold pStar; rw [hal, decide_eq_true (show ¬ (look tx N j = 42 ∧ look tx N (j + 1) = 47) from fun z => c31 z.2)]; rfl)] at q3
                      refine g_iinc (o := 0) (v := nI (j + 1)) (lv' := [(6, .int (nI (j + 1))), (3, .int 1), (5, .int 1), (4, .int 0), (2, .int (nI k)), (0, .ref (b 0)), (1, .int (nI i))]) C dX1_blanks_174 rfl (nI_add j 1) (by decide) rfl ?_
                      refine g_goto C dX1_blanks_177 (tgt := 110) (by decide) ?_
                      exact ih2 (j + 1) (by omega) (by omega) q3
                · exact absurd c29 (by decide)
        refine g_iload_n C dX1_blanks_105 3 rfl ?_
        refine g_iconst C dX1_blanks_106 (v := 2) (by decide) ?_
        refine g_iadd C dX1_blanks_107 ?_
        refine g_top (nI_add k 2) ?_
        refine g_istore (lv' := [(6, .int (nI (k + 2))), (3, .int 1), (5, .int 1), (4, .int 0), (2, .int (nI k)), (0, .ref (b 0)), (1, .int (nI i))]) C dX1_blanks_108 (by decide) rfl ?_
        exact lp (N + 1) (k + 2) (by omega) (by omega) he.symm
      refine g_aload_n C dX1_blanks_8 2 rfl ?_
      refine g_iload_n C dX1_blanks_9 0 rfl ?_
      refine g_callVi (n := 1) C (c_X1_look g b tr n fed tx ks fs ts ct (-1) N k hN (by omega)) gX1_blanks_X1_look rfl rfl rfl rfl (by decide) (by decide) rfl (Nat.le_of_ble_eq_true rfl) dX1_blanks_10 ?_
      refine g_callSi (n := 1) C (c_X1_isBlank g (look tx N k)) gX1_blanks_X1_isBlank rfl rfl (by decide) (by decide) rfl (Nat.le_of_ble_eq_true rfl) dX1_blanks_13 ?_
      refine g_if_eq C dX1_blanks_16 (tgt := 25) (by decide) (fun c32 => ?_) (fun c32 => ?_)
      · have hb := b01_0.mp c32
        refine g_aload_n C dX1_blanks_25 2 rfl ?_
        refine g_iload_n C dX1_blanks_26 0 rfl ?_
        refine g_callVi (n := 1) C (c_X1_look g b tr n fed tx ks fs ts ct (-1) N k hN (by omega)) gX1_blanks_X1_look rfl rfl rfl rfl (by decide) (by decide) rfl (Nat.le_of_ble_eq_true rfl) dX1_blanks_27 ?_
        refine g_bipush C dX1_blanks_30 (v := 47) (by decide) ?_
        refine g_icmp_ne C dX1_blanks_32 (tgt := 51) (by decide) (fun c33 => ?_) (fun c33 => ?_)
        · refine g_iconst C dX1_blanks_51 (v := 0) (by decide) ?_
          refine g_istore (lv' := [(4, .int 0), (2, .int (nI k)), (3, .int 1), (0, .ref (b 0)), (1, .int (nI i))]) C dX1_blanks_52 (by decide) rfl ?_
          refine g_aload_n C dX1_blanks_54 3 rfl ?_
          refine g_iload_n C dX1_blanks_55 1 rfl ?_
          refine g_callVi (n := 1) C (c_X1_look g b tr n fed tx ks fs ts ct (-1) N k hN (by omega)) gX1_blanks_X1_look rfl rfl rfl rfl (by decide) (by decide) rfl (Nat.le_of_ble_eq_true rfl) dX1_blanks_56 ?_
          refine g_bipush C dX1_blanks_59 (v := 47) (by decide) ?_
          refine g_icmp_ne C dX1_blanks_61 (tgt := 80) (by decide) (fun c34 => ?_) (fun c34 => ?_)
          · refine g_iconst C dX1_blanks_80 (v := 0) (by decide) ?_
            refine g_istore (lv' := [(5, .int 0), (4, .int 0), (2, .int (nI k)), (3, .int 1), (0, .ref (b 0)), (1, .int (nI i))]) C dX1_blanks_81 (by decide) rfl ?_
            refine g_iload C dX1_blanks_83 1 rfl ?_
            refine g_if_ne C dX1_blanks_85 (tgt := 93) (by decide) (fun c35 => ?_) (fun c35 => ?_)
            · exact absurd c35 (by decide)
            · refine g_iload C dX1_blanks_88 0 rfl ?_
              refine g_if_eq C dX1_blanks_90 (tgt := 97) (by decide) (fun c36 => ?_) (fun c36 => ?_)
              · refine g_iconst C dX1_blanks_97 (v := 0) (by decide) ?_
                refine g_istore_n (lv' := [(3, .int 0), (5, .int 0), (4, .int 0), (2, .int (nI k)), (0, .ref (b 0)), (1, .int (nI i))]) C dX1_blanks_98 (by decide) rfl ?_
                refine g_iload_n C dX1_blanks_99 0 rfl ?_
                refine g_if_ne C dX1_blanks_100 (tgt := 105) (by decide) (fun c37 => ?_) (fun c37 => ?_)
                · exact absurd c37 (by decide)
                · rw [if_neg (by rw [hb]; decide), if_neg (fun z => c33 z.1), if_neg (fun z => c33 z.1)] at h3
                  refine g_iload_n C dX1_blanks_103 3 rfl ?_
                  exact g_iret C F (by rw [← h3]) (by rw [← h3]; rfl) dX1_blanks_104
              · exact absurd c36 (by decide)
          · exact absurd c34 c33
        · refine g_aload_n C dX1_blanks_35 2 rfl ?_
          refine g_iload_n C dX1_blanks_36 0 rfl ?_
          refine g_iconst C dX1_blanks_37 (v := 1) (by decide) ?_
          refine g_iadd C dX1_blanks_38 ?_
          refine g_top (nI_add k 1) ?_
          refine g_callVi (n := 1) C (c_X1_look g b tr n fed tx ks fs ts ct (-1) N (k + 1) hN (by omega)) gX1_blanks_X1_look rfl rfl rfl rfl (by decide) (by decide) rfl (Nat.le_of_ble_eq_true rfl) dX1_blanks_39 ?_
          refine g_bipush C dX1_blanks_42 (v := 47) (by decide) ?_
          refine g_icmp_ne C dX1_blanks_44 (tgt := 51) (by decide) (fun c38 => ?_) (fun c38 => ?_)
          · refine g_iconst C dX1_blanks_51 (v := 0) (by decide) ?_
            refine g_istore (lv' := [(4, .int 0), (2, .int (nI k)), (3, .int 1), (0, .ref (b 0)), (1, .int (nI i))]) C dX1_blanks_52 (by decide) rfl ?_
            refine g_aload_n C dX1_blanks_54 3 rfl ?_
            refine g_iload_n C dX1_blanks_55 1 rfl ?_
            refine g_callVi (n := 1) C (c_X1_look g b tr n fed tx ks fs ts ct (-1) N k hN (by omega)) gX1_blanks_X1_look rfl rfl rfl rfl (by decide) (by decide) rfl (Nat.le_of_ble_eq_true rfl) dX1_blanks_56 ?_
            refine g_bipush C dX1_blanks_59 (v := 47) (by decide) ?_
            refine g_icmp_ne C dX1_blanks_61 (tgt := 80) (by decide) (fun c39 => ?_) (fun c39 => ?_)
            · exact absurd c33 c39
            · refine g_aload_n C dX1_blanks_64 3 rfl ?_
              refine g_iload_n C dX1_blanks_65 1 rfl ?_
              refine g_iconst C dX1_blanks_66 (v := 1) (by decide) ?_
              refine g_iadd C dX1_blanks_67 ?_
              refine g_top (nI_add k 1) ?_
              refine g_callVi (n := 1) C (c_X1_look g b tr n fed tx ks fs ts ct (-1) N (k + 1) hN (by omega)) gX1_blanks_X1_look rfl rfl rfl rfl (by decide) (by decide) rfl (Nat.le_of_ble_eq_true rfl) dX1_blanks_68 ?_
              refine g_bipush C dX1_blanks_71 (v := 42) (by decide) ?_
              refine g_icmp_ne C dX1_blanks_73 (tgt := 80) (by decide) (fun c40 => ?_) (fun c40 => ?_)
              · refine g_iconst C dX1_blanks_80 (v := 0) (by decide) ?_
                refine g_istore (lv' := [(5, .int 0), (4, .int 0), (2, .int (nI k)), (3, .int 1), (0, .ref (b 0)), (1, .int (nI i))]) C dX1_blanks_81 (by decide) rfl ?_
                refine g_iload C dX1_blanks_83 1 rfl ?_
                refine g_if_ne C dX1_blanks_85 (tgt := 93) (by decide) (fun c41 => ?_) (fun c41 => ?_)
                · exact absurd c41 (by decide)
                · refine g_iload C dX1_blanks_88 0 rfl ?_
                  refine g_if_eq C dX1_blanks_90 (tgt := 97) (by decide) (fun c42 => ?_) (fun c42 => ?_)
                  · refine g_iconst C dX1_blanks_97 (v := 0) (by decide) ?_
                    refine g_istore_n (lv' := [(3, .int 0), (5, .int 0), (4, .int 0), (2, .int (nI k)), (0, .ref (b 0)), (1, .int (nI i))]) C dX1_blanks_98 (by decide) rfl ?_
                    refine g_iload_n C dX1_blanks_99 0 rfl ?_
                    refine g_if_ne C dX1_blanks_100 (tgt := 105) (by decide) (fun c43 => ?_) (fun c43 => ?_)
                    · exact absurd c43 (by decide)
                    · rw [if_neg (by rw [hb]; decide), if_neg (fun z => c38 z.2), if_neg (fun z => c40 z.2)] at h3
                      refine g_iload_n C dX1_blanks_103 3 rfl ?_
                      exact g_iret C F (by rw [← h3]) (by rw [← h3]; rfl) dX1_blanks_104
                  · exact absurd c42 (by decide)
              · refine g_iconst C dX1_blanks_76 (v := 1) (by decide) ?_
                refine g_goto C dX1_blanks_77 (tgt := 81) (by decide) ?_
                refine g_istore (lv' := [(5, .int 1), (4, .int 0), (2, .int (nI k)), (3, .int 1), (0, .ref (b 0)), (1, .int (nI i))]) C dX1_blanks_81 (by decide) rfl ?_
                refine g_iload C dX1_blanks_83 1 rfl ?_
                refine g_if_ne C dX1_blanks_85 (tgt := 93) (by decide) (fun c44 => ?_) (fun c44 => ?_)
                · exact absurd c44 (by decide)
                · refine g_iload C dX1_blanks_88 0 rfl ?_
                  refine g_if_eq C dX1_blanks_90 (tgt := 97) (by decide) (fun c45 => ?_) (fun c45 => ?_)
                  · exact absurd c45 (by decide)
                  · refine g_iconst C dX1_blanks_93 (v := 1) (by decide) ?_
                    refine g_goto C dX1_blanks_94 (tgt := 98) (by decide) ?_
                    refine g_istore_n (lv' := [(3, .int 1), (5, .int 1), (4, .int 0), (2, .int (nI k)), (0, .ref (b 0)), (1, .int (nI i))]) C dX1_blanks_98 (by decide) rfl ?_
                    refine g_iload_n C dX1_blanks_99 0 rfl ?_
                    refine g_if_ne C dX1_blanks_100 (tgt := 105) (by decide) (fun c46 => ?_) (fun c46 => ?_)
                    · exact remStar hb ⟨c33, c40⟩
                    · exact absurd c46 (by decide)
          · refine g_iconst C dX1_blanks_47 (v := 1) (by decide) ?_
            refine g_goto C dX1_blanks_48 (tgt := 52) (by decide) ?_
            refine g_istore (lv' := [(4, .int 1), (2, .int (nI k)), (3, .int 1), (0, .ref (b 0)), (1, .int (nI i))]) C dX1_blanks_52 (by decide) rfl ?_
            refine g_aload_n C dX1_blanks_54 3 rfl ?_
            refine g_iload_n C dX1_blanks_55 1 rfl ?_
            refine g_callVi (n := 1) C (c_X1_look g b tr n fed tx ks fs ts ct (-1) N k hN (by omega)) gX1_blanks_X1_look rfl rfl rfl rfl (by decide) (by decide) rfl (Nat.le_of_ble_eq_true rfl) dX1_blanks_56 ?_
            refine g_bipush C dX1_blanks_59 (v := 47) (by decide) ?_
            refine g_icmp_ne C dX1_blanks_61 (tgt := 80) (by decide) (fun c47 => ?_) (fun c47 => ?_)
            · exact absurd c33 c47
            · refine g_aload_n C dX1_blanks_64 3 rfl ?_
              refine g_iload_n C dX1_blanks_65 1 rfl ?_
              refine g_iconst C dX1_blanks_66 (v := 1) (by decide) ?_
              refine g_iadd C dX1_blanks_67 ?_
              refine g_top (nI_add k 1) ?_
              refine g_callVi (n := 1) C (c_X1_look g b tr n fed tx ks fs ts ct (-1) N (k + 1) hN (by omega)) gX1_blanks_X1_look rfl rfl rfl rfl (by decide) (by decide) rfl (Nat.le_of_ble_eq_true rfl) dX1_blanks_68 ?_
              refine g_bipush C dX1_blanks_71 (v := 42) (by decide) ?_
              refine g_icmp_ne C dX1_blanks_73 (tgt := 80) (by decide) (fun c48 => ?_) (fun c48 => ?_)
              · refine g_iconst C dX1_blanks_80 (v := 0) (by decide) ?_
                refine g_istore (lv' := [(5, .int 0), (4, .int 1), (2, .int (nI k)), (3, .int 1), (0, .ref (b 0)), (1, .int (nI i))]) C dX1_blanks_81 (by decide) rfl ?_
                refine g_iload C dX1_blanks_83 1 rfl ?_
                refine g_if_ne C dX1_blanks_85 (tgt := 93) (by decide) (fun c49 => ?_) (fun c49 => ?_)
                · refine g_iconst C dX1_blanks_93 (v := 1) (by decide) ?_
                  refine g_goto C dX1_blanks_94 (tgt := 98) (by decide) ?_
                  refine g_istore_n (lv' := [(3, .int 1), (5, .int 0), (4, .int 1), (2, .int (nI k)), (0, .ref (b 0)), (1, .int (nI i))]) C dX1_blanks_98 (by decide) rfl ?_
                  refine g_iload_n C dX1_blanks_99 0 rfl ?_
                  refine g_if_ne C dX1_blanks_100 (tgt := 105) (by decide) (fun c50 => ?_) (fun c50 => ?_)
                  · exact remLin hb ⟨c33, c38⟩
                  · exact absurd c50 (by decide)
                · exact absurd c49 (by decide)
              · exact absurd (c38.symm.trans c48) (by decide)
      · have hb := b01_1.mp c32
        have hk : k < N := look_pos (tx := tx) (by have := bBlk_t hb; omega)
        rw [if_pos hb] at h3
        refine g_iinc (o := 0) (v := nI (k + 1)) (lv' := [(2, .int (nI (k + 1))), (3, .int 1), (0, .ref (b 0)), (1, .int (nI i))]) C dX1_blanks_19 rfl (nI_add k 1) (by decide) rfl ?_
        refine g_goto C dX1_blanks_22 (tgt := 8) (by decide) ?_
        exact ih (k + 1) (by omega) (by omega) h3
  refine g_iload_n C dX1_blanks_0 1 rfl ?_
  refine g_istore_n (lv' := [(2, .int (nI i)), (0, .ref (b 0)), (1, .int (nI i))]) C dX1_blanks_1 (by decide) rfl ?_
  refine g_iconst C dX1_blanks_2 (v := 1) (by decide) ?_
  refine g_istore_n (lv' := [(3, .int 1), (2, .int (nI i)), (0, .ref (b 0)), (1, .int (nI i))]) C dX1_blanks_3 (by decide) rfl ?_
  refine g_iload_n C dX1_blanks_4 0 rfl ?_
  refine g_if_eq C dX1_blanks_5 (tgt := 256) (by decide) (fun c51 => ?_) (fun c51 => ?_)
  · exact absurd c51 (by decide)
  · refine g_sub [1, 0, 2, 3] rfl ?_
    exact loop (N + 1 - i) i hi (by omega) hR.symm
end
