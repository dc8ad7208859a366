theorem mem_slice {α : Type} {l : List α} {a n : Nat} {f : Nat → α} (h : (l.drop a).take n = (List.range n).map f) : ∀ j, j < n → f j ∈ l := fun j hj => List.mem_of_mem_drop (List.mem_of_mem_take (by rw [h]; exact List.mem_map.mpr ⟨j, List.mem_range.mpr hj, rfl⟩))
def kTm (i : Nat) : Term := if i = 0 then .string "TokenRowsModel" 102 else .string "TokenRowsModel" 115
set_option maxRecDepth 100000 in
theorem sl_w : ((flatC (Jvm.Cond.and given_1 narrow_1)).drop 7).take 66 = (List.range 66).map (fun j => Cond.eq (.elem (.static "TokenRows" "WORDS" "[C") (.int (Int32.ofNat j))) (.int (nI (wWd.getD j 0)))) := by decide +kernel
set_option maxRecDepth 100000 in
theorem sl_0 : ((flatC (Jvm.Cond.and given_1 narrow_1)).drop 82).take 109 = (List.range 109).map (fun j => Cond.eq (.elem (.field (.string "TokenRowsModel" 102) "java/lang/String" "value" "[B") (.int (Int32.ofNat j))) (.int ((kByt.getD 0 []).getD j 0))) := by decide +kernel
set_option maxRecDepth 100000 in
theorem sl_1 : ((flatC (Jvm.Cond.and given_1 narrow_1)).drop 195).take 67 = (List.range 67).map (fun j => Cond.eq (.elem (.field (.string "TokenRowsModel" 115) "java/lang/String" "value" "[B") (.int (Int32.ofNat j))) (.int ((kByt.getD 1 []).getD j 0))) := by decide +kernel
set_option maxHeartbeats 4000000 in
set_option maxRecDepth 100000 in
theorem env_start {s : State} {bs : Nat} (hts : ∀ w ∈ lw_tbl, w.before #[Value.ref bs] s = true) (hgv : (Jvm.Cond.and given_1 narrow_1).before #[Value.ref bs] s = true) : ∃ g : Gl, Env0 g (fun q : Nat => s.heap.size ≤ q) s s.heap := by
  have hA : ∀ a : Nat, a < s.heap.size → ¬ (fun q : Nat => s.heap.size ≤ q) a := fun a h => Nat.not_le.mpr h
  have hfl := flat_of_before _ hgv
  obtain ⟨tW, eW, hTW⟩ := va_Tof (args := #[Value.ref bs]) (s := s) (tm := (.static "TokenRows" "WORDS" "[C")) (ty := .char) (N := 66) (f := fun j => .int (nI (wWd.getD j 0))) (A := fun q : Nat => s.heap.size ≤ q) (by decide) (hfl _ (List.mem_of_getElem? (i := 5) (by decide +kernel))) (va_eqt (hfl _ (List.mem_of_getElem? (i := 6) (by decide +kernel)))) (fun j hj => va_eqt (hfl _ (mem_slice sl_w j hj))) hA
  have hZW := va_Zref (hts (.laysStatic "TokenRows" "WORDS" "[C") (List.mem_of_getElem? (i := 166) (by decide +kernel))) (hts (.initialized "TokenRows") (List.mem_of_getElem? (i := 36) (by decide +kernel))) eW hA
  obtain ⟨adK, adV, hSt, hev⟩ := vk_Sof (args := #[Value.ref bs]) (s := s) (N := 2) (tm := kTm) (len := kLen) (byt := kByt) (A := fun q : Nat => s.heap.size ≤ q)
    (fun i _ => Nat.lt_trans (kLen_lt i) (by decide))
    (fun i hi => co_2 (P := fun i => (Cond.exactly (kTm i) "java/lang/String").before #[Value.ref bs] s = true) (hfl _ (List.mem_of_getElem? (i := 78) (by decide +kernel))) (hfl _ (List.mem_of_getElem? (i := 191) (by decide +kernel))) hi)
    (fun i hi => co_2 (P := fun i => (Cond.eq (.field (kTm i) "java/lang/String" "coder" "B") (.int 0)).before #[Value.ref bs] s = true) (hfl _ (List.mem_of_getElem? (i := 79) (by decide +kernel))) (hfl _ (List.mem_of_getElem? (i := 192) (by decide +kernel))) hi)
    (fun i hi => co_2 (P := fun i => (Cond.arrayOf (.field (kTm i) "java/lang/String" "value" "[B") .byte).before #[Value.ref bs] s = true) (hfl _ (List.mem_of_getElem? (i := 80) (by decide +kernel))) (hfl _ (List.mem_of_getElem? (i := 193) (by decide +kernel))) hi)
    (fun i hi => co_2 (P := fun i => (Cond.eq (.length (.field (kTm i) "java/lang/String" "value" "[B")) (.int (Int32.ofNat (kLen.getD i 0)))).before #[Value.ref bs] s = true) (hfl _ (List.mem_of_getElem? (i := 81) (by decide +kernel))) (hfl _ (List.mem_of_getElem? (i := 194) (by decide +kernel))) hi)
    (fun i hi => co_2 (P := fun i => ∀ j : Nat, j < kLen.getD i 0 → (Cond.eq (.elem (.field (kTm i) "java/lang/String" "value" "[B") (.int (Int32.ofNat j))) (.int ((kByt.getD i []).getD j 0))).before #[Value.ref bs] s = true) (fun j hj => hfl _ (mem_slice sl_0 j hj)) (fun j hj => hfl _ (mem_slice sl_1 j hj)) hi)
    (fun i j hi hj hij => by
      rcases (show i = 0 ∧ j = 1 ∨ i = 1 ∧ j = 0 by omega) with ⟨rfl, rfl⟩ | ⟨rfl, rfl⟩
      · exact Or.inl (hfl _ (List.mem_of_getElem? (i := 262) (by decide +kernel)))
      · exact Or.inr (hfl _ (List.mem_of_getElem? (i := 262) (by decide +kernel))))
    hA
  have hR0 : vk_R "TokenRowsModel" 102 kS0 (adK 0) s := vk_R.of (A := #[Value.ref bs]) (hts (.stringRef "TokenRowsModel" 102 kS0) (List.mem_of_getElem? (i := 364) (by decide +kernel))) (hev 0 (by decide))
  have hR1 : vk_R "TokenRowsModel" 115 kS1 (adK 1) s := vk_R.of (A := #[Value.ref bs]) (hts (.stringRef "TokenRowsModel" 115 kS1) (List.mem_of_getElem? (i := 455) (by decide +kernel))) (hev 1 (by decide))
  have hZC := va_Zof (A := fun q : Nat => s.heap.size ≤ q) (hts (.laysStatic "java/lang/String" "COMPACT_STRINGS" "Z") (List.mem_of_getElem? (i := 374) (by decide +kernel))) (hts (.initialized "java/lang/String") (List.mem_of_getElem? (i := 39) (by decide +kernel))) (va_eqi (z := 1) (hfl _ (List.mem_of_getElem? (i := 73) (by decide +kernel)))) hA
  have hZF := va_Zqof (A := fun q : Nat => s.heap.size ≤ q) (hts (.laysStatic "jdk/internal/util/Preconditions" "SIOOBE_FORMATTER" "Ljava/util/function/BiFunction;") (List.mem_of_getElem? (i := 390) (by decide +kernel))) (hts (.initialized "jdk/internal/util/Preconditions") (List.mem_of_getElem? (i := 41) (by decide +kernel))) (hfl _ (List.mem_of_getElem? (i := 74) (by decide +kernel))) hA
  obtain ⟨c0, iS0, hKn0⟩ := u_known (C := RX0) (T := TX0) (N := 13) (n := 13) hts inX0 (hts (.instantiable RX0 13) (List.mem_of_getElem? (i := 44) (by decide +kernel)))
  obtain ⟨c1, iS1, hKn1⟩ := u_known (C := RX1) (T := TX1) (N := 10) (n := 10) hts inX1 (hts (.instantiable RX1 10) (List.mem_of_getElem? (i := 283) (by decide +kernel)))
  obtain ⟨cB, kB, compB, b1, b2, b3⟩ := Cond.arrayClass_spec (hts (.arrayClass .byte) (List.mem_of_getElem? (i := 91) (by decide +kernel)))
  obtain ⟨cI, kI, compI, i1, i2, i3⟩ := Cond.arrayClass_spec (hts (.arrayClass .int) (List.mem_of_getElem? (i := 92) (by decide +kernel)))
  refine ⟨((fun k => if k = 0 then c0 else c1, fun k => if k = 0 then iS0 else iS1), cB, cI, tW, adK, adV), ⟨?_, ?_⟩, hZW, hTW, hSt, hR0, hR1, hZC, hZF⟩
  · intro k q hq
    match k, hq with
    | 0, hq => cases hq; exact hKn0
    | 1, hq => cases hq; exact hKn1
    | k + 2, hq => simp [vwCl] at hq
  · intro k q hq
    match k, hq with
    | 0, hq => cases hq; exact ⟨fun n z => ⟨fun k h => (by cases h), kB, b2, compB, b3⟩, b1⟩
    | 1, hq => cases hq; exact ⟨fun n z => ⟨fun k h => (by cases h), kI, i2, compI, i3⟩, i1⟩
    | k + 2, hq => simp [gT] at hq
