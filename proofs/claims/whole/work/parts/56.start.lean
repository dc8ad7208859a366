set_option maxHeartbeats 4000000 in
set_option maxRecDepth 100000 in
/-- THE LAW, from its entry -/
theorem whole_start {p : Program} {e : Env} {s : State} {m : MethodId} {below : List Frame} {meth : Method} {c : Code} (l : Launch) {b L : Nat} {xs : Nat → Int32} (hL : L ≤ 3072) (C0 : lw_At p s m meth c b L xs) : W p l e room_1 s m #[Value.ref b] below meth c s.heap [] 0 0 (lw_Z below #[Value.ref b] s) (entryFrame m ([Value.ref b] : List Value).toArray 4) := by
  obtain ⟨hx, hb, hr, hml, hown, hts, hX, hbl, hlocks, hgv⟩ := id C0
  obtain ⟨g, hE⟩ := env_start hts hgv
  have C : Ok g (p, l, e, room_1, s, m, #[Value.ref b], below, meth, c, (fun q : Nat => s.heap.size ≤ q), 4, lw_Z below #[Value.ref b] s) cL_law RL wsL_law room_1 (some .boolean) 4 := ⟨hx, hb, hml, hown, wsL_hts hts, hE, fun _ h => h, rfl, hr, hlocks, rfl⟩
  have S : Scr (p, l, e, room_1, s, m, #[Value.ref b], below, meth, c, (fun q : Nat => s.heap.size ≤ q), 4, lw_Z below #[Value.ref b] s) b L xs := ⟨hX, hbl, Nat.not_le.mpr hbl⟩
  have fin : ∀ (ws : va_W) (lv : List (Nat × Value)), G g (p, l, e, room_1, s, m, #[Value.ref b], below, meth, c, (fun q : Nat => s.heap.size ≤ q), 4, lw_Z below #[Value.ref b] s) (14, 192023) ws 462 lv [] := by
    intro ws lv H locs ls hP hD hS hl
    refine lv_iconst (v := 1) hx hb dL_law_462 (by decide) ?_
    refine va_forget hS.2.2 ?_
    exact lw_ret hx hb hr hlocks dL_law_463
  have lk1 : Cond.classLink RL 7 RX0 ∈ wsL_law := by decide +kernel
  have lk2 : Cond.instantiable RX0 13 ∈ wsL_law := by decide +kernel
  have lk3 : Cond.initialized RX0 ∈ wsL_law := by decide +kernel
  have lk4 : Cond.classLink RL 10 RX1 ∈ wsL_law := by decide +kernel
  have lk5 : Cond.instantiable RX1 10 ∈ wsL_law := by decide +kernel
  have lk6 : Cond.initialized RX1 ∈ wsL_law := by decide +kernel
  have lk7 : Cond.methodLink RL 9 yX0_init ∈ wsL_law := by decide +kernel
  have lk8 : Cond.instanceMethod yX0_init ∈ wsL_law := by decide +kernel
  have lk9 : Cond.methodLink RL 12 yX1_init ∈ wsL_law := by decide +kernel
  have lk10 : Cond.instanceMethod yX1_init ∈ wsL_law := by decide +kernel
  have key : G g (p, l, e, room_1, s, m, #[Value.ref b], below, meth, c, (fun q : Nat => s.heap.size ≤ q), 4, lw_Z below #[Value.ref b] s) (0, 0) [] 0 [(0, .ref b)] [] := by
    generalize (p, l, e, room_1, s, m, #[Value.ref b], below, meth, c, (fun q : Nat => s.heap.size ≤ q), 4, lw_Z below #[Value.ref b] s) = X at C S fin ⊢
    refine g_new (fs := [.null, .int 0, .int 0, .null, .int 0, .int 0, .int 0, .null, .null, .null, .null, .null, .int 0]) C inlX0 tyX0 tyX0_ok lk1 lk2 lk3 (ci := 0) rfl (fun j hj => by rcases (show j = 0 ∨ j = 1 ∨ j = 2 ∨ j = 3 ∨ j = 4 ∨ j = 5 ∨ j = 6 ∨ j = 7 ∨ j = 8 ∨ j = 9 ∨ j = 10 ∨ j = 11 ∨ j = 12 by omega) with rfl | rfl | rfl | rfl | rfl | rfl | rfl | rfl | rfl | rfl | rfl | rfl | rfl <;> rfl) (by decide) dL_law_0 (fun q0 => ?_)
    refine g_dup C dL_law_3 rfl ?_
    refine g_callI (w1 := []) (n := 0) C (c_X0_init g q0) gL_law_X0_init rfl rfl lk3 lk7 lk8 rfl (by decide) (by decide) rfl (Nat.le_of_ble_eq_true rfl) dL_law_4 (fun ad => ?_)
    refine g_astore_n (lv' := [(1, .ref q0), (0, .ref b)]) C dL_law_7 (by decide) rfl ?_
    refine g_new (fs := [.null, .int 0, .int 0, .null, .int 0, .null, .null, .null, .int 0, .int 0]) C inlX1 tyX1 tyX1_ok lk4 lk5 lk6 (ci := 1) rfl (fun j hj => by rcases (show j = 0 ∨ j = 1 ∨ j = 2 ∨ j = 3 ∨ j = 4 ∨ j = 5 ∨ j = 6 ∨ j = 7 ∨ j = 8 ∨ j = 9 by omega) with rfl | rfl | rfl | rfl | rfl | rfl | rfl | rfl | rfl | rfl <;> rfl) (by decide) dL_law_8 (fun q1 => ?_)
    refine g_dup C dL_law_11 rfl ?_
    refine g_callI (n := 0) C (c_X1_init g q1) gL_law_X1_init rfl rfl lk6 lk9 lk10 rfl (by decide) (by decide) rfl (Nat.le_of_ble_eq_true rfl) dL_law_12 (fun ad2 => ?_)
    refine g_astore_n (lv' := [(2, .ref q1), (1, .ref q0), (0, .ref b)]) C dL_law_15 (by decide) rfl ?_
    refine g_iconst C dL_law_16 (v := nI 0) (by decide) ?_
    refine g_istore_n (lv' := [(3, .int (nI 0)), (2, .ref q1), (1, .ref q0), (0, .ref b)]) C dL_law_17 (by decide) rfl ?_
    refine g_ws (ws' := (tw g (fun k => if k = 0 then q0 else ad k) (ad 1) (ad 2) (fun _ => 0) (nI 0) (nI 0) (fun _ => 0) (nI 0) 1 (-1) ((fun _ => 0), (fun _ => 0), (fun _ => 0), (fun _ => 0), (fun _ => 0), 0)) ++ (mw g (fun k => if k = 0 then q1 else ad2 k) (fun _ => 0) (nI 0) (nI 0) (fun _ => 0) (nI 0) (fun _ => 0) (fun _ => 0) (fun _ => 0) (nI 0) (-1))) rfl ?_
    exact law_loop (a := fun k => if k = 0 then q0 else ad k) (b := fun k => if k = 0 then q1 else ad2 k) hL C S fin (L + 1) 0 _ _ _ _ _ _ _ _ _ _ _ _ 0 0 0 0 (Nat.zero_le L) (by omega) ⟨by omega, by omega, by omega, by omega, fun k hk => by omega, fun k hk => by omega, fun k => rfl, fun k => rfl, rfl, fun k hk => by omega⟩
  rw [lg_entry_eq]
  exact key s.heap [] _ (fun k q h => by simp at h) ⟨fun i j p q h => by simp at h, fun k q h => by simp at h⟩ va_S.rf (lv_entry ([.ref b]) (n := 4) (Nat.le_of_ble_eq_true rfl))
