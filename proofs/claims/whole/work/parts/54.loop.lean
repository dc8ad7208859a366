theorem wsL_hts {args : Array Value} {s : State} (h : ∀ w ∈ lw_tbl, w.before args s = true) : ∀ w ∈ wsL_law, w.before args s = true := fun w hw => h w (wsL_law_in w hw)
set_option maxHeartbeats 8000000 in
set_option maxRecDepth 100000 in
/-- the law's loop -/
theorem law_loop {g : Gl} {X : Cx} {bs L : Nat} {xs : Nat → Int32} {a b : Nat → Nat} (hL : L ≤ 3072) (C : Ok g X cL_law RL wsL_law room_1 (some .boolean) 4) (S : Scr X bs L xs) (fin : ∀ (ws : va_W) (lv : List (Nat × Value)), G g X (14, 192023) ws 462 lv []) : ∀ (k0 i aT aX : Nat) (trC txC : Nat → Int32) (ln fa : Int32) (T : TK) (trM txM ks fs ts : Nat → Int32) (n fed N c : Nat), i ≤ L → L + 1 ≤ i + k0 → LInv trC txC T trM txM ks fs ts n fed N c → G g X (14, 192023) ((tw g a aT aX trC (nI n) (nI fed) txC (nI N) ln fa T) ++ (mw g b trM (nI n) (nI fed) txM (nI N) ks fs ts (nI c) fa)) 18 [(3, .int (nI i)), (2, .ref (b 0)), (1, .ref (a 0)), (0, .ref bs)] [] := by
  intro k0
  induction k0 with
  | zero => intro i aT aX trC txC ln fa T trM txM ks fs ts n fed N c h1 h2; omega
  | succ k0 ih =>
    intro i aT aX trC txC ln fa T trM txM ks fs ts n fed N c h1 h2 I
    refine g_iload_n C dL_law_18 0 rfl ?_
    refine g_aload_n C dL_law_19 3 rfl ?_
    refine g_slen C S dL_law_20 ?_
    refine g_bipush C dL_law_21 (v := 6) (by decide) ?_
    refine g_isub C dL_law_23 ?_
    refine g_icmp_gt C dL_law_24 (tgt := 462) (by decide) (fun c1 => ?_) (fun c1 => ?_)
    · exact fin _ _
    · have h6 : i + 6 ≤ L := by
        have q := k_ngt (pk_sub_toInt (a := L) (b := 6) (by omega) (by omega)) c1
        rw [nI_toInt (by omega)] at q
        omega
      refine g_aload_n C dL_law_27 3 rfl ?_
      refine g_iload_n C dL_law_28 0 rfl ?_
      refine g_sld C S (v := xs i) (vp_in_nI (by omega) (by omega)) (by rw [nI_clamp (by omega)]) dL_law_29 ?_
      refine g_bipush C dL_law_30 (v := 15) (by decide) ?_
      refine g_iand C dL_law_32 ?_
      obtain ⟨j, hj, ej⟩ := pk_andE (xs i) (m := 15) 4 (by decide)
      refine g_top ej ?_
      rcases (show j = 0 ∨ j = 1 ∨ j = 2 ∨ j = 3 ∨ j = 4 ∨ j = 5 ∨ j = 6 ∨ j = 7 ∨ j = 8 ∨ j = 9 ∨ j = 10 ∨ j = 11 ∨ j = 12 ∨ j = 13 ∨ j = 14 ∨ j = 15 by omega) with rfl | rfl | rfl | rfl | rfl | rfl | rfl | rfl | rfl | rfl | rfl | rfl | rfl | rfl | rfl | rfl
      · refine g_tableIn C dL_law_33 (by decide) (by decide) (off := 71) (by decide) (tgt := 104) (by decide) ?_
        obtain ⟨r, trC', trM', n', fed', I2, hc1, hc2⟩ := q_feed g a b aT aX trC txC ln fa T trM txM ks fs ts n fed N c I (xs (i + 1)) (xs (i + 2)) (xs (i + 3)) (xs (i + 4)) (xs (i + 5))
        refine g_aload_n C dL_law_104 2 rfl ?_
        refine g_aload_n C dL_law_105 3 rfl ?_
        refine g_iload_n C dL_law_106 0 rfl ?_
        refine g_iconst C dL_law_107 (v := 1) (by decide) ?_
        refine g_iadd C dL_law_108 ?_
        refine g_top (nI_add i 1) ?_
        refine g_sld C S (v := xs (i + 1)) (vp_in_nI (by omega) (by omega)) (by rw [nI_clamp (by omega)]) dL_law_109 ?_
        refine g_aload_n C dL_law_110 3 rfl ?_
        refine g_iload_n C dL_law_111 0 rfl ?_
        refine g_iconst C dL_law_112 (v := 2) (by decide) ?_
        refine g_iadd C dL_law_113 ?_
        refine g_top (nI_add i 2) ?_
        refine g_sld C S (v := xs (i + 2)) (vp_in_nI (by omega) (by omega)) (by rw [nI_clamp (by omega)]) dL_law_114 ?_
        refine g_aload_n C dL_law_115 3 rfl ?_
        refine g_iload_n C dL_law_116 0 rfl ?_
        refine g_iconst C dL_law_117 (v := 3) (by decide) ?_
        refine g_iadd C dL_law_118 ?_
        refine g_top (nI_add i 3) ?_
        refine g_sld C S (v := xs (i + 3)) (vp_in_nI (by omega) (by omega)) (by rw [nI_clamp (by omega)]) dL_law_119 ?_
        refine g_aload_n C dL_law_120 3 rfl ?_
        refine g_iload_n C dL_law_121 0 rfl ?_
        refine g_iconst C dL_law_122 (v := 4) (by decide) ?_
        refine g_iadd C dL_law_123 ?_
        refine g_top (nI_add i 4) ?_
        refine g_sld C S (v := xs (i + 4)) (vp_in_nI (by omega) (by omega)) (by rw [nI_clamp (by omega)]) dL_law_124 ?_
        refine g_aload_n C dL_law_125 3 rfl ?_
        refine g_iload_n C dL_law_126 0 rfl ?_
        refine g_iconst C dL_law_127 (v := 5) (by decide) ?_
        refine g_iadd C dL_law_128 ?_
        refine g_top (nI_add i 5) ?_
        refine g_sld C S (v := xs (i + 5)) (vp_in_nI (by omega) (by omega)) (by rw [nI_clamp (by omega)]) dL_law_129 ?_
        refine g_callA (n := 5) C hc1 gL_law_X0_feed rfl rfl rfl rfl (by decide) (by decide) rfl (Nat.le_of_ble_eq_true rfl) dL_law_130 ?_
        refine g_aload_n C dL_law_133 1 rfl ?_
        refine g_aload_n C dL_law_134 3 rfl ?_
        refine g_iload_n C dL_law_135 0 rfl ?_
        refine g_iconst C dL_law_136 (v := 1) (by decide) ?_
        refine g_iadd C dL_law_137 ?_
        refine g_top (nI_add i 1) ?_
        refine g_sld C S (v := xs (i + 1)) (vp_in_nI (by omega) (by omega)) (by rw [nI_clamp (by omega)]) dL_law_138 ?_
        refine g_aload_n C dL_law_139 3 rfl ?_
        refine g_iload_n C dL_law_140 0 rfl ?_
        refine g_iconst C dL_law_141 (v := 2) (by decide) ?_
        refine g_iadd C dL_law_142 ?_
        refine g_top (nI_add i 2) ?_
        refine g_sld C S (v := xs (i + 2)) (vp_in_nI (by omega) (by omega)) (by rw [nI_clamp (by omega)]) dL_law_143 ?_
        refine g_aload_n C dL_law_144 3 rfl ?_
        refine g_iload_n C dL_law_145 0 rfl ?_
        refine g_iconst C dL_law_146 (v := 3) (by decide) ?_
        refine g_iadd C dL_law_147 ?_
        refine g_top (nI_add i 3) ?_
        refine g_sld C S (v := xs (i + 3)) (vp_in_nI (by omega) (by omega)) (by rw [nI_clamp (by omega)]) dL_law_148 ?_
        refine g_aload_n C dL_law_149 3 rfl ?_
        refine g_iload_n C dL_law_150 0 rfl ?_
        refine g_iconst C dL_law_151 (v := 4) (by decide) ?_
        refine g_iadd C dL_law_152 ?_
        refine g_top (nI_add i 4) ?_
        refine g_sld C S (v := xs (i + 4)) (vp_in_nI (by omega) (by omega)) (by rw [nI_clamp (by omega)]) dL_law_153 ?_
        refine g_aload_n C dL_law_154 3 rfl ?_
        refine g_iload_n C dL_law_155 0 rfl ?_
        refine g_iconst C dL_law_156 (v := 5) (by decide) ?_
        refine g_iadd C dL_law_157 ?_
        refine g_top (nI_add i 5) ?_
        refine g_sld C S (v := xs (i + 5)) (vp_in_nI (by omega) (by omega)) (by rw [nI_clamp (by omega)]) dL_law_158 ?_
        refine g_callB (n := 5) C hc2 gL_law_X1_feed rfl rfl rfl rfl (by decide) (by decide) rfl (Nat.le_of_ble_eq_true rfl) dL_law_159 ?_
        refine g_icmp_eq C dL_law_162 (tgt := 456) (by decide) (fun c2 => ?_) (fun c2 => ?_)
        · refine g_iinc (o := 0) (v := nI (i + 6)) (lv' := [(3, .int (nI (i + 6))), (2, .ref (b 0)), (1, .ref (a 0)), (0, .ref bs)]) C dL_law_456 rfl (nI_add i 6) (by decide) rfl ?_
          refine g_goto C dL_law_459 (tgt := 18) (by decide) ?_
          exact ih (i + 6) _ _ _ _ _ _ _ _ _ _ _ _ _ _ _ _ (by omega) (by omega) I2
        · exact absurd rfl c2
      · refine g_tableIn C dL_law_33 (by decide) (by decide) (off := 134) (by decide) (tgt := 167) (by decide) ?_
        obtain ⟨r, n', I2, hc1, hc2⟩ := q_end g a b aT aX trC txC ln fa T trM txM ks fs ts n fed N c I (xs (i + 1))
        refine g_aload_n C dL_law_167 2 rfl ?_
        refine g_aload_n C dL_law_168 3 rfl ?_
        refine g_iload_n C dL_law_169 0 rfl ?_
        refine g_iconst C dL_law_170 (v := 1) (by decide) ?_
        refine g_iadd C dL_law_171 ?_
        refine g_top (nI_add i 1) ?_
        refine g_sld C S (v := xs (i + 1)) (vp_in_nI (by omega) (by omega)) (by rw [nI_clamp (by omega)]) dL_law_172 ?_
        refine g_callA (n := 1) C hc1 gL_law_X0_end rfl rfl rfl rfl (by decide) (by decide) rfl (Nat.le_of_ble_eq_true rfl) dL_law_173 ?_
        refine g_aload_n C dL_law_176 1 rfl ?_
        refine g_aload_n C dL_law_177 3 rfl ?_
        refine g_iload_n C dL_law_178 0 rfl ?_
        refine g_iconst C dL_law_179 (v := 1) (by decide) ?_
        refine g_iadd C dL_law_180 ?_
        refine g_top (nI_add i 1) ?_
        refine g_sld C S (v := xs (i + 1)) (vp_in_nI (by omega) (by omega)) (by rw [nI_clamp (by omega)]) dL_law_181 ?_
        refine g_callB (n := 1) C hc2 gL_law_X1_end rfl rfl rfl rfl (by decide) (by decide) rfl (Nat.le_of_ble_eq_true rfl) dL_law_182 ?_
        refine g_icmp_eq C dL_law_185 (tgt := 456) (by decide) (fun c3 => ?_) (fun c3 => ?_)
        · refine g_iinc (o := 0) (v := nI (i + 6)) (lv' := [(3, .int (nI (i + 6))), (2, .ref (b 0)), (1, .ref (a 0)), (0, .ref bs)]) C dL_law_456 rfl (nI_add i 6) (by decide) rfl ?_
          refine g_goto C dL_law_459 (tgt := 18) (by decide) ?_
          exact ih (i + 6) _ _ _ _ _ _ _ _ _ _ _ _ _ _ _ _ (by omega) (by omega) I2
        · exact absurd rfl c3
      · refine g_tableIn C dL_law_33 (by decide) (by decide) (off := 157) (by decide) (tgt := 190) (by decide) ?_
        obtain ⟨r, ln', fa', T', txM', ks', fs', ts', c', I2, hc1, hc2⟩ := q_cut g a b aT aX trC txC ln fa T trM txM ks fs ts n fed N c I
        refine g_aload_n C dL_law_190 2 rfl ?_
        refine g_callA (n := 0) C hc1 gL_law_X0_cut rfl rfl rfl rfl (by decide) (by decide) rfl (Nat.le_of_ble_eq_true rfl) dL_law_191 ?_
        refine g_aload_n C dL_law_194 1 rfl ?_
        refine g_callB (n := 0) C hc2 gL_law_X1_cut rfl rfl rfl rfl (by decide) (by decide) rfl (Nat.le_of_ble_eq_true rfl) dL_law_195 ?_
        refine g_icmp_eq C dL_law_198 (tgt := 456) (by decide) (fun c4 => ?_) (fun c4 => ?_)
        · refine g_iinc (o := 0) (v := nI (i + 6)) (lv' := [(3, .int (nI (i + 6))), (2, .ref (b 0)), (1, .ref (a 0)), (0, .ref bs)]) C dL_law_456 rfl (nI_add i 6) (by decide) rfl ?_
          refine g_goto C dL_law_459 (tgt := 18) (by decide) ?_
          exact ih (i + 6) _ _ _ _ _ _ _ _ _ _ _ _ _ _ _ _ (by omega) (by omega) I2
        · exact absurd rfl c4
      · refine g_tableIn C dL_law_33 (by decide) (by decide) (off := 170) (by decide) (tgt := 203) (by decide) ?_
        obtain ⟨r, hc1, hc2⟩ := q_place g a b aT aX trC txC ln fa T trM txM ks fs ts n fed N c I 
        have I2 := I
        refine g_aload_n C dL_law_203 2 rfl ?_
        refine g_callA (n := 0) C hc1 gL_law_X0_place rfl rfl rfl rfl (by decide) (by decide) rfl (Nat.le_of_ble_eq_true rfl) dL_law_204 ?_
        refine g_aload_n C dL_law_207 1 rfl ?_
        refine g_callB (n := 0) C hc2 gL_law_X1_place rfl rfl rfl rfl (by decide) (by decide) rfl (Nat.le_of_ble_eq_true rfl) dL_law_208 ?_
        refine g_icmp_eq C dL_law_211 (tgt := 456) (by decide) (fun c5 => ?_) (fun c5 => ?_)
        · refine g_iinc (o := 0) (v := nI (i + 6)) (lv' := [(3, .int (nI (i + 6))), (2, .ref (b 0)), (1, .ref (a 0)), (0, .ref bs)]) C dL_law_456 rfl (nI_add i 6) (by decide) rfl ?_
          refine g_goto C dL_law_459 (tgt := 18) (by decide) ?_
          exact ih (i + 6) _ _ _ _ _ _ _ _ _ _ _ _ _ _ _ _ (by omega) (by omega) I2
        · exact absurd rfl c5
      · refine g_tableIn C dL_law_33 (by decide) (by decide) (off := 183) (by decide) (tgt := 216) (by decide) ?_
        obtain ⟨r, hc1, hc2⟩ := q_tokens g a b aT aX trC txC ln fa T trM txM ks fs ts n fed N c I 
        have I2 := I
        refine g_aload_n C dL_law_216 2 rfl ?_
        refine g_callA (n := 0) C hc1 gL_law_X0_tokens rfl rfl rfl rfl (by decide) (by decide) rfl (Nat.le_of_ble_eq_true rfl) dL_law_217 ?_
        refine g_aload_n C dL_law_220 1 rfl ?_
        refine g_callB (n := 0) C hc2 gL_law_X1_tokens rfl rfl rfl rfl (by decide) (by decide) rfl (Nat.le_of_ble_eq_true rfl) dL_law_221 ?_
        refine g_icmp_eq C dL_law_224 (tgt := 456) (by decide) (fun c6 => ?_) (fun c6 => ?_)
        · refine g_iinc (o := 0) (v := nI (i + 6)) (lv' := [(3, .int (nI (i + 6))), (2, .ref (b 0)), (1, .ref (a 0)), (0, .ref bs)]) C dL_law_456 rfl (nI_add i 6) (by decide) rfl ?_
          refine g_goto C dL_law_459 (tgt := 18) (by decide) ?_
          exact ih (i + 6) _ _ _ _ _ _ _ _ _ _ _ _ _ _ _ _ (by omega) (by omega) I2
        · exact absurd rfl c6
      · refine g_tableIn C dL_law_33 (by decide) (by decide) (off := 196) (by decide) (tgt := 229) (by decide) ?_
        obtain ⟨r, hc1, hc2⟩ := q_kind g a b aT aX trC txC ln fa T trM txM ks fs ts n fed N c I (xs (i + 1))
        have I2 := I
        refine g_aload_n C dL_law_229 2 rfl ?_
        refine g_aload_n C dL_law_230 3 rfl ?_
        refine g_iload_n C dL_law_231 0 rfl ?_
        refine g_iconst C dL_law_232 (v := 1) (by decide) ?_
        refine g_iadd C dL_law_233 ?_
        refine g_top (nI_add i 1) ?_
        refine g_sld C S (v := xs (i + 1)) (vp_in_nI (by omega) (by omega)) (by rw [nI_clamp (by omega)]) dL_law_234 ?_
        refine g_callA (n := 1) C hc1 gL_law_X0_kind rfl rfl rfl rfl (by decide) (by decide) rfl (Nat.le_of_ble_eq_true rfl) dL_law_235 ?_
        refine g_aload_n C dL_law_238 1 rfl ?_
        refine g_aload_n C dL_law_239 3 rfl ?_
        refine g_iload_n C dL_law_240 0 rfl ?_
        refine g_iconst C dL_law_241 (v := 1) (by decide) ?_
        refine g_iadd C dL_law_242 ?_
        refine g_top (nI_add i 1) ?_
        refine g_sld C S (v := xs (i + 1)) (vp_in_nI (by omega) (by omega)) (by rw [nI_clamp (by omega)]) dL_law_243 ?_
        refine g_callB (n := 1) C hc2 gL_law_X1_kind rfl rfl rfl rfl (by decide) (by decide) rfl (Nat.le_of_ble_eq_true rfl) dL_law_244 ?_
        refine g_icmp_eq C dL_law_247 (tgt := 456) (by decide) (fun c7 => ?_) (fun c7 => ?_)
        · refine g_iinc (o := 0) (v := nI (i + 6)) (lv' := [(3, .int (nI (i + 6))), (2, .ref (b 0)), (1, .ref (a 0)), (0, .ref bs)]) C dL_law_456 rfl (nI_add i 6) (by decide) rfl ?_
          refine g_goto C dL_law_459 (tgt := 18) (by decide) ?_
          exact ih (i + 6) _ _ _ _ _ _ _ _ _ _ _ _ _ _ _ _ (by omega) (by omega) I2
        · exact absurd rfl c7
      · refine g_tableIn C dL_law_33 (by decide) (by decide) (off := 219) (by decide) (tgt := 252) (by decide) ?_
        obtain ⟨r, hc1, hc2⟩ := q_which g a b aT aX trC txC ln fa T trM txM ks fs ts n fed N c I (xs (i + 1))
        have I2 := I
        refine g_aload_n C dL_law_252 2 rfl ?_
        refine g_aload_n C dL_law_253 3 rfl ?_
        refine g_iload_n C dL_law_254 0 rfl ?_
        refine g_iconst C dL_law_255 (v := 1) (by decide) ?_
        refine g_iadd C dL_law_256 ?_
        refine g_top (nI_add i 1) ?_
        refine g_sld C S (v := xs (i + 1)) (vp_in_nI (by omega) (by omega)) (by rw [nI_clamp (by omega)]) dL_law_257 ?_
        refine g_callA (n := 1) C hc1 gL_law_X0_which rfl rfl rfl rfl (by decide) (by decide) rfl (Nat.le_of_ble_eq_true rfl) dL_law_258 ?_
        refine g_aload_n C dL_law_261 1 rfl ?_
        refine g_aload_n C dL_law_262 3 rfl ?_
        refine g_iload_n C dL_law_263 0 rfl ?_
        refine g_iconst C dL_law_264 (v := 1) (by decide) ?_
        refine g_iadd C dL_law_265 ?_
        refine g_top (nI_add i 1) ?_
        refine g_sld C S (v := xs (i + 1)) (vp_in_nI (by omega) (by omega)) (by rw [nI_clamp (by omega)]) dL_law_266 ?_
        refine g_callB (n := 1) C hc2 gL_law_X1_which rfl rfl rfl rfl (by decide) (by decide) rfl (Nat.le_of_ble_eq_true rfl) dL_law_267 ?_
        refine g_icmp_eq C dL_law_270 (tgt := 456) (by decide) (fun c8 => ?_) (fun c8 => ?_)
        · refine g_iinc (o := 0) (v := nI (i + 6)) (lv' := [(3, .int (nI (i + 6))), (2, .ref (b 0)), (1, .ref (a 0)), (0, .ref bs)]) C dL_law_456 rfl (nI_add i 6) (by decide) rfl ?_
          refine g_goto C dL_law_459 (tgt := 18) (by decide) ?_
          exact ih (i + 6) _ _ _ _ _ _ _ _ _ _ _ _ _ _ _ _ (by omega) (by omega) I2
        · exact absurd rfl c8
      · refine g_tableIn C dL_law_33 (by decide) (by decide) (off := 242) (by decide) (tgt := 275) (by decide) ?_
        obtain ⟨r, hc1, hc2⟩ := q_from g a b aT aX trC txC ln fa T trM txM ks fs ts n fed N c I (xs (i + 1))
        have I2 := I
        refine g_aload_n C dL_law_275 2 rfl ?_
        refine g_aload_n C dL_law_276 3 rfl ?_
        refine g_iload_n C dL_law_277 0 rfl ?_
        refine g_iconst C dL_law_278 (v := 1) (by decide) ?_
        refine g_iadd C dL_law_279 ?_
        refine g_top (nI_add i 1) ?_
        refine g_sld C S (v := xs (i + 1)) (vp_in_nI (by omega) (by omega)) (by rw [nI_clamp (by omega)]) dL_law_280 ?_
        refine g_callA (n := 1) C hc1 gL_law_X0_from rfl rfl rfl rfl (by decide) (by decide) rfl (Nat.le_of_ble_eq_true rfl) dL_law_281 ?_
        refine g_aload_n C dL_law_284 1 rfl ?_
        refine g_aload_n C dL_law_285 3 rfl ?_
        refine g_iload_n C dL_law_286 0 rfl ?_
        refine g_iconst C dL_law_287 (v := 1) (by decide) ?_
        refine g_iadd C dL_law_288 ?_
        refine g_top (nI_add i 1) ?_
        refine g_sld C S (v := xs (i + 1)) (vp_in_nI (by omega) (by omega)) (by rw [nI_clamp (by omega)]) dL_law_289 ?_
        refine g_callB (n := 1) C hc2 gL_law_X1_from rfl rfl rfl rfl (by decide) (by decide) rfl (Nat.le_of_ble_eq_true rfl) dL_law_290 ?_
        refine g_icmp_eq C dL_law_293 (tgt := 456) (by decide) (fun c9 => ?_) (fun c9 => ?_)
        · refine g_iinc (o := 0) (v := nI (i + 6)) (lv' := [(3, .int (nI (i + 6))), (2, .ref (b 0)), (1, .ref (a 0)), (0, .ref bs)]) C dL_law_456 rfl (nI_add i 6) (by decide) rfl ?_
          refine g_goto C dL_law_459 (tgt := 18) (by decide) ?_
          exact ih (i + 6) _ _ _ _ _ _ _ _ _ _ _ _ _ _ _ _ (by omega) (by omega) I2
        · exact absurd rfl c9
      · refine g_tableIn C dL_law_33 (by decide) (by decide) (off := 265) (by decide) (tgt := 298) (by decide) ?_
        obtain ⟨r, hc1, hc2⟩ := q_length g a b aT aX trC txC ln fa T trM txM ks fs ts n fed N c I (xs (i + 1))
        have I2 := I
        refine g_aload_n C dL_law_298 2 rfl ?_
        refine g_aload_n C dL_law_299 3 rfl ?_
        refine g_iload_n C dL_law_300 0 rfl ?_
        refine g_iconst C dL_law_301 (v := 1) (by decide) ?_
        refine g_iadd C dL_law_302 ?_
        refine g_top (nI_add i 1) ?_
        refine g_sld C S (v := xs (i + 1)) (vp_in_nI (by omega) (by omega)) (by rw [nI_clamp (by omega)]) dL_law_303 ?_
        refine g_callA (n := 1) C hc1 gL_law_X0_length rfl rfl rfl rfl (by decide) (by decide) rfl (Nat.le_of_ble_eq_true rfl) dL_law_304 ?_
        refine g_aload_n C dL_law_307 1 rfl ?_
        refine g_aload_n C dL_law_308 3 rfl ?_
        refine g_iload_n C dL_law_309 0 rfl ?_
        refine g_iconst C dL_law_310 (v := 1) (by decide) ?_
        refine g_iadd C dL_law_311 ?_
        refine g_top (nI_add i 1) ?_
        refine g_sld C S (v := xs (i + 1)) (vp_in_nI (by omega) (by omega)) (by rw [nI_clamp (by omega)]) dL_law_312 ?_
        refine g_callB (n := 1) C hc2 gL_law_X1_length rfl rfl rfl rfl (by decide) (by decide) rfl (Nat.le_of_ble_eq_true rfl) dL_law_313 ?_
        refine g_icmp_eq C dL_law_316 (tgt := 456) (by decide) (fun c10 => ?_) (fun c10 => ?_)
        · refine g_iinc (o := 0) (v := nI (i + 6)) (lv' := [(3, .int (nI (i + 6))), (2, .ref (b 0)), (1, .ref (a 0)), (0, .ref bs)]) C dL_law_456 rfl (nI_add i 6) (by decide) rfl ?_
          refine g_goto C dL_law_459 (tgt := 18) (by decide) ?_
          exact ih (i + 6) _ _ _ _ _ _ _ _ _ _ _ _ _ _ _ _ (by omega) (by omega) I2
        · exact absurd rfl c10
      · refine g_tableIn C dL_law_33 (by decide) (by decide) (off := 288) (by decide) (tgt := 321) (by decide) ?_
        obtain ⟨r, hc1, hc2⟩ := q_line g a b aT aX trC txC ln fa T trM txM ks fs ts n fed N c I (xs (i + 1))
        have I2 := I
        refine g_aload_n C dL_law_321 2 rfl ?_
        refine g_aload_n C dL_law_322 3 rfl ?_
        refine g_iload_n C dL_law_323 0 rfl ?_
        refine g_iconst C dL_law_324 (v := 1) (by decide) ?_
        refine g_iadd C dL_law_325 ?_
        refine g_top (nI_add i 1) ?_
        refine g_sld C S (v := xs (i + 1)) (vp_in_nI (by omega) (by omega)) (by rw [nI_clamp (by omega)]) dL_law_326 ?_
        refine g_callA (n := 1) C hc1 gL_law_X0_line rfl rfl rfl rfl (by decide) (by decide) rfl (Nat.le_of_ble_eq_true rfl) dL_law_327 ?_
        refine g_aload_n C dL_law_330 1 rfl ?_
        refine g_aload_n C dL_law_331 3 rfl ?_
        refine g_iload_n C dL_law_332 0 rfl ?_
        refine g_iconst C dL_law_333 (v := 1) (by decide) ?_
        refine g_iadd C dL_law_334 ?_
        refine g_top (nI_add i 1) ?_
        refine g_sld C S (v := xs (i + 1)) (vp_in_nI (by omega) (by omega)) (by rw [nI_clamp (by omega)]) dL_law_335 ?_
        refine g_callB (n := 1) C hc2 gL_law_X1_line rfl rfl rfl rfl (by decide) (by decide) rfl (Nat.le_of_ble_eq_true rfl) dL_law_336 ?_
        refine g_icmp_eq C dL_law_339 (tgt := 456) (by decide) (fun c11 => ?_) (fun c11 => ?_)
        · refine g_iinc (o := 0) (v := nI (i + 6)) (lv' := [(3, .int (nI (i + 6))), (2, .ref (b 0)), (1, .ref (a 0)), (0, .ref bs)]) C dL_law_456 rfl (nI_add i 6) (by decide) rfl ?_
          refine g_goto C dL_law_459 (tgt := 18) (by decide) ?_
          exact ih (i + 6) _ _ _ _ _ _ _ _ _ _ _ _ _ _ _ _ (by omega) (by omega) I2
        · exact absurd rfl c11
      · refine g_tableIn C dL_law_33 (by decide) (by decide) (off := 311) (by decide) (tgt := 344) (by decide) ?_
        obtain ⟨r, hc1, hc2⟩ := q_worth g a b aT aX trC txC ln fa T trM txM ks fs ts n fed N c I (xs (i + 1))
        have I2 := I
        refine g_aload_n C dL_law_344 2 rfl ?_
        refine g_aload_n C dL_law_345 3 rfl ?_
        refine g_iload_n C dL_law_346 0 rfl ?_
        refine g_iconst C dL_law_347 (v := 1) (by decide) ?_
        refine g_iadd C dL_law_348 ?_
        refine g_top (nI_add i 1) ?_
        refine g_sld C S (v := xs (i + 1)) (vp_in_nI (by omega) (by omega)) (by rw [nI_clamp (by omega)]) dL_law_349 ?_
        refine g_callA (n := 1) C hc1 gL_law_X0_worth rfl rfl rfl rfl (by decide) (by decide) rfl (Nat.le_of_ble_eq_true rfl) dL_law_350 ?_
        refine g_aload_n C dL_law_353 1 rfl ?_
        refine g_aload_n C dL_law_354 3 rfl ?_
        refine g_iload_n C dL_law_355 0 rfl ?_
        refine g_iconst C dL_law_356 (v := 1) (by decide) ?_
        refine g_iadd C dL_law_357 ?_
        refine g_top (nI_add i 1) ?_
        refine g_sld C S (v := xs (i + 1)) (vp_in_nI (by omega) (by omega)) (by rw [nI_clamp (by omega)]) dL_law_358 ?_
        refine g_callB (n := 1) C hc2 gL_law_X1_worth rfl rfl rfl rfl (by decide) (by decide) rfl (Nat.le_of_ble_eq_true rfl) dL_law_359 ?_
        refine g_icmp_eq C dL_law_362 (tgt := 456) (by decide) (fun c12 => ?_) (fun c12 => ?_)
        · refine g_iinc (o := 0) (v := nI (i + 6)) (lv' := [(3, .int (nI (i + 6))), (2, .ref (b 0)), (1, .ref (a 0)), (0, .ref bs)]) C dL_law_456 rfl (nI_add i 6) (by decide) rfl ?_
          refine g_goto C dL_law_459 (tgt := 18) (by decide) ?_
          exact ih (i + 6) _ _ _ _ _ _ _ _ _ _ _ _ _ _ _ _ (by omega) (by omega) I2
        · exact absurd rfl c12
      · refine g_tableIn C dL_law_33 (by decide) (by decide) (off := 334) (by decide) (tgt := 367) (by decide) ?_
        obtain ⟨r, hc1, hc2⟩ := q_codes g a b aT aX trC txC ln fa T trM txM ks fs ts n fed N c I (xs (i + 1))
        have I2 := I
        refine g_aload_n C dL_law_367 2 rfl ?_
        refine g_aload_n C dL_law_368 3 rfl ?_
        refine g_iload_n C dL_law_369 0 rfl ?_
        refine g_iconst C dL_law_370 (v := 1) (by decide) ?_
        refine g_iadd C dL_law_371 ?_
        refine g_top (nI_add i 1) ?_
        refine g_sld C S (v := xs (i + 1)) (vp_in_nI (by omega) (by omega)) (by rw [nI_clamp (by omega)]) dL_law_372 ?_
        refine g_callA (n := 1) C hc1 gL_law_X0_codes rfl rfl rfl rfl (by decide) (by decide) rfl (Nat.le_of_ble_eq_true rfl) dL_law_373 ?_
        refine g_aload_n C dL_law_376 1 rfl ?_
        refine g_aload_n C dL_law_377 3 rfl ?_
        refine g_iload_n C dL_law_378 0 rfl ?_
        refine g_iconst C dL_law_379 (v := 1) (by decide) ?_
        refine g_iadd C dL_law_380 ?_
        refine g_top (nI_add i 1) ?_
        refine g_sld C S (v := xs (i + 1)) (vp_in_nI (by omega) (by omega)) (by rw [nI_clamp (by omega)]) dL_law_381 ?_
        refine g_callB (n := 1) C hc2 gL_law_X1_codes rfl rfl rfl rfl (by decide) (by decide) rfl (Nat.le_of_ble_eq_true rfl) dL_law_382 ?_
        refine g_icmp_eq C dL_law_385 (tgt := 456) (by decide) (fun c13 => ?_) (fun c13 => ?_)
        · refine g_iinc (o := 0) (v := nI (i + 6)) (lv' := [(3, .int (nI (i + 6))), (2, .ref (b 0)), (1, .ref (a 0)), (0, .ref bs)]) C dL_law_456 rfl (nI_add i 6) (by decide) rfl ?_
          refine g_goto C dL_law_459 (tgt := 18) (by decide) ?_
          exact ih (i + 6) _ _ _ _ _ _ _ _ _ _ _ _ _ _ _ _ (by omega) (by omega) I2
        · exact absurd rfl c13
      · refine g_tableIn C dL_law_33 (by decide) (by decide) (off := 357) (by decide) (tgt := 390) (by decide) ?_
        obtain ⟨r, hc1, hc2⟩ := q_code g a b aT aX trC txC ln fa T trM txM ks fs ts n fed N c I (xs (i + 1)) (xs (i + 2))
        have I2 := I
        refine g_aload_n C dL_law_390 2 rfl ?_
        refine g_aload_n C dL_law_391 3 rfl ?_
        refine g_iload_n C dL_law_392 0 rfl ?_
        refine g_iconst C dL_law_393 (v := 1) (by decide) ?_
        refine g_iadd C dL_law_394 ?_
        refine g_top (nI_add i 1) ?_
        refine g_sld C S (v := xs (i + 1)) (vp_in_nI (by omega) (by omega)) (by rw [nI_clamp (by omega)]) dL_law_395 ?_
        refine g_aload_n C dL_law_396 3 rfl ?_
        refine g_iload_n C dL_law_397 0 rfl ?_
        refine g_iconst C dL_law_398 (v := 2) (by decide) ?_
        refine g_iadd C dL_law_399 ?_
        refine g_top (nI_add i 2) ?_
        refine g_sld C S (v := xs (i + 2)) (vp_in_nI (by omega) (by omega)) (by rw [nI_clamp (by omega)]) dL_law_400 ?_
        refine g_callA (n := 2) C hc1 gL_law_X0_code rfl rfl rfl rfl (by decide) (by decide) rfl (Nat.le_of_ble_eq_true rfl) dL_law_401 ?_
        refine g_aload_n C dL_law_404 1 rfl ?_
        refine g_aload_n C dL_law_405 3 rfl ?_
        refine g_iload_n C dL_law_406 0 rfl ?_
        refine g_iconst C dL_law_407 (v := 1) (by decide) ?_
        refine g_iadd C dL_law_408 ?_
        refine g_top (nI_add i 1) ?_
        refine g_sld C S (v := xs (i + 1)) (vp_in_nI (by omega) (by omega)) (by rw [nI_clamp (by omega)]) dL_law_409 ?_
        refine g_aload_n C dL_law_410 3 rfl ?_
        refine g_iload_n C dL_law_411 0 rfl ?_
        refine g_iconst C dL_law_412 (v := 2) (by decide) ?_
        refine g_iadd C dL_law_413 ?_
        refine g_top (nI_add i 2) ?_
        refine g_sld C S (v := xs (i + 2)) (vp_in_nI (by omega) (by omega)) (by rw [nI_clamp (by omega)]) dL_law_414 ?_
        refine g_callB (n := 2) C hc2 gL_law_X1_code rfl rfl rfl rfl (by decide) (by decide) rfl (Nat.le_of_ble_eq_true rfl) dL_law_415 ?_
        refine g_icmp_eq C dL_law_418 (tgt := 456) (by decide) (fun c14 => ?_) (fun c14 => ?_)
        · refine g_iinc (o := 0) (v := nI (i + 6)) (lv' := [(3, .int (nI (i + 6))), (2, .ref (b 0)), (1, .ref (a 0)), (0, .ref bs)]) C dL_law_456 rfl (nI_add i 6) (by decide) rfl ?_
          refine g_goto C dL_law_459 (tgt := 18) (by decide) ?_
          exact ih (i + 6) _ _ _ _ _ _ _ _ _ _ _ _ _ _ _ _ (by omega) (by omega) I2
        · exact absurd rfl c14
      · refine g_tableIn C dL_law_33 (by decide) (by decide) (off := 390) (by decide) (tgt := 423) (by decide) ?_
        obtain ⟨r, hc1, hc2⟩ := q_same g a b aT aX trC txC ln fa T trM txM ks fs ts n fed N c I (xs (i + 1)) (xs (i + 2))
        have I2 := I
        refine g_aload_n C dL_law_423 2 rfl ?_
        refine g_aload_n C dL_law_424 3 rfl ?_
        refine g_iload_n C dL_law_425 0 rfl ?_
        refine g_iconst C dL_law_426 (v := 1) (by decide) ?_
        refine g_iadd C dL_law_427 ?_
        refine g_top (nI_add i 1) ?_
        refine g_sld C S (v := xs (i + 1)) (vp_in_nI (by omega) (by omega)) (by rw [nI_clamp (by omega)]) dL_law_428 ?_
        refine g_aload_n C dL_law_429 3 rfl ?_
        refine g_iload_n C dL_law_430 0 rfl ?_
        refine g_iconst C dL_law_431 (v := 2) (by decide) ?_
        refine g_iadd C dL_law_432 ?_
        refine g_top (nI_add i 2) ?_
        refine g_sld C S (v := xs (i + 2)) (vp_in_nI (by omega) (by omega)) (by rw [nI_clamp (by omega)]) dL_law_433 ?_
        refine g_callA (n := 2) C hc1 gL_law_X0_same rfl rfl rfl rfl (by decide) (by decide) rfl (Nat.le_of_ble_eq_true rfl) dL_law_434 ?_
        refine g_aload_n C dL_law_437 1 rfl ?_
        refine g_aload_n C dL_law_438 3 rfl ?_
        refine g_iload_n C dL_law_439 0 rfl ?_
        refine g_iconst C dL_law_440 (v := 1) (by decide) ?_
        refine g_iadd C dL_law_441 ?_
        refine g_top (nI_add i 1) ?_
        refine g_sld C S (v := xs (i + 1)) (vp_in_nI (by omega) (by omega)) (by rw [nI_clamp (by omega)]) dL_law_442 ?_
        refine g_aload_n C dL_law_443 3 rfl ?_
        refine g_iload_n C dL_law_444 0 rfl ?_
        refine g_iconst C dL_law_445 (v := 2) (by decide) ?_
        refine g_iadd C dL_law_446 ?_
        refine g_top (nI_add i 2) ?_
        refine g_sld C S (v := xs (i + 2)) (vp_in_nI (by omega) (by omega)) (by rw [nI_clamp (by omega)]) dL_law_447 ?_
        refine g_callB (n := 2) C hc2 gL_law_X1_same rfl rfl rfl rfl (by decide) (by decide) rfl (Nat.le_of_ble_eq_true rfl) dL_law_448 ?_
        refine g_icmp_eq C dL_law_451 (tgt := 456) (by decide) (fun c15 => ?_) (fun c15 => ?_)
        · refine g_iinc (o := 0) (v := nI (i + 6)) (lv' := [(3, .int (nI (i + 6))), (2, .ref (b 0)), (1, .ref (a 0)), (0, .ref bs)]) C dL_law_456 rfl (nI_add i 6) (by decide) rfl ?_
          refine g_goto C dL_law_459 (tgt := 18) (by decide) ?_
          exact ih (i + 6) _ _ _ _ _ _ _ _ _ _ _ _ _ _ _ _ (by omega) (by omega) I2
        · exact absurd rfl c15
      · refine g_tableOut C dL_law_33 (Or.inr (by decide)) (tgt := 456) (by decide) ?_
        have I2 := I
        refine g_iinc (o := 0) (v := nI (i + 6)) (lv' := [(3, .int (nI (i + 6))), (2, .ref (b 0)), (1, .ref (a 0)), (0, .ref bs)]) C dL_law_456 rfl (nI_add i 6) (by decide) rfl ?_
        refine g_goto C dL_law_459 (tgt := 18) (by decide) ?_
        exact ih (i + 6) _ _ _ _ _ _ _ _ _ _ _ _ _ _ _ _ (by omega) (by omega) I2
      · refine g_tableOut C dL_law_33 (Or.inr (by decide)) (tgt := 456) (by decide) ?_
        have I2 := I
        refine g_iinc (o := 0) (v := nI (i + 6)) (lv' := [(3, .int (nI (i + 6))), (2, .ref (b 0)), (1, .ref (a 0)), (0, .ref bs)]) C dL_law_456 rfl (nI_add i 6) (by decide) rfl ?_
        refine g_goto C dL_law_459 (tgt := 18) (by decide) ?_
        exact ih (i + 6) _ _ _ _ _ _ _ _ _ _ _ _ _ _ _ _ (by omega) (by omega) I2
