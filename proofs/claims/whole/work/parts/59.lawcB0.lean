set_option maxHeartbeats 4000000 in
set_option maxRecDepth 100000 in
theorem lc_choice {p : Program} {l : Launch} {e : Env} {s : State} {m : MethodId} {below : List Frame} {meth : Method} {c : Code} {b L : Nat} {xs : Nat → Int32} {D : va_G} {cl : List vw_C} {kl : ClassId} {ck ka : Nat → ClassId} {H : Heap} {locs : List Loc} {cells slots : Nat} {Q : State → Prop} {ls : Array Slot} {oa ca ba : Nat → Nat} {bo a : Nat} {fo : Nat → Int64} {F E : Nat → Int32} {G K : Nat → Nat → Int32} {i : Nat} (S0 : lwS p l s m c b L xs D cl kl ck ka) (hL : L ≤ 3585) (hi : i + 7 ≤ L) (hR : cX F G E K) (hP : va_P D cl (lW bo kl fo oa ca ck F G ++ mW a ba ka E K) H) (hD : va_D (fun q : Nat => s.heap.size ≤ q) (lW bo kl fo oa ca ck F G ++ mW a ba ka E K)) (hS : va_S (fun q : Nat => s.heap.size ≤ q) s.heap H locs) (hl : lv_has ls 8 (lvI bo a b i (oa 0))) (hc1 : cells + 1 ≤ 1090) (hs1 : slots + 6 ≤ 60551) (kk : (∀ (fo : Nat → Int64) (F : Nat → Int32) (G : Nat → Nat → Int32) (E : Nat → Int32) (K : Nat → Nat → Int32) (H : Heap) (locs : List Loc) (ls : Array Slot), cX F G E K → va_P D cl (lW bo kl fo oa ca ck F G ++ mW a ba ka E K) H → va_D (fun q : Nat => s.heap.size ≤ q) (lW bo kl fo oa ca ck F G ++ mW a ba ka E K) → va_S (fun q : Nat => s.heap.size ≤ q) s.heap H locs → lv_has ls 8 (lvI bo a b i (oa 0)) → W p l e room_1 s m #[Value.ref b] below meth c H locs (cells + 1) (slots + 6) Q (F0 m 1358 ls []))) : W p l e room_1 s m #[Value.ref b] below meth c H locs cells slots Q (F0 m 144 ls []) := by
  obtain ⟨hx, hb, hml, hown, hts, hX, hbl, hlt, hZ, hck, hcm, hKl, hKm⟩ := id S0
  obtain ⟨nC, nT, nR, nD, sz, pl, h⟩ := hR
  obtain ⟨h2, hC, h3, hT, h4, hR, h5, hN, h6, h8, h10, h13, h15, h17, h27, h24, hpl, hmp6⟩ := cR_ref h
  obtain ⟨k0, k1, k2, k3, k4, hsz, k13, s0, s1, hmp, mA, mB, mQ, mQT, z8, z11, hD1⟩ := cR_cls h
  have hR9 := R_choice h (xs (i + 1))
  refine lv_aload_n hx hb dK_144 rfl (lv_at hl 3 rfl) ?_
  obtain ⟨r1, r2, r3⟩ := hR9
  have x0 : (if mrx_X_choice nC nD (xs (i + 1)) = 0 then 0 else if mrx_X_choice nC nD (xs (i + 1)) = 2 then 1 else 2 : Int32) = 0 → mrx_X_choice nC nD (xs (i + 1)) = 0 := fun h9 => by
    by_cases c9 : mrx_X_choice nC nD (xs (i + 1)) = 0
    · exact c9
    · exfalso
      rw [if_neg c9] at h9
      by_cases c2 : mrx_X_choice nC nD (xs (i + 1)) = 2
      · rw [if_pos c2] at h9; exact absurd h9 (by decide)
      rw [if_neg c2] at h9
      exact absurd h9 (by decide)
  have hv : (if mrx_X_choice nC nD (xs (i + 1)) = 0 then 0 else if mrx_X_choice nC nD (xs (i + 1)) = 2 then 1 else 2 : Int32) = 0 → (if mrx_X_choice nC nD (xs (i + 1)) = 0 then vp_updL fo 0 (((mr_X_choice (F 0) (F 1) (F 5) (F 13) (F 14) (G 0) (G 1) (G 10) (G 11) nC nD (xs (i + 1))).1).toInt64) else fo) 0 = ((mr_M_choice (E 2) (E 5) (E 24) (E 25) (E 26) (K 6) nC (xs (i + 1))).1).toInt64 := fun h9 => by
    rw [if_pos (x0 h9), pk_uLs, r2 (x0 h9)]
  have hk : (upd (upd (upd (upd (upd (upd E 0 ((mr_M_choice (E 2) (E 5) (E 24) (E 25) (E 26) (K 6) nC (xs (i + 1))).2.1)) 2 ((mr_M_choice (E 2) (E 5) (E 24) (E 25) (E 26) (K 6) nC (xs (i + 1))).2.2.1)) 5 ((mr_M_choice (E 2) (E 5) (E 24) (E 25) (E 26) (K 6) nC (xs (i + 1))).2.2.2.1)) 24 ((mr_M_choice (E 2) (E 5) (E 24) (E 25) (E 26) (K 6) nC (xs (i + 1))).2.2.2.2.1)) 25 ((mr_M_choice (E 2) (E 5) (E 24) (E 25) (E 26) (K 6) nC (xs (i + 1))).2.2.2.2.2.1)) 26 ((mr_M_choice (E 2) (E 5) (E 24) (E 25) (E 26) (K 6) nC (xs (i + 1))).2.2.2.2.2.2.1)) 0 = (if mrx_X_choice nC nD (xs (i + 1)) = 0 then 0 else if mrx_X_choice nC nD (xs (i + 1)) = 2 then 1 else 2 : Int32) := by
    simp (config := { decide := true }) only [upd_if, ↓reduceIte]
    exact r1
  refine ld_arg S0 (k := 1) hL (by omega) hS (lv_at hl 4 rfl) (lv_at hl 0 rfl) (by decide) dK_145 dK_146 dK_148 dK_149 dK_150 ?_
  refine lv_aload_n hx hb dK_151 rfl (lv_at hl 1 rfl) ?_
  refine lw_call (n := 3) (w := lW bo kl fo oa ca ck F G) (rest := []) S0 (w_choice l hlt s hZ D cl hck oa ca ck F G bo kl fo (ap_P_l hP) (ap_T (ap_D_l hD)) hS.1 (fun q hq => hS.2.1 q hq (Nat.not_le.mpr hq)) (fun q hq h9 => absurd (ap_in_l hD hS (fun _ h => h) q h9) (Nat.not_le.mpr hq)) nC nD (xs (i + 1)) k0 hC k1 hN z11) rfl rfl (Nat.le_of_ble_eq_true rfl) (Nat.le_of_ble_eq_true rfl) gLw_choice rfl (by decide +kernel) rfl hl.1 rfl (Nat.zero_le _) dK_152 hc1 hs1 hP hD hS (fun H locs hP hD hS => ?_)
  refine lv_istore (lv' := (5, .int (if mrx_X_choice nC nD (xs (i + 1)) = 0 then 0 else if mrx_X_choice nC nD (xs (i + 1)) = 2 then 1 else 2 : Int32)) :: lvI bo a b i (oa 0)) hx hb dK_155 hl (by decide) rfl (fun ls hl => ?_)
  refine lv_aload_n hx hb dK_157 rfl (lv_at hl 3 rfl) ?_
  refine ld_arg S0 (k := 1) hL (by omega) hS (lv_at hl 5 rfl) (lv_at hl 1 rfl) (by decide) dK_158 dK_159 dK_161 dK_162 dK_163 ?_
  refine lm_call (As := [.int (xs (i + 1))]) (rest := []) S0 (c_M_choice l D cl hcm a ba ka E K (ap_P_r hP) (ap_T (ap_D_r hD)) nC (xs (i + 1)) h2 hC) (cwV 1 hts gLm_choice rfl rfl rfl (by decide +kernel) ⟨Nat.le_of_ble_eq_true rfl, Nat.le_of_ble_eq_true rfl⟩) hKm (va_recv hKm (ap_P_r hP) (ci := 0) (q0 := 0) hcm rfl) rfl hl.1 rfl (Nat.zero_le _) dK_164 hc1 hs1 hP hD hS (fun H locs hP hD hS => ?_)
  exact tail_I (q := 167) S0 hP hl hk hv dK_167 dK_169 dK_170 dK_173 dK_175 dK_180 dK_182 dK_185 dK_186 dK_187 dK_188 dK_190 dK_191 dK_192 dK_197 (by decide) hc1 hs1 (fun ls hl => kk _ _ _ _ _ H locs ls r3 hP hD hS hl)
set_option maxHeartbeats 4000000 in
set_option maxRecDepth 100000 in
theorem lc_term {p : Program} {l : Launch} {e : Env} {s : State} {m : MethodId} {below : List Frame} {meth : Method} {c : Code} {b L : Nat} {xs : Nat → Int32} {D : va_G} {cl : List vw_C} {kl : ClassId} {ck ka : Nat → ClassId} {H : Heap} {locs : List Loc} {cells slots : Nat} {Q : State → Prop} {ls : Array Slot} {oa ca ba : Nat → Nat} {bo a : Nat} {fo : Nat → Int64} {F E : Nat → Int32} {G K : Nat → Nat → Int32} {i : Nat} (S0 : lwS p l s m c b L xs D cl kl ck ka) (hL : L ≤ 3585) (hi : i + 7 ≤ L) (hR : cX F G E K) (hP : va_P D cl (lW bo kl fo oa ca ck F G ++ mW a ba ka E K) H) (hD : va_D (fun q : Nat => s.heap.size ≤ q) (lW bo kl fo oa ca ck F G ++ mW a ba ka E K)) (hS : va_S (fun q : Nat => s.heap.size ≤ q) s.heap H locs) (hl : lv_has ls 8 (lvI bo a b i (oa 0))) (hc1 : cells + 1 ≤ 1090) (hs1 : slots + 6 ≤ 60551) (kk : (∀ (fo : Nat → Int64) (F : Nat → Int32) (G : Nat → Nat → Int32) (E : Nat → Int32) (K : Nat → Nat → Int32) (H : Heap) (locs : List Loc) (ls : Array Slot), cX F G E K → va_P D cl (lW bo kl fo oa ca ck F G ++ mW a ba ka E K) H → va_D (fun q : Nat => s.heap.size ≤ q) (lW bo kl fo oa ca ck F G ++ mW a ba ka E K) → va_S (fun q : Nat => s.heap.size ≤ q) s.heap H locs → lv_has ls 8 (lvI bo a b i (oa 0)) → W p l e room_1 s m #[Value.ref b] below meth c H locs (cells + 1) (slots + 6) Q (F0 m 1358 ls []))) : W p l e room_1 s m #[Value.ref b] below meth c H locs cells slots Q (F0 m 200 ls []) := by
  obtain ⟨hx, hb, hml, hown, hts, hX, hbl, hlt, hZ, hck, hcm, hKl, hKm⟩ := id S0
  obtain ⟨nC, nT, nR, nD, sz, pl, h⟩ := hR
  obtain ⟨h2, hC, h3, hT, h4, hR, h5, hN, h6, h8, h10, h13, h15, h17, h27, h24, hpl, hmp6⟩ := cR_ref h
  obtain ⟨k0, k1, k2, k3, k4, hsz, k13, s0, s1, hmp, mA, mB, mQ, mQT, z8, z11, hD1⟩ := cR_cls h
  have hR9 := R_term h (xs (i + 1)) (xs (i + 2)) (xs (i + 3)) (xs (i + 4)) (xs (i + 5)) (xs (i + 6))
  refine lv_aload_n hx hb dK_200 rfl (lv_at hl 3 rfl) ?_
  obtain ⟨r1, r2, r3⟩ := hR9
  have x0 : (if mrx_X_term (G 0) nC nD nT (xs (i + 1)) (xs (i + 2)) (xs (i + 3)) (xs (i + 4)) (xs (i + 5)) (xs (i + 6)) = 0 then 0 else if mrx_X_term (G 0) nC nD nT (xs (i + 1)) (xs (i + 2)) (xs (i + 3)) (xs (i + 4)) (xs (i + 5)) (xs (i + 6)) = 1 then 1 else if mrx_X_term (G 0) nC nD nT (xs (i + 1)) (xs (i + 2)) (xs (i + 3)) (xs (i + 4)) (xs (i + 5)) (xs (i + 6)) = 2 then 2 else 3 : Int32) = 0 → mrx_X_term (G 0) nC nD nT (xs (i + 1)) (xs (i + 2)) (xs (i + 3)) (xs (i + 4)) (xs (i + 5)) (xs (i + 6)) = 0 := fun h9 => by
    by_cases c9 : mrx_X_term (G 0) nC nD nT (xs (i + 1)) (xs (i + 2)) (xs (i + 3)) (xs (i + 4)) (xs (i + 5)) (xs (i + 6)) = 0
    · exact c9
    · exfalso
      rw [if_neg c9] at h9
      by_cases c1 : mrx_X_term (G 0) nC nD nT (xs (i + 1)) (xs (i + 2)) (xs (i + 3)) (xs (i + 4)) (xs (i + 5)) (xs (i + 6)) = 1
      · rw [if_pos c1] at h9; exact absurd h9 (by decide)
      rw [if_neg c1] at h9
      by_cases c2 : mrx_X_term (G 0) nC nD nT (xs (i + 1)) (xs (i + 2)) (xs (i + 3)) (xs (i + 4)) (xs (i + 5)) (xs (i + 6)) = 2
      · rw [if_pos c2] at h9; exact absurd h9 (by decide)
      rw [if_neg c2] at h9
      exact absurd h9 (by decide)
  have hv : (if mrx_X_term (G 0) nC nD nT (xs (i + 1)) (xs (i + 2)) (xs (i + 3)) (xs (i + 4)) (xs (i + 5)) (xs (i + 6)) = 0 then 0 else if mrx_X_term (G 0) nC nD nT (xs (i + 1)) (xs (i + 2)) (xs (i + 3)) (xs (i + 4)) (xs (i + 5)) (xs (i + 6)) = 1 then 1 else if mrx_X_term (G 0) nC nD nT (xs (i + 1)) (xs (i + 2)) (xs (i + 3)) (xs (i + 4)) (xs (i + 5)) (xs (i + 6)) = 2 then 2 else 3 : Int32) = 0 → (if mrx_X_term (G 0) nC nD nT (xs (i + 1)) (xs (i + 2)) (xs (i + 3)) (xs (i + 4)) (xs (i + 5)) (xs (i + 6)) = 0 then vp_updL fo 0 (((mr_X_term (F 2) (F 5) (G 0) (G 1) (G 2) (G 3) (G 4) (G 5) (G 6) (G 7) (G 10) nC nD nT (xs (i + 1)) (xs (i + 2)) (xs (i + 3)) (xs (i + 4)) (xs (i + 5)) (xs (i + 6))).1).toInt64) else fo) 0 = ((mr_M_term (E 3) (E 26) (K 6) (K 7) (K 8) (K 9) (K 10) (K 11) (K 12) nC nT (xs (i + 1)) (xs (i + 2)) (xs (i + 3)) (xs (i + 4)) (xs (i + 5)) (xs (i + 6))).1).toInt64 := fun h9 => by
    rw [if_pos (x0 h9), pk_uLs, r2 (x0 h9)]
  have hk : (upd (upd (upd E 0 ((mr_M_term (E 3) (E 26) (K 6) (K 7) (K 8) (K 9) (K 10) (K 11) (K 12) nC nT (xs (i + 1)) (xs (i + 2)) (xs (i + 3)) (xs (i + 4)) (xs (i + 5)) (xs (i + 6))).2.1)) 3 ((mr_M_term (E 3) (E 26) (K 6) (K 7) (K 8) (K 9) (K 10) (K 11) (K 12) nC nT (xs (i + 1)) (xs (i + 2)) (xs (i + 3)) (xs (i + 4)) (xs (i + 5)) (xs (i + 6))).2.2.1)) 26 ((mr_M_term (E 3) (E 26) (K 6) (K 7) (K 8) (K 9) (K 10) (K 11) (K 12) nC nT (xs (i + 1)) (xs (i + 2)) (xs (i + 3)) (xs (i + 4)) (xs (i + 5)) (xs (i + 6))).2.2.2.1)) 0 = (if mrx_X_term (G 0) nC nD nT (xs (i + 1)) (xs (i + 2)) (xs (i + 3)) (xs (i + 4)) (xs (i + 5)) (xs (i + 6)) = 0 then 0 else if mrx_X_term (G 0) nC nD nT (xs (i + 1)) (xs (i + 2)) (xs (i + 3)) (xs (i + 4)) (xs (i + 5)) (xs (i + 6)) = 1 then 1 else if mrx_X_term (G 0) nC nD nT (xs (i + 1)) (xs (i + 2)) (xs (i + 3)) (xs (i + 4)) (xs (i + 5)) (xs (i + 6)) = 2 then 2 else 3 : Int32) := by
    simp (config := { decide := true }) only [upd_if, ↓reduceIte]
    exact r1
  refine ld_arg S0 (k := 1) hL (by omega) hS (lv_at hl 4 rfl) (lv_at hl 0 rfl) (by decide) dK_201 dK_202 dK_204 dK_205 dK_206 ?_
  refine ld_arg S0 (k := 2) hL (by omega) hS (lv_at hl 4 rfl) (lv_at hl 0 rfl) (by decide) dK_207 dK_208 dK_210 dK_211 dK_212 ?_
  refine ld_arg S0 (k := 3) hL (by omega) hS (lv_at hl 4 rfl) (lv_at hl 0 rfl) (by decide) dK_213 dK_214 dK_216 dK_217 dK_218 ?_
  refine ld_arg S0 (k := 4) hL (by omega) hS (lv_at hl 4 rfl) (lv_at hl 0 rfl) (by decide) dK_219 dK_220 dK_222 dK_223 dK_224 ?_
  refine ld_arg S0 (k := 5) hL (by omega) hS (lv_at hl 4 rfl) (lv_at hl 0 rfl) (by decide) dK_225 dK_226 dK_228 dK_229 dK_230 ?_
  refine ld_arg6 S0 (k := 6) hL (by omega) hS (lv_at hl 4 rfl) (lv_at hl 0 rfl) (by decide) dK_231 dK_232 dK_234 dK_236 dK_237 ?_
  refine lv_aload_n hx hb dK_238 rfl (lv_at hl 1 rfl) ?_
  refine lw_call (n := 8) (w := lW bo kl fo oa ca ck F G) (rest := []) S0 (w_term l hlt s hZ D cl hck oa ca ck F G bo kl fo (ap_P_l hP) (ap_T (ap_D_l hD)) hS.1 (fun q hq => hS.2.1 q hq (Nat.not_le.mpr hq)) (fun q hq h9 => absurd (ap_in_l hD hS (fun _ h => h) q h9) (Nat.not_le.mpr hq)) nC nD nT (xs (i + 1)) (xs (i + 2)) (xs (i + 3)) (xs (i + 4)) (xs (i + 5)) (xs (i + 6)) k0 hC k1 hN k2 hT mQT) rfl rfl (Nat.le_of_ble_eq_true rfl) (Nat.le_of_ble_eq_true rfl) gLw_term rfl (by decide +kernel) rfl hl.1 rfl (Nat.zero_le _) dK_239 hc1 hs1 hP hD hS (fun H locs hP hD hS => ?_)
  refine lv_istore (lv' := (5, .int (if mrx_X_term (G 0) nC nD nT (xs (i + 1)) (xs (i + 2)) (xs (i + 3)) (xs (i + 4)) (xs (i + 5)) (xs (i + 6)) = 0 then 0 else if mrx_X_term (G 0) nC nD nT (xs (i + 1)) (xs (i + 2)) (xs (i + 3)) (xs (i + 4)) (xs (i + 5)) (xs (i + 6)) = 1 then 1 else if mrx_X_term (G 0) nC nD nT (xs (i + 1)) (xs (i + 2)) (xs (i + 3)) (xs (i + 4)) (xs (i + 5)) (xs (i + 6)) = 2 then 2 else 3 : Int32)) :: lvI bo a b i (oa 0)) hx hb dK_242 hl (by decide) rfl (fun ls hl => ?_)
  refine lv_aload_n hx hb dK_244 rfl (lv_at hl 3 rfl) ?_
  refine ld_arg S0 (k := 1) hL (by omega) hS (lv_at hl 5 rfl) (lv_at hl 1 rfl) (by decide) dK_245 dK_246 dK_248 dK_249 dK_250 ?_
  refine ld_arg S0 (k := 2) hL (by omega) hS (lv_at hl 5 rfl) (lv_at hl 1 rfl) (by decide) dK_251 dK_252 dK_254 dK_255 dK_256 ?_
  refine ld_arg S0 (k := 3) hL (by omega) hS (lv_at hl 5 rfl) (lv_at hl 1 rfl) (by decide) dK_257 dK_258 dK_260 dK_261 dK_262 ?_
  refine ld_arg S0 (k := 4) hL (by omega) hS (lv_at hl 5 rfl) (lv_at hl 1 rfl) (by decide) dK_263 dK_264 dK_266 dK_267 dK_268 ?_
  refine ld_arg S0 (k := 5) hL (by omega) hS (lv_at hl 5 rfl) (lv_at hl 1 rfl) (by decide) dK_269 dK_270 dK_272 dK_273 dK_274 ?_
  refine ld_arg6 S0 (k := 6) hL (by omega) hS (lv_at hl 5 rfl) (lv_at hl 1 rfl) (by decide) dK_275 dK_276 dK_278 dK_280 dK_281 ?_
  refine lm_call (As := [.int (xs (i + 1)), .int (xs (i + 2)), .int (xs (i + 3)), .int (xs (i + 4)), .int (xs (i + 5)), .int (xs (i + 6))]) (rest := []) S0 (c_M_term l D cl hcm a ba ka E K (ap_P_r hP) (ap_T (ap_D_r hD)) nC nT (xs (i + 1)) (xs (i + 2)) (xs (i + 3)) (xs (i + 4)) (xs (i + 5)) (xs (i + 6)) h2 hC h3 hT) (cwV 6 hts gLm_term rfl rfl rfl (by decide +kernel) ⟨Nat.le_of_ble_eq_true rfl, Nat.le_of_ble_eq_true rfl⟩) hKm (va_recv hKm (ap_P_r hP) (ci := 0) (q0 := 0) hcm rfl) rfl hl.1 rfl (Nat.zero_le _) dK_282 hc1 hs1 hP hD hS (fun H locs hP hD hS => ?_)
  exact tail_I (q := 285) S0 hP hl hk hv dK_285 dK_287 dK_288 dK_291 dK_293 dK_298 dK_300 dK_303 dK_304 dK_305 dK_306 dK_308 dK_309 dK_310 dK_315 (by decide) hc1 hs1 (fun ls hl => kk _ _ _ _ _ H locs ls r3 hP hD hS hl)
set_option maxHeartbeats 4000000 in
set_option maxRecDepth 100000 in
theorem lc_rule {p : Program} {l : Launch} {e : Env} {s : State} {m : MethodId} {below : List Frame} {meth : Method} {c : Code} {b L : Nat} {xs : Nat → Int32} {D : va_G} {cl : List vw_C} {kl : ClassId} {ck ka : Nat → ClassId} {H : Heap} {locs : List Loc} {cells slots : Nat} {Q : State → Prop} {ls : Array Slot} {oa ca ba : Nat → Nat} {bo a : Nat} {fo : Nat → Int64} {F E : Nat → Int32} {G K : Nat → Nat → Int32} {i : Nat} (S0 : lwS p l s m c b L xs D cl kl ck ka) (hL : L ≤ 3585) (hi : i + 7 ≤ L) (hR : cX F G E K) (hP : va_P D cl (lW bo kl fo oa ca ck F G ++ mW a ba ka E K) H) (hD : va_D (fun q : Nat => s.heap.size ≤ q) (lW bo kl fo oa ca ck F G ++ mW a ba ka E K)) (hS : va_S (fun q : Nat => s.heap.size ≤ q) s.heap H locs) (hl : lv_has ls 8 (lvI bo a b i (oa 0))) (hc1 : cells + 1 ≤ 1090) (hs1 : slots + 6 ≤ 60551) (kk : (∀ (fo : Nat → Int64) (F : Nat → Int32) (G : Nat → Nat → Int32) (E : Nat → Int32) (K : Nat → Nat → Int32) (H : Heap) (locs : List Loc) (ls : Array Slot), cX F G E K → va_P D cl (lW bo kl fo oa ca ck F G ++ mW a ba ka E K) H → va_D (fun q : Nat => s.heap.size ≤ q) (lW bo kl fo oa ca ck F G ++ mW a ba ka E K) → va_S (fun q : Nat => s.heap.size ≤ q) s.heap H locs → lv_has ls 8 (lvI bo a b i (oa 0)) → W p l e room_1 s m #[Value.ref b] below meth c H locs (cells + 1) (slots + 6) Q (F0 m 1358 ls []))) : W p l e room_1 s m #[Value.ref b] below meth c H locs cells slots Q (F0 m 318 ls []) := by
  obtain ⟨hx, hb, hml, hown, hts, hX, hbl, hlt, hZ, hck, hcm, hKl, hKm⟩ := id S0
  obtain ⟨nC, nT, nR, nD, sz, pl, h⟩ := hR
  obtain ⟨h2, hC, h3, hT, h4, hR, h5, hN, h6, h8, h10, h13, h15, h17, h27, h24, hpl, hmp6⟩ := cR_ref h
  obtain ⟨k0, k1, k2, k3, k4, hsz, k13, s0, s1, hmp, mA, mB, mQ, mQT, z8, z11, hD1⟩ := cR_cls h
  have hR9 := R_rule h (xs (i + 1)) (xs (i + 2)) (xs (i + 3)) (xs (i + 4))
  refine lv_aload_n hx hb dK_318 rfl (lv_at hl 3 rfl) ?_
  obtain ⟨r1, r2, r3⟩ := hR9
  have x0 : (if mrx_X_rule (G 0) nC nD nR (xs (i + 1)) (xs (i + 2)) (xs (i + 3)) (xs (i + 4)) = 0 then 0 else if mrx_X_rule (G 0) nC nD nR (xs (i + 1)) (xs (i + 2)) (xs (i + 3)) (xs (i + 4)) = 1 then 1 else if mrx_X_rule (G 0) nC nD nR (xs (i + 1)) (xs (i + 2)) (xs (i + 3)) (xs (i + 4)) = 2 then 2 else 3 : Int32) = 0 → mrx_X_rule (G 0) nC nD nR (xs (i + 1)) (xs (i + 2)) (xs (i + 3)) (xs (i + 4)) = 0 := fun h9 => by
    by_cases c9 : mrx_X_rule (G 0) nC nD nR (xs (i + 1)) (xs (i + 2)) (xs (i + 3)) (xs (i + 4)) = 0
    · exact c9
    · exfalso
      rw [if_neg c9] at h9
      by_cases c1 : mrx_X_rule (G 0) nC nD nR (xs (i + 1)) (xs (i + 2)) (xs (i + 3)) (xs (i + 4)) = 1
      · rw [if_pos c1] at h9; exact absurd h9 (by decide)
      rw [if_neg c1] at h9
      by_cases c2 : mrx_X_rule (G 0) nC nD nR (xs (i + 1)) (xs (i + 2)) (xs (i + 3)) (xs (i + 4)) = 2
      · rw [if_pos c2] at h9; exact absurd h9 (by decide)
      rw [if_neg c2] at h9
      exact absurd h9 (by decide)
  have hv : (if mrx_X_rule (G 0) nC nD nR (xs (i + 1)) (xs (i + 2)) (xs (i + 3)) (xs (i + 4)) = 0 then 0 else if mrx_X_rule (G 0) nC nD nR (xs (i + 1)) (xs (i + 2)) (xs (i + 3)) (xs (i + 4)) = 1 then 1 else if mrx_X_rule (G 0) nC nD nR (xs (i + 1)) (xs (i + 2)) (xs (i + 3)) (xs (i + 4)) = 2 then 2 else 3 : Int32) = 0 → (if mrx_X_rule (G 0) nC nD nR (xs (i + 1)) (xs (i + 2)) (xs (i + 3)) (xs (i + 4)) = 0 then vp_updL fo 0 (((mr_X_rule (F 3) (F 5) (G 0) (G 1) (G 2) (G 3) (G 4) (G 5) (G 11) nC nD nR (xs (i + 1)) (xs (i + 2)) (xs (i + 3)) (xs (i + 4))).1).toInt64) else fo) 0 = ((mr_M_rule (E 4) (E 26) (K 6) (K 13) (K 14) (K 15) (K 16) nC nR (xs (i + 1)) (xs (i + 2)) (xs (i + 3)) (xs (i + 4))).1).toInt64 := fun h9 => by
    rw [if_pos (x0 h9), pk_uLs, r2 (x0 h9)]
  have hk : (upd (upd (upd E 0 ((mr_M_rule (E 4) (E 26) (K 6) (K 13) (K 14) (K 15) (K 16) nC nR (xs (i + 1)) (xs (i + 2)) (xs (i + 3)) (xs (i + 4))).2.1)) 4 ((mr_M_rule (E 4) (E 26) (K 6) (K 13) (K 14) (K 15) (K 16) nC nR (xs (i + 1)) (xs (i + 2)) (xs (i + 3)) (xs (i + 4))).2.2.1)) 26 ((mr_M_rule (E 4) (E 26) (K 6) (K 13) (K 14) (K 15) (K 16) nC nR (xs (i + 1)) (xs (i + 2)) (xs (i + 3)) (xs (i + 4))).2.2.2.1)) 0 = (if mrx_X_rule (G 0) nC nD nR (xs (i + 1)) (xs (i + 2)) (xs (i + 3)) (xs (i + 4)) = 0 then 0 else if mrx_X_rule (G 0) nC nD nR (xs (i + 1)) (xs (i + 2)) (xs (i + 3)) (xs (i + 4)) = 1 then 1 else if mrx_X_rule (G 0) nC nD nR (xs (i + 1)) (xs (i + 2)) (xs (i + 3)) (xs (i + 4)) = 2 then 2 else 3 : Int32) := by
    simp (config := { decide := true }) only [upd_if, ↓reduceIte]
    exact r1
  refine ld_arg S0 (k := 1) hL (by omega) hS (lv_at hl 4 rfl) (lv_at hl 0 rfl) (by decide) dK_319 dK_320 dK_322 dK_323 dK_324 ?_
  refine ld_arg S0 (k := 2) hL (by omega) hS (lv_at hl 4 rfl) (lv_at hl 0 rfl) (by decide) dK_325 dK_326 dK_328 dK_329 dK_330 ?_
  refine ld_arg S0 (k := 3) hL (by omega) hS (lv_at hl 4 rfl) (lv_at hl 0 rfl) (by decide) dK_331 dK_332 dK_334 dK_335 dK_336 ?_
  refine ld_arg S0 (k := 4) hL (by omega) hS (lv_at hl 4 rfl) (lv_at hl 0 rfl) (by decide) dK_337 dK_338 dK_340 dK_341 dK_342 ?_
  refine lv_aload_n hx hb dK_343 rfl (lv_at hl 1 rfl) ?_
  refine lw_call (n := 6) (w := lW bo kl fo oa ca ck F G) (rest := []) S0 (w_rule l hlt s hZ D cl hck oa ca ck F G bo kl fo (ap_P_l hP) (ap_T (ap_D_l hD)) hS.1 (fun q hq => hS.2.1 q hq (Nat.not_le.mpr hq)) (fun q hq h9 => absurd (ap_in_l hD hS (fun _ h => h) q h9) (Nat.not_le.mpr hq)) nC nD nR (xs (i + 1)) (xs (i + 2)) (xs (i + 3)) (xs (i + 4)) k0 hC k1 hN k3 hR) rfl rfl (Nat.le_of_ble_eq_true rfl) (Nat.le_of_ble_eq_true rfl) gLw_rule rfl (by decide +kernel) rfl hl.1 rfl (Nat.zero_le _) dK_344 hc1 hs1 hP hD hS (fun H locs hP hD hS => ?_)
  refine lv_istore (lv' := (5, .int (if mrx_X_rule (G 0) nC nD nR (xs (i + 1)) (xs (i + 2)) (xs (i + 3)) (xs (i + 4)) = 0 then 0 else if mrx_X_rule (G 0) nC nD nR (xs (i + 1)) (xs (i + 2)) (xs (i + 3)) (xs (i + 4)) = 1 then 1 else if mrx_X_rule (G 0) nC nD nR (xs (i + 1)) (xs (i + 2)) (xs (i + 3)) (xs (i + 4)) = 2 then 2 else 3 : Int32)) :: lvI bo a b i (oa 0)) hx hb dK_347 hl (by decide) rfl (fun ls hl => ?_)
  refine lv_aload_n hx hb dK_349 rfl (lv_at hl 3 rfl) ?_
  refine ld_arg S0 (k := 1) hL (by omega) hS (lv_at hl 5 rfl) (lv_at hl 1 rfl) (by decide) dK_350 dK_351 dK_353 dK_354 dK_355 ?_
  refine ld_arg S0 (k := 2) hL (by omega) hS (lv_at hl 5 rfl) (lv_at hl 1 rfl) (by decide) dK_356 dK_357 dK_359 dK_360 dK_361 ?_
  refine ld_arg S0 (k := 3) hL (by omega) hS (lv_at hl 5 rfl) (lv_at hl 1 rfl) (by decide) dK_362 dK_363 dK_365 dK_366 dK_367 ?_
  refine ld_arg S0 (k := 4) hL (by omega) hS (lv_at hl 5 rfl) (lv_at hl 1 rfl) (by decide) dK_368 dK_369 dK_371 dK_372 dK_373 ?_
  refine lm_call (As := [.int (xs (i + 1)), .int (xs (i + 2)), .int (xs (i + 3)), .int (xs (i + 4))]) (rest := []) S0 (c_M_rule l D cl hcm a ba ka E K (ap_P_r hP) (ap_T (ap_D_r hD)) nC nR (xs (i + 1)) (xs (i + 2)) (xs (i + 3)) (xs (i + 4)) h2 hC h4 hR) (cwV 4 hts gLm_rule rfl rfl rfl (by decide +kernel) ⟨Nat.le_of_ble_eq_true rfl, Nat.le_of_ble_eq_true rfl⟩) hKm (va_recv hKm (ap_P_r hP) (ci := 0) (q0 := 0) hcm rfl) rfl hl.1 rfl (Nat.zero_le _) dK_374 hc1 hs1 hP hD hS (fun H locs hP hD hS => ?_)
  exact tail_I (q := 377) S0 hP hl hk hv dK_377 dK_379 dK_380 dK_383 dK_385 dK_390 dK_392 dK_395 dK_396 dK_397 dK_398 dK_400 dK_401 dK_402 dK_407 (by decide) hc1 hs1 (fun ls hl => kk _ _ _ _ _ H locs ls r3 hP hD hS hl)
set_option maxHeartbeats 4000000 in
set_option maxRecDepth 100000 in
theorem lc_limit {p : Program} {l : Launch} {e : Env} {s : State} {m : MethodId} {below : List Frame} {meth : Method} {c : Code} {b L : Nat} {xs : Nat → Int32} {D : va_G} {cl : List vw_C} {kl : ClassId} {ck ka : Nat → ClassId} {H : Heap} {locs : List Loc} {cells slots : Nat} {Q : State → Prop} {ls : Array Slot} {oa ca ba : Nat → Nat} {bo a : Nat} {fo : Nat → Int64} {F E : Nat → Int32} {G K : Nat → Nat → Int32} {i : Nat} (S0 : lwS p l s m c b L xs D cl kl ck ka) (hL : L ≤ 3585) (hi : i + 7 ≤ L) (hR : cX F G E K) (hP : va_P D cl (lW bo kl fo oa ca ck F G ++ mW a ba ka E K) H) (hD : va_D (fun q : Nat => s.heap.size ≤ q) (lW bo kl fo oa ca ck F G ++ mW a ba ka E K)) (hS : va_S (fun q : Nat => s.heap.size ≤ q) s.heap H locs) (hl : lv_has ls 8 (lvI bo a b i (oa 0))) (hc1 : cells + 1 ≤ 1090) (hs1 : slots + 6 ≤ 60551) (kk : (∀ (fo : Nat → Int64) (F : Nat → Int32) (G : Nat → Nat → Int32) (E : Nat → Int32) (K : Nat → Nat → Int32) (H : Heap) (locs : List Loc) (ls : Array Slot), cX F G E K → va_P D cl (lW bo kl fo oa ca ck F G ++ mW a ba ka E K) H → va_D (fun q : Nat => s.heap.size ≤ q) (lW bo kl fo oa ca ck F G ++ mW a ba ka E K) → va_S (fun q : Nat => s.heap.size ≤ q) s.heap H locs → lv_has ls 8 (lvI bo a b i (oa 0)) → W p l e room_1 s m #[Value.ref b] below meth c H locs (cells + 1) (slots + 6) Q (F0 m 1358 ls []))) : W p l e room_1 s m #[Value.ref b] below meth c H locs cells slots Q (F0 m 410 ls []) := by
  obtain ⟨hx, hb, hml, hown, hts, hX, hbl, hlt, hZ, hck, hcm, hKl, hKm⟩ := id S0
  obtain ⟨nC, nT, nR, nD, sz, pl, h⟩ := hR
  obtain ⟨h2, hC, h3, hT, h4, hR, h5, hN, h6, h8, h10, h13, h15, h17, h27, h24, hpl, hmp6⟩ := cR_ref h
  obtain ⟨k0, k1, k2, k3, k4, hsz, k13, s0, s1, hmp, mA, mB, mQ, mQT, z8, z11, hD1⟩ := cR_cls h
  have hon : (if xs (i + 2) = 0 then 0 else 1 : Int32) = 0 ∨ (if xs (i + 2) = 0 then 0 else 1 : Int32) = 1 := by
    by_cases h9 : xs (i + 2) = 0
    · rw [if_pos h9]; exact Or.inl rfl
    · rw [if_neg h9]; exact Or.inr rfl
  have honr : vp_nar .boolean (if xs (i + 2) = 0 then 0 else 1 : Int32) = (if xs (i + 2) = 0 then 0 else 1 : Int32) := by
    by_cases h9 : xs (i + 2) = 0
    · rw [if_pos h9]; rfl
    · rw [if_neg h9]; rfl
  have hR9 := R_limit h (xs (i + 1)) (if xs (i + 2) = 0 then 0 else 1) (xs (i + 3)) hon
  refine lv_aload_n hx hb dK_410 rfl (lv_at hl 3 rfl) ?_
  obtain ⟨r1, r2, r3⟩ := hR9
  have x0 : (if mrx_X_limit (xs (i + 1)) (if xs (i + 2) = 0 then 0 else 1) (xs (i + 3)) = 0 then 0 else 1 : Int32) = 0 → mrx_X_limit (xs (i + 1)) (if xs (i + 2) = 0 then 0 else 1) (xs (i + 3)) = 0 := fun h9 => by
    by_cases c9 : mrx_X_limit (xs (i + 1)) (if xs (i + 2) = 0 then 0 else 1) (xs (i + 3)) = 0
    · exact c9
    · exfalso
      rw [if_neg c9] at h9
      exact absurd h9 (by decide)
  have hv : (if mrx_X_limit (xs (i + 1)) (if xs (i + 2) = 0 then 0 else 1) (xs (i + 3)) = 0 then 0 else 1 : Int32) = 0 → (if mrx_X_limit (xs (i + 1)) (if xs (i + 2) = 0 then 0 else 1) (xs (i + 3)) = 0 then vp_updL fo 0 ((if (mr_X_limit (F 5) (G 8) (G 9) (xs (i + 1)) (if xs (i + 2) = 0 then 0 else 1) (xs (i + 3))).1 = 0 then 0 else 1 : Int64)) else fo) 0 = (if (mr_M_limit (E 26) (K 17) (K 18) (xs (i + 1)) (if xs (i + 2) = 0 then 0 else 1) (xs (i + 3))).1 = 0 then 0 else 1 : Int64) := fun h9 => by
    rw [if_pos (x0 h9), pk_uLs, r2 (x0 h9)]
  have hk : (upd (upd E 0 ((mr_M_limit (E 26) (K 17) (K 18) (xs (i + 1)) (if xs (i + 2) = 0 then 0 else 1) (xs (i + 3))).2.1)) 26 ((mr_M_limit (E 26) (K 17) (K 18) (xs (i + 1)) (if xs (i + 2) = 0 then 0 else 1) (xs (i + 3))).2.2.1)) 0 = (if mrx_X_limit (xs (i + 1)) (if xs (i + 2) = 0 then 0 else 1) (xs (i + 3)) = 0 then 0 else 1 : Int32) := by
    simp (config := { decide := true }) only [upd_if, ↓reduceIte]
    exact r1
  refine ld_arg S0 (k := 1) hL (by omega) hS (lv_at hl 4 rfl) (lv_at hl 0 rfl) (by decide) dK_411 dK_412 dK_414 dK_415 dK_416 ?_
  refine ld_bool S0 (k := 2) hL (by omega) hS (lv_at hl 4 rfl) (lv_at hl 0 rfl) (by decide) dK_417 dK_418 dK_420 dK_421 dK_422 dK_423 dK_426 dK_427 dK_430 ?_
  refine ld_arg S0 (k := 3) hL (by omega) hS (lv_at hl 4 rfl) (lv_at hl 0 rfl) (by decide) dK_431 dK_432 dK_434 dK_435 dK_436 ?_
  refine lv_aload_n hx hb dK_437 rfl (lv_at hl 1 rfl) ?_
  refine lw_call (n := 5) (w := lW bo kl fo oa ca ck F G) (rest := []) S0 (w_limit l hlt s hZ D cl hck oa ca ck F G bo kl fo (ap_P_l hP) (ap_T (ap_D_l hD)) hS.1 (fun q hq => hS.2.1 q hq (Nat.not_le.mpr hq)) (fun q hq h9 => absurd (ap_in_l hD hS (fun _ h => h) q h9) (Nat.not_le.mpr hq)) (xs (i + 1)) (if xs (i + 2) = 0 then 0 else 1) (xs (i + 3)) z8 hon) rfl rfl (Nat.le_of_ble_eq_true rfl) (Nat.le_of_ble_eq_true rfl) gLw_limit rfl (by decide +kernel) rfl hl.1 rfl (Nat.zero_le _) dK_438 hc1 hs1 hP hD hS (fun H locs hP hD hS => ?_)
  refine lv_istore (lv' := (5, .int (if mrx_X_limit (xs (i + 1)) (if xs (i + 2) = 0 then 0 else 1) (xs (i + 3)) = 0 then 0 else 1 : Int32)) :: lvI bo a b i (oa 0)) hx hb dK_441 hl (by decide) rfl (fun ls hl => ?_)
  refine lv_aload_n hx hb dK_443 rfl (lv_at hl 3 rfl) ?_
  refine ld_arg S0 (k := 1) hL (by omega) hS (lv_at hl 5 rfl) (lv_at hl 1 rfl) (by decide) dK_444 dK_445 dK_447 dK_448 dK_449 ?_
  refine ld_bool S0 (k := 2) hL (by omega) hS (lv_at hl 5 rfl) (lv_at hl 1 rfl) (by decide) dK_450 dK_451 dK_453 dK_454 dK_455 dK_456 dK_459 dK_460 dK_463 ?_
  refine ld_arg S0 (k := 3) hL (by omega) hS (lv_at hl 5 rfl) (lv_at hl 1 rfl) (by decide) dK_464 dK_465 dK_467 dK_468 dK_469 ?_
  refine lm_call (As := [.int (xs (i + 1)), .int (if xs (i + 2) = 0 then 0 else 1), .int (xs (i + 3))]) (rest := []) S0 (c_M_limit l D cl hcm a ba ka E K (ap_P_r hP) (ap_T (ap_D_r hD)) (xs (i + 1)) (if xs (i + 2) = 0 then 0 else 1) (xs (i + 3)) h17 honr) (cwV 3 hts gLm_limit rfl rfl rfl (by decide +kernel) ⟨Nat.le_of_ble_eq_true rfl, Nat.le_of_ble_eq_true rfl⟩) hKm (va_recv hKm (ap_P_r hP) (ci := 0) (q0 := 0) hcm rfl) rfl hl.1 rfl (Nat.zero_le _) dK_470 hc1 hs1 hP hD hS (fun H locs hP hD hS => ?_)
  exact tail_Z (q := 473) S0 hP hl hk hv dK_473 dK_475 dK_476 dK_479 dK_481 dK_486 dK_488 dK_491 dK_492 dK_493 dK_494 dK_496 dK_499 dK_500 dK_503 dK_504 dK_505 dK_510 (by decide) hc1 hs1 (fun ls hl => kk _ _ _ _ _ H locs ls r3 hP hD hS hl)
set_option maxHeartbeats 4000000 in
set_option maxRecDepth 100000 in
theorem lc_number {p : Program} {l : Launch} {e : Env} {s : State} {m : MethodId} {below : List Frame} {meth : Method} {c : Code} {b L : Nat} {xs : Nat → Int32} {D : va_G} {cl : List vw_C} {kl : ClassId} {ck ka : Nat → ClassId} {H : Heap} {locs : List Loc} {cells slots : Nat} {Q : State → Prop} {ls : Array Slot} {oa ca ba : Nat → Nat} {bo a : Nat} {fo : Nat → Int64} {F E : Nat → Int32} {G K : Nat → Nat → Int32} {i : Nat} (S0 : lwS p l s m c b L xs D cl kl ck ka) (hL : L ≤ 3585) (hi : i + 7 ≤ L) (hR : cX F G E K) (hP : va_P D cl (lW bo kl fo oa ca ck F G ++ mW a ba ka E K) H) (hD : va_D (fun q : Nat => s.heap.size ≤ q) (lW bo kl fo oa ca ck F G ++ mW a ba ka E K)) (hS : va_S (fun q : Nat => s.heap.size ≤ q) s.heap H locs) (hl : lv_has ls 8 (lvI bo a b i (oa 0))) (hc1 : cells + 1 ≤ 1090) (hs1 : slots + 6 ≤ 60551) (kk : (∀ (fo : Nat → Int64) (F : Nat → Int32) (G : Nat → Nat → Int32) (E : Nat → Int32) (K : Nat → Nat → Int32) (H : Heap) (locs : List Loc) (ls : Array Slot), cX F G E K → va_P D cl (lW bo kl fo oa ca ck F G ++ mW a ba ka E K) H → va_D (fun q : Nat => s.heap.size ≤ q) (lW bo kl fo oa ca ck F G ++ mW a ba ka E K) → va_S (fun q : Nat => s.heap.size ≤ q) s.heap H locs → lv_has ls 8 (lvI bo a b i (oa 0)) → W p l e room_1 s m #[Value.ref b] below meth c H locs (cells + 1) (slots + 6) Q (F0 m 1358 ls []))) : W p l e room_1 s m #[Value.ref b] below meth c H locs cells slots Q (F0 m 513 ls []) := by
  obtain ⟨hx, hb, hml, hown, hts, hX, hbl, hlt, hZ, hck, hcm, hKl, hKm⟩ := id S0
  obtain ⟨nC, nT, nR, nD, sz, pl, h⟩ := hR
  obtain ⟨h2, hC, h3, hT, h4, hR, h5, hN, h6, h8, h10, h13, h15, h17, h27, h24, hpl, hmp6⟩ := cR_ref h
  obtain ⟨k0, k1, k2, k3, k4, hsz, k13, s0, s1, hmp, mA, mB, mQ, mQT, z8, z11, hD1⟩ := cR_cls h
  have hR9 := R_number h (xs (i + 1)) (xs (i + 2))
  refine lv_aload_n hx hb dK_513 rfl (lv_at hl 3 rfl) ?_
  obtain ⟨r1, r2, r3⟩ := hR9
  have x0 : (if mrx_X_number nD (xs (i + 1)) (xs (i + 2)) = 0 then 0 else 1 : Int32) = 0 → mrx_X_number nD (xs (i + 1)) (xs (i + 2)) = 0 := fun h9 => by
    by_cases c9 : mrx_X_number nD (xs (i + 1)) (xs (i + 2)) = 0
    · exact c9
    · exfalso
      rw [if_neg c9] at h9
      exact absurd h9 (by decide)
  have hv : (if mrx_X_number nD (xs (i + 1)) (xs (i + 2)) = 0 then 0 else 1 : Int32) = 0 → (if mrx_X_number nD (xs (i + 1)) (xs (i + 2)) = 0 then vp_updL fo 0 (((mr_X_number (G 10) nD (xs (i + 1)) (xs (i + 2)))).toInt64) else fo) 0 = ((mr_M_number (E 26) (K 6) (K 7) (K 8) (K 9) (K 10) (K 11) (K 12) (K 13) (K 14) (K 15) (K 16) (K 17) (K 18) (K 19) (K 27) (K 28) nC nT nR nD (xs (i + 1)) (xs (i + 2))).1).toInt64 := fun h9 => by
    rw [if_pos (x0 h9), pk_uLs, r2 (x0 h9)]
  have hk : (upd (upd E 0 ((mr_M_number (E 26) (K 6) (K 7) (K 8) (K 9) (K 10) (K 11) (K 12) (K 13) (K 14) (K 15) (K 16) (K 17) (K 18) (K 19) (K 27) (K 28) nC nT nR nD (xs (i + 1)) (xs (i + 2))).2.1)) 26 ((mr_M_number (E 26) (K 6) (K 7) (K 8) (K 9) (K 10) (K 11) (K 12) (K 13) (K 14) (K 15) (K 16) (K 17) (K 18) (K 19) (K 27) (K 28) nC nT nR nD (xs (i + 1)) (xs (i + 2))).2.2.1)) 0 = (if mrx_X_number nD (xs (i + 1)) (xs (i + 2)) = 0 then 0 else 1 : Int32) := by
    simp (config := { decide := true }) only [upd_if, ↓reduceIte]
    exact r1
  refine ld_arg S0 (k := 1) hL (by omega) hS (lv_at hl 4 rfl) (lv_at hl 0 rfl) (by decide) dK_514 dK_515 dK_517 dK_518 dK_519 ?_
  refine ld_arg S0 (k := 2) hL (by omega) hS (lv_at hl 4 rfl) (lv_at hl 0 rfl) (by decide) dK_520 dK_521 dK_523 dK_524 dK_525 ?_
  refine lv_aload_n hx hb dK_526 rfl (lv_at hl 1 rfl) ?_
  refine lw_call (n := 4) (w := lW bo kl fo oa ca ck F G) (rest := []) S0 (w_number l hlt s hZ D cl hck oa ca ck F G bo kl fo (ap_P_l hP) (ap_T (ap_D_l hD)) hS.1 (fun q hq => hS.2.1 q hq (Nat.not_le.mpr hq)) (fun q hq h9 => absurd (ap_in_l hD hS (fun _ h => h) q h9) (Nat.not_le.mpr hq)) nD (xs (i + 1)) (xs (i + 2)) k1 hN) rfl rfl (Nat.le_of_ble_eq_true rfl) (Nat.le_of_ble_eq_true rfl) gLw_number rfl (by decide +kernel) rfl hl.1 rfl (Nat.zero_le _) dK_527 hc1 hs1 hP hD hS (fun H locs hP hD hS => ?_)
  refine lv_istore (lv' := (5, .int (if mrx_X_number nD (xs (i + 1)) (xs (i + 2)) = 0 then 0 else 1 : Int32)) :: lvI bo a b i (oa 0)) hx hb dK_530 hl (by decide) rfl (fun ls hl => ?_)
  refine lv_aload_n hx hb dK_532 rfl (lv_at hl 3 rfl) ?_
  refine ld_arg S0 (k := 1) hL (by omega) hS (lv_at hl 5 rfl) (lv_at hl 1 rfl) (by decide) dK_533 dK_534 dK_536 dK_537 dK_538 ?_
  refine ld_arg S0 (k := 2) hL (by omega) hS (lv_at hl 5 rfl) (lv_at hl 1 rfl) (by decide) dK_539 dK_540 dK_542 dK_543 dK_544 ?_
  refine lm_call (As := [.int (xs (i + 1)), .int (xs (i + 2))]) (rest := []) S0 (c_M_number l D cl hcm a ba ka E K (ap_P_r hP) (ap_T (ap_D_r hD)) nC nT nR nD (xs (i + 1)) (xs (i + 2)) h2 hC h3 hT h4 hR h5 hN h6 h8 h10 h13 h15) (cwV 2 hts gLm_number rfl rfl rfl (by decide +kernel) ⟨Nat.le_of_ble_eq_true rfl, Nat.le_of_ble_eq_true rfl⟩) hKm (va_recv hKm (ap_P_r hP) (ci := 0) (q0 := 0) hcm rfl) rfl hl.1 rfl (Nat.zero_le _) dK_545 hc1 hs1 hP hD hS (fun H locs hP hD hS => ?_)
  exact tail_I (q := 548) S0 hP hl hk hv dK_548 dK_550 dK_551 dK_554 dK_556 dK_561 dK_563 dK_566 dK_567 dK_568 dK_569 dK_571 dK_572 dK_573 dK_578 (by decide) hc1 hs1 (fun ls hl => kk _ _ _ _ _ H locs ls r3 hP hD hS hl)
