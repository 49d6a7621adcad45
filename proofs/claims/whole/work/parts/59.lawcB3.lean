set_option maxHeartbeats 4000000 in
set_option maxRecDepth 100000 in
theorem lc_walk {p : Program} {l : Launch} {e : Env} {s : State} {m : MethodId} {below : List Frame} {meth : Method} {c : Code} {b L : Nat} {xs : Nat → Int32} {D : va_G} {cl : List vw_C} {kl : ClassId} {ck ka : Nat → ClassId} {H : Heap} {locs : List Loc} {cells slots : Nat} {Q : State → Prop} {ls : Array Slot} {oa ca ba : Nat → Nat} {bo a : Nat} {fo : Nat → Int64} {F E : Nat → Int32} {G K : Nat → Nat → Int32} {i : Nat} (S0 : lwS p l s m c b L xs D cl kl ck ka) (hL : L ≤ 3585) (hi : i + 7 ≤ L) (hR : cX F G E K) (hP : va_P D cl (lW bo kl fo oa ca ck F G ++ mW a ba ka E K) H) (hD : va_D (fun q : Nat => s.heap.size ≤ q) (lW bo kl fo oa ca ck F G ++ mW a ba ka E K)) (hS : va_S (fun q : Nat => s.heap.size ≤ q) s.heap H locs) (hl : lv_has ls 8 (lvI bo a b i (oa 0))) (hc1 : cells + 1 ≤ 1090) (hs1 : slots + 6 ≤ 60551) (kk : (∀ (fo : Nat → Int64) (F : Nat → Int32) (G : Nat → Nat → Int32) (E : Nat → Int32) (K : Nat → Nat → Int32) (H : Heap) (locs : List Loc) (ls : Array Slot), cX F G E K → va_P D cl (lW bo kl fo oa ca ck F G ++ mW a ba ka E K) H → va_D (fun q : Nat => s.heap.size ≤ q) (lW bo kl fo oa ca ck F G ++ mW a ba ka E K) → va_S (fun q : Nat => s.heap.size ≤ q) s.heap H locs → lv_has ls 8 (lvI bo a b i (oa 0)) → W p l e room_1 s m #[Value.ref b] below meth c H locs (cells + 1) (slots + 6) Q (F0 m 1358 ls []))) : W p l e room_1 s m #[Value.ref b] below meth c H locs cells slots Q (F0 m 1129 ls []) := by
  obtain ⟨hx, hb, hml, hown, hts, hX, hbl, hlt, hZ, hck, hcm, hKl, hKm⟩ := id S0
  obtain ⟨nC, nT, nR, nD, sz, pl, h⟩ := hR
  obtain ⟨h2, hC, h3, hT, h4, hR, h5, hN, h6, h8, h10, h13, h15, h17, h27, h24, hpl, hmp6⟩ := cR_ref h
  obtain ⟨k0, k1, k2, k3, k4, hsz, k13, s0, s1, hmp, mA, mB, mQ, mQT, z8, z11, hD1⟩ := cR_cls h
  have hR9 := R_walk h (xs (i + 1)) (xs (i + 2))
  refine lv_aload_n hx hb dK_1129 rfl (lv_at hl 3 rfl) ?_
  obtain ⟨r1, r2, r3⟩ := hR9
  have x0 : (if mrx_X_walk (G 8) (G 9) (G 10) (G 11) nC nD (xs (i + 1)) (xs (i + 2)) = 0 then 0 else if mrx_X_walk (G 8) (G 9) (G 10) (G 11) nC nD (xs (i + 1)) (xs (i + 2)) = 1 then 1 else if mrx_X_walk (G 8) (G 9) (G 10) (G 11) nC nD (xs (i + 1)) (xs (i + 2)) = 2 then 2 else 3 : Int32) = 0 → mrx_X_walk (G 8) (G 9) (G 10) (G 11) nC nD (xs (i + 1)) (xs (i + 2)) = 0 := fun h9 => by
    by_cases c9 : mrx_X_walk (G 8) (G 9) (G 10) (G 11) nC nD (xs (i + 1)) (xs (i + 2)) = 0
    · exact c9
    · exfalso
      rw [if_neg c9] at h9
      by_cases c1 : mrx_X_walk (G 8) (G 9) (G 10) (G 11) nC nD (xs (i + 1)) (xs (i + 2)) = 1
      · rw [if_pos c1] at h9; exact absurd h9 (by decide)
      rw [if_neg c1] at h9
      by_cases c2 : mrx_X_walk (G 8) (G 9) (G 10) (G 11) nC nD (xs (i + 1)) (xs (i + 2)) = 2
      · rw [if_pos c2] at h9; exact absurd h9 (by decide)
      rw [if_neg c2] at h9
      exact absurd h9 (by decide)
  have hv : (if mrx_X_walk (G 8) (G 9) (G 10) (G 11) nC nD (xs (i + 1)) (xs (i + 2)) = 0 then 0 else if mrx_X_walk (G 8) (G 9) (G 10) (G 11) nC nD (xs (i + 1)) (xs (i + 2)) = 1 then 1 else if mrx_X_walk (G 8) (G 9) (G 10) (G 11) nC nD (xs (i + 1)) (xs (i + 2)) = 2 then 2 else 3 : Int32) = 0 → (if mrx_X_walk (G 8) (G 9) (G 10) (G 11) nC nD (xs (i + 1)) (xs (i + 2)) = 0 then vp_updL fo 0 (((mr_X_walk (F 9) (F 10) (F 11) (F 12) (G 0) (G 1) (G 8) (G 9) (G 10) (G 11) nC nD (xs (i + 1)) (xs (i + 2))).1).toInt64) else fo) 0 = ((mr_M_walk (E 1) (E 21) (E 22) (E 23) (E 26) (K 6) (K 7) (K 8) (K 9) (K 10) (K 11) (K 12) (K 13) (K 14) (K 15) (K 16) (K 17) (K 18) (K 19) (K 27) (K 28) nC nT nR nD (xs (i + 1)) (xs (i + 2))).1).toInt64 := fun h9 => by
    rw [if_pos (x0 h9), pk_uLs, r2 (x0 h9)]
  have hk : (upd (upd (upd (upd (upd E 0 ((mr_M_walk (E 1) (E 21) (E 22) (E 23) (E 26) (K 6) (K 7) (K 8) (K 9) (K 10) (K 11) (K 12) (K 13) (K 14) (K 15) (K 16) (K 17) (K 18) (K 19) (K 27) (K 28) nC nT nR nD (xs (i + 1)) (xs (i + 2))).2.1)) 1 ((mr_M_walk (E 1) (E 21) (E 22) (E 23) (E 26) (K 6) (K 7) (K 8) (K 9) (K 10) (K 11) (K 12) (K 13) (K 14) (K 15) (K 16) (K 17) (K 18) (K 19) (K 27) (K 28) nC nT nR nD (xs (i + 1)) (xs (i + 2))).2.2.1)) 22 ((mr_M_walk (E 1) (E 21) (E 22) (E 23) (E 26) (K 6) (K 7) (K 8) (K 9) (K 10) (K 11) (K 12) (K 13) (K 14) (K 15) (K 16) (K 17) (K 18) (K 19) (K 27) (K 28) nC nT nR nD (xs (i + 1)) (xs (i + 2))).2.2.2.1)) 23 ((mr_M_walk (E 1) (E 21) (E 22) (E 23) (E 26) (K 6) (K 7) (K 8) (K 9) (K 10) (K 11) (K 12) (K 13) (K 14) (K 15) (K 16) (K 17) (K 18) (K 19) (K 27) (K 28) nC nT nR nD (xs (i + 1)) (xs (i + 2))).2.2.2.2.1)) 26 ((mr_M_walk (E 1) (E 21) (E 22) (E 23) (E 26) (K 6) (K 7) (K 8) (K 9) (K 10) (K 11) (K 12) (K 13) (K 14) (K 15) (K 16) (K 17) (K 18) (K 19) (K 27) (K 28) nC nT nR nD (xs (i + 1)) (xs (i + 2))).2.2.2.2.2.1)) 0 = (if mrx_X_walk (G 8) (G 9) (G 10) (G 11) nC nD (xs (i + 1)) (xs (i + 2)) = 0 then 0 else if mrx_X_walk (G 8) (G 9) (G 10) (G 11) nC nD (xs (i + 1)) (xs (i + 2)) = 1 then 1 else if mrx_X_walk (G 8) (G 9) (G 10) (G 11) nC nD (xs (i + 1)) (xs (i + 2)) = 2 then 2 else 3 : Int32) := by
    simp (config := { decide := true }) only [upd_if, ↓reduceIte]
    exact r1
  refine ld_arg S0 (k := 1) hL (by omega) hS (lv_at hl 4 rfl) (lv_at hl 0 rfl) (by decide) dK_1130 dK_1131 dK_1133 dK_1134 dK_1135 ?_
  refine ld_arg S0 (k := 2) hL (by omega) hS (lv_at hl 4 rfl) (lv_at hl 0 rfl) (by decide) dK_1136 dK_1137 dK_1139 dK_1140 dK_1141 ?_
  refine lv_aload_n hx hb dK_1142 rfl (lv_at hl 1 rfl) ?_
  refine lw_call (n := 4) (w := lW bo kl fo oa ca ck F G) (rest := []) S0 (w_walk l hlt s hZ D cl hck oa ca ck F G bo kl fo (ap_P_l hP) (ap_T (ap_D_l hD)) hS.1 (fun q hq => hS.2.1 q hq (Nat.not_le.mpr hq)) (fun q hq h9 => absurd (ap_in_l hD hS (fun _ h => h) q h9) (Nat.not_le.mpr hq)) nC nD (xs (i + 1)) (xs (i + 2)) k0 hC s0 s1 hmp k1 hN) rfl rfl (Nat.le_of_ble_eq_true rfl) (Nat.le_of_ble_eq_true rfl) gLw_walk rfl (by decide +kernel) rfl hl.1 rfl (Nat.zero_le _) dK_1143 hc1 hs1 hP hD hS (fun H locs hP hD hS => ?_)
  refine lv_istore (lv' := (5, .int (if mrx_X_walk (G 8) (G 9) (G 10) (G 11) nC nD (xs (i + 1)) (xs (i + 2)) = 0 then 0 else if mrx_X_walk (G 8) (G 9) (G 10) (G 11) nC nD (xs (i + 1)) (xs (i + 2)) = 1 then 1 else if mrx_X_walk (G 8) (G 9) (G 10) (G 11) nC nD (xs (i + 1)) (xs (i + 2)) = 2 then 2 else 3 : Int32)) :: lvI bo a b i (oa 0)) hx hb dK_1146 hl (by decide) rfl (fun ls hl => ?_)
  refine lv_aload_n hx hb dK_1148 rfl (lv_at hl 3 rfl) ?_
  refine ld_arg S0 (k := 1) hL (by omega) hS (lv_at hl 5 rfl) (lv_at hl 1 rfl) (by decide) dK_1149 dK_1150 dK_1152 dK_1153 dK_1154 ?_
  refine ld_arg S0 (k := 2) hL (by omega) hS (lv_at hl 5 rfl) (lv_at hl 1 rfl) (by decide) dK_1155 dK_1156 dK_1158 dK_1159 dK_1160 ?_
  refine lm_call (As := [.int (xs (i + 1)), .int (xs (i + 2))]) (rest := []) S0 (c_M_walk l D cl hcm a ba ka E K (ap_P_r hP) (ap_T (ap_D_r hD)) nC nT nR nD (xs (i + 1)) (xs (i + 2)) h2 hC h3 hT h4 hR h5 hN h6 h8 h10 h13 h15 hmp6) (cwV 2 hts gLm_walk rfl rfl rfl (by decide +kernel) ⟨Nat.le_of_ble_eq_true rfl, Nat.le_of_ble_eq_true rfl⟩) hKm (va_recv hKm (ap_P_r hP) (ci := 0) (q0 := 0) hcm rfl) rfl hl.1 rfl (Nat.zero_le _) dK_1161 hc1 hs1 hP hD hS (fun H locs hP hD hS => ?_)
  exact tail_I (q := 1164) S0 hP hl hk hv dK_1164 dK_1166 dK_1167 dK_1170 dK_1172 dK_1177 dK_1179 dK_1182 dK_1183 dK_1184 dK_1185 dK_1187 dK_1188 dK_1189 dK_1194 (by decide) hc1 hs1 (fun ls hl => kk _ _ _ _ _ H locs ls r3 hP hD hS hl)
set_option maxHeartbeats 4000000 in
set_option maxRecDepth 100000 in
theorem lc_lowest {p : Program} {l : Launch} {e : Env} {s : State} {m : MethodId} {below : List Frame} {meth : Method} {c : Code} {b L : Nat} {xs : Nat → Int32} {D : va_G} {cl : List vw_C} {kl : ClassId} {ck ka : Nat → ClassId} {H : Heap} {locs : List Loc} {cells slots : Nat} {Q : State → Prop} {ls : Array Slot} {oa ca ba : Nat → Nat} {bo a : Nat} {fo : Nat → Int64} {F E : Nat → Int32} {G K : Nat → Nat → Int32} {i : Nat} (S0 : lwS p l s m c b L xs D cl kl ck ka) (hL : L ≤ 3585) (hi : i + 7 ≤ L) (hR : cX F G E K) (hP : va_P D cl (lW bo kl fo oa ca ck F G ++ mW a ba ka E K) H) (hD : va_D (fun q : Nat => s.heap.size ≤ q) (lW bo kl fo oa ca ck F G ++ mW a ba ka E K)) (hS : va_S (fun q : Nat => s.heap.size ≤ q) s.heap H locs) (hl : lv_has ls 8 (lvI bo a b i (oa 0))) (hc1 : cells + 1 ≤ 1090) (hs1 : slots + 6 ≤ 60551) (kk : (∀ (fo : Nat → Int64) (F : Nat → Int32) (G : Nat → Nat → Int32) (E : Nat → Int32) (K : Nat → Nat → Int32) (H : Heap) (locs : List Loc) (ls : Array Slot), cX F G E K → va_P D cl (lW bo kl fo oa ca ck F G ++ mW a ba ka E K) H → va_D (fun q : Nat => s.heap.size ≤ q) (lW bo kl fo oa ca ck F G ++ mW a ba ka E K) → va_S (fun q : Nat => s.heap.size ≤ q) s.heap H locs → lv_has ls 8 (lvI bo a b i (oa 0)) → W p l e room_1 s m #[Value.ref b] below meth c H locs (cells + 1) (slots + 6) Q (F0 m 1358 ls []))) : W p l e room_1 s m #[Value.ref b] below meth c H locs cells slots Q (F0 m 1197 ls []) := by
  obtain ⟨hx, hb, hml, hown, hts, hX, hbl, hlt, hZ, hck, hcm, hKl, hKm⟩ := id S0
  obtain ⟨nC, nT, nR, nD, sz, pl, h⟩ := hR
  obtain ⟨h2, hC, h3, hT, h4, hR, h5, hN, h6, h8, h10, h13, h15, h17, h27, h24, hpl, hmp6⟩ := cR_ref h
  obtain ⟨k0, k1, k2, k3, k4, hsz, k13, s0, s1, hmp, mA, mB, mQ, mQT, z8, z11, hD1⟩ := cR_cls h
  have hR9 := R_lowest h 
  refine lv_aload_n hx hb dK_1197 rfl (lv_at hl 3 rfl) ?_
  obtain ⟨r2, r3⟩ := hR9
  have hKc : va_K D cl (cT ck) s := ⟨hKl.1, fun k q hk => hKl.2 (k + 1) q hk⟩
  have hPc : va_P D cl (cW oa ca ck F G) H := fun k q hk => ap_P_l hP (k + 1) q hk
  refine ro_callV (As := []) (rest := []) ⟨hx, hb, hml, hown, hts⟩ (c_X_lowest l D cl hck oa ca ck F G hPc) (cwV 0 hts gLx_lowest rfl rfl rfl (by decide +kernel) ⟨Nat.le_of_ble_eq_true rfl, Nat.le_of_ble_eq_true rfl⟩) hKc (va_recv hKl (ap_P_l hP) (ci := 1) (q0 := 1) hck.1 rfl) rfl hl.1 rfl (Nat.zero_le _) dK_1198 ⟨Nat.le_trans (Nat.le_succ _) hc1, Nat.le_trans (Nat.le_add_right _ _) hs1⟩ ?_
  refine lv_aload_n hx hb dK_1201 rfl (lv_at hl 2 rfl) ?_
  refine lm_call (As := []) (rest := [.int (mr_X_lowest (F 11))]) S0 (c_M_lowest l D cl hcm a ba ka E K (ap_P_r hP) (ap_T (ap_D_r hD))) (cwV 0 hts gLm_lowest rfl rfl rfl (by decide +kernel) ⟨Nat.le_of_ble_eq_true rfl, Nat.le_of_ble_eq_true rfl⟩) hKm (va_recv hKm (ap_P_r hP) (ci := 0) (q0 := 0) hcm rfl) rfl hl.1 rfl (Nat.le_of_ble_eq_true rfl) dK_1202 (Nat.le_trans (Nat.le_succ _) hc1) (Nat.le_trans (Nat.le_add_right _ _) hs1) hP hD hS (fun H locs hP hD hS => ?_)
  refine lv_icmp_eq (tgt := 1358) hx hb dK_1205 (by decide) (fun _ => ?_) (fun c9 => absurd r2 c9)
  refine W.widen (k := cells + 1) (n := slots + 6) (Nat.le_succ _) (Nat.le_add_right _ _) ?_
  exact kk _ _ _ _ _ H locs ls r3 hP hD hS hl
set_option maxHeartbeats 4000000 in
set_option maxRecDepth 100000 in
theorem lc_matters {p : Program} {l : Launch} {e : Env} {s : State} {m : MethodId} {below : List Frame} {meth : Method} {c : Code} {b L : Nat} {xs : Nat → Int32} {D : va_G} {cl : List vw_C} {kl : ClassId} {ck ka : Nat → ClassId} {H : Heap} {locs : List Loc} {cells slots : Nat} {Q : State → Prop} {ls : Array Slot} {oa ca ba : Nat → Nat} {bo a : Nat} {fo : Nat → Int64} {F E : Nat → Int32} {G K : Nat → Nat → Int32} {i : Nat} (S0 : lwS p l s m c b L xs D cl kl ck ka) (hL : L ≤ 3585) (hi : i + 7 ≤ L) (hR : cX F G E K) (hP : va_P D cl (lW bo kl fo oa ca ck F G ++ mW a ba ka E K) H) (hD : va_D (fun q : Nat => s.heap.size ≤ q) (lW bo kl fo oa ca ck F G ++ mW a ba ka E K)) (hS : va_S (fun q : Nat => s.heap.size ≤ q) s.heap H locs) (hl : lv_has ls 8 (lvI bo a b i (oa 0))) (hc1 : cells + 1 ≤ 1090) (hs1 : slots + 6 ≤ 60551) (kk : (∀ (fo : Nat → Int64) (F : Nat → Int32) (G : Nat → Nat → Int32) (E : Nat → Int32) (K : Nat → Nat → Int32) (H : Heap) (locs : List Loc) (ls : Array Slot), cX F G E K → va_P D cl (lW bo kl fo oa ca ck F G ++ mW a ba ka E K) H → va_D (fun q : Nat => s.heap.size ≤ q) (lW bo kl fo oa ca ck F G ++ mW a ba ka E K) → va_S (fun q : Nat => s.heap.size ≤ q) s.heap H locs → lv_has ls 8 (lvI bo a b i (oa 0)) → W p l e room_1 s m #[Value.ref b] below meth c H locs (cells + 1) (slots + 6) Q (F0 m 1358 ls []))) : W p l e room_1 s m #[Value.ref b] below meth c H locs cells slots Q (F0 m 1210 ls []) := by
  obtain ⟨hx, hb, hml, hown, hts, hX, hbl, hlt, hZ, hck, hcm, hKl, hKm⟩ := id S0
  obtain ⟨nC, nT, nR, nD, sz, pl, h⟩ := hR
  obtain ⟨h2, hC, h3, hT, h4, hR, h5, hN, h6, h8, h10, h13, h15, h17, h27, h24, hpl, hmp6⟩ := cR_ref h
  obtain ⟨k0, k1, k2, k3, k4, hsz, k13, s0, s1, hmp, mA, mB, mQ, mQT, z8, z11, hD1⟩ := cR_cls h
  have hR9 := R_matters h (xs (i + 1)) (xs (i + 2))
  refine lv_aload_n hx hb dK_1210 rfl (lv_at hl 3 rfl) ?_
  obtain ⟨r1, r2, r3⟩ := hR9
  have x0 : (if mrx_X_matters nC nD (xs (i + 1)) (xs (i + 2)) = 0 then 0 else 1 : Int32) = 0 → mrx_X_matters nC nD (xs (i + 1)) (xs (i + 2)) = 0 := fun h9 => by
    by_cases c9 : mrx_X_matters nC nD (xs (i + 1)) (xs (i + 2)) = 0
    · exact c9
    · exfalso
      rw [if_neg c9] at h9
      exact absurd h9 (by decide)
  have hv : (if mrx_X_matters nC nD (xs (i + 1)) (xs (i + 2)) = 0 then 0 else 1 : Int32) = 0 → (if mrx_X_matters nC nD (xs (i + 1)) (xs (i + 2)) = 0 then vp_updL fo 0 ((mr_X_matters (G 0) (G 1) (G 8) (G 9) (G 10) (G 11) nC nD (xs (i + 1)) (xs (i + 2)))) else fo) 0 = (mr_M_matters (E 26) (K 6) (K 7) (K 8) (K 9) (K 10) (K 11) (K 12) (K 13) (K 14) (K 15) (K 16) (K 17) (K 18) (K 19) (K 27) (K 28) nC nT nR nD (xs (i + 1)) (xs (i + 2))).1 := fun h9 => by
    rw [if_pos (x0 h9), pk_uLs, r2 (x0 h9)]
  have hk : (upd (upd E 0 ((mr_M_matters (E 26) (K 6) (K 7) (K 8) (K 9) (K 10) (K 11) (K 12) (K 13) (K 14) (K 15) (K 16) (K 17) (K 18) (K 19) (K 27) (K 28) nC nT nR nD (xs (i + 1)) (xs (i + 2))).2.1)) 26 ((mr_M_matters (E 26) (K 6) (K 7) (K 8) (K 9) (K 10) (K 11) (K 12) (K 13) (K 14) (K 15) (K 16) (K 17) (K 18) (K 19) (K 27) (K 28) nC nT nR nD (xs (i + 1)) (xs (i + 2))).2.2.1)) 0 = (if mrx_X_matters nC nD (xs (i + 1)) (xs (i + 2)) = 0 then 0 else 1 : Int32) := by
    simp (config := { decide := true }) only [upd_if, ↓reduceIte]
    exact r1
  refine ld_arg S0 (k := 1) hL (by omega) hS (lv_at hl 4 rfl) (lv_at hl 0 rfl) (by decide) dK_1211 dK_1212 dK_1214 dK_1215 dK_1216 ?_
  refine ld_arg S0 (k := 2) hL (by omega) hS (lv_at hl 4 rfl) (lv_at hl 0 rfl) (by decide) dK_1217 dK_1218 dK_1220 dK_1221 dK_1222 ?_
  refine lv_aload_n hx hb dK_1223 rfl (lv_at hl 1 rfl) ?_
  refine lw_call (n := 4) (w := lW bo kl fo oa ca ck F G) (rest := []) S0 (w_matters l hlt s hZ D cl hck oa ca ck F G bo kl fo (ap_P_l hP) (ap_T (ap_D_l hD)) hS.1 (fun q hq => hS.2.1 q hq (Nat.not_le.mpr hq)) (fun q hq h9 => absurd (ap_in_l hD hS (fun _ h => h) q h9) (Nat.not_le.mpr hq)) nC nD (xs (i + 1)) (xs (i + 2)) k0 hC k1 hN s0 s1 hmp) rfl rfl (Nat.le_of_ble_eq_true rfl) (Nat.le_of_ble_eq_true rfl) gLw_matters rfl (by decide +kernel) rfl hl.1 rfl (Nat.zero_le _) dK_1224 hc1 hs1 hP hD hS (fun H locs hP hD hS => ?_)
  refine lv_istore (lv' := (5, .int (if mrx_X_matters nC nD (xs (i + 1)) (xs (i + 2)) = 0 then 0 else 1 : Int32)) :: lvI bo a b i (oa 0)) hx hb dK_1227 hl (by decide) rfl (fun ls hl => ?_)
  refine lv_aload_n hx hb dK_1229 rfl (lv_at hl 3 rfl) ?_
  refine ld_arg S0 (k := 1) hL (by omega) hS (lv_at hl 5 rfl) (lv_at hl 1 rfl) (by decide) dK_1230 dK_1231 dK_1233 dK_1234 dK_1235 ?_
  refine ld_arg S0 (k := 2) hL (by omega) hS (lv_at hl 5 rfl) (lv_at hl 1 rfl) (by decide) dK_1236 dK_1237 dK_1239 dK_1240 dK_1241 ?_
  refine lm_call (As := [.int (xs (i + 1)), .int (xs (i + 2))]) (rest := []) S0 (c_M_matters l D cl hcm a ba ka E K (ap_P_r hP) (ap_T (ap_D_r hD)) nC nT nR nD (xs (i + 1)) (xs (i + 2)) h2 hC h3 hT h4 hR h5 hN h6 h8 h10 h13 h15 hmp6) (cwV 2 hts gLm_matters rfl rfl rfl (by decide +kernel) ⟨Nat.le_of_ble_eq_true rfl, Nat.le_of_ble_eq_true rfl⟩) hKm (va_recv hKm (ap_P_r hP) (ci := 0) (q0 := 0) hcm rfl) rfl hl.1 rfl (Nat.zero_le _) dK_1242 hc1 hs1 hP hD hS (fun H locs hP hD hS => ?_)
  exact tail_J (q := 1245) S0 hP hl hk hv dK_1245 dK_1247 dK_1248 dK_1251 dK_1253 dK_1258 dK_1260 dK_1263 dK_1264 dK_1265 dK_1266 dK_1268 dK_1269 dK_1274 (by decide) hc1 hs1 (fun ls hl => kk _ _ _ _ _ H locs ls r3 hP hD hS hl)
set_option maxHeartbeats 4000000 in
set_option maxRecDepth 100000 in
theorem lc_sweep {p : Program} {l : Launch} {e : Env} {s : State} {m : MethodId} {below : List Frame} {meth : Method} {c : Code} {b L : Nat} {xs : Nat → Int32} {D : va_G} {cl : List vw_C} {kl : ClassId} {ck ka : Nat → ClassId} {H : Heap} {locs : List Loc} {cells slots : Nat} {Q : State → Prop} {ls : Array Slot} {oa ca ba : Nat → Nat} {bo a : Nat} {fo : Nat → Int64} {F E : Nat → Int32} {G K : Nat → Nat → Int32} {i : Nat} (S0 : lwS p l s m c b L xs D cl kl ck ka) (hL : L ≤ 3585) (hi : i + 7 ≤ L) (hR : cX F G E K) (hP : va_P D cl (lW bo kl fo oa ca ck F G ++ mW a ba ka E K) H) (hD : va_D (fun q : Nat => s.heap.size ≤ q) (lW bo kl fo oa ca ck F G ++ mW a ba ka E K)) (hS : va_S (fun q : Nat => s.heap.size ≤ q) s.heap H locs) (hl : lv_has ls 8 (lvI bo a b i (oa 0))) (hc1 : cells + 1 ≤ 1090) (hs1 : slots + 6 ≤ 60551) (kk : (∀ (fo : Nat → Int64) (F : Nat → Int32) (G : Nat → Nat → Int32) (E : Nat → Int32) (K : Nat → Nat → Int32) (H : Heap) (locs : List Loc) (ls : Array Slot), cX F G E K → va_P D cl (lW bo kl fo oa ca ck F G ++ mW a ba ka E K) H → va_D (fun q : Nat => s.heap.size ≤ q) (lW bo kl fo oa ca ck F G ++ mW a ba ka E K) → va_S (fun q : Nat => s.heap.size ≤ q) s.heap H locs → lv_has ls 8 (lvI bo a b i (oa 0)) → W p l e room_1 s m #[Value.ref b] below meth c H locs (cells + 1) (slots + 6) Q (F0 m 1358 ls []))) : W p l e room_1 s m #[Value.ref b] below meth c H locs cells slots Q (F0 m 1277 ls []) := by
  obtain ⟨hx, hb, hml, hown, hts, hX, hbl, hlt, hZ, hck, hcm, hKl, hKm⟩ := id S0
  obtain ⟨nC, nT, nR, nD, sz, pl, h⟩ := hR
  obtain ⟨h2, hC, h3, hT, h4, hR, h5, hN, h6, h8, h10, h13, h15, h17, h27, h24, hpl, hmp6⟩ := cR_ref h
  obtain ⟨k0, k1, k2, k3, k4, hsz, k13, s0, s1, hmp, mA, mB, mQ, mQT, z8, z11, hD1⟩ := cR_cls h
  have hR9 := R_sweep h (xs (i + 1))
  refine lv_aload_n hx hb dK_1277 rfl (lv_at hl 3 rfl) ?_
  obtain ⟨r1, r2, r3⟩ := hR9
  have x0 : (if mrx_X_sweep (F 1) (F 13) nD pl (xs (i + 1)) = 0 then 0 else if mrx_X_sweep (F 1) (F 13) nD pl (xs (i + 1)) = 2 then 1 else 2 : Int32) = 0 → mrx_X_sweep (F 1) (F 13) nD pl (xs (i + 1)) = 0 := fun h9 => by
    by_cases c9 : mrx_X_sweep (F 1) (F 13) nD pl (xs (i + 1)) = 0
    · exact c9
    · exfalso
      rw [if_neg c9] at h9
      by_cases c2 : mrx_X_sweep (F 1) (F 13) nD pl (xs (i + 1)) = 2
      · rw [if_pos c2] at h9; exact absurd h9 (by decide)
      rw [if_neg c2] at h9
      exact absurd h9 (by decide)
  have hv : (if mrx_X_sweep (F 1) (F 13) nD pl (xs (i + 1)) = 0 then 0 else if mrx_X_sweep (F 1) (F 13) nD pl (xs (i + 1)) = 2 then 1 else 2 : Int32) = 0 → (if mrx_X_sweep (F 1) (F 13) nD pl (xs (i + 1)) = 0 then vp_updL fo 0 (((mr_X_sweep (F 1) (F 13) (F 14) (G 8) (G 9) (G 10) (G 11) nD pl (xs (i + 1))).1).toInt64) else fo) 0 = ((mr_M_sweep (E 24) (E 25) (E 26) (K 6) (K 7) (K 8) (K 9) (K 10) (K 11) (K 12) (K 13) (K 14) (K 15) (K 16) (K 17) (K 18) (K 19) (K 27) (K 28) nC nT nR nD pl (xs (i + 1))).1).toInt64 := fun h9 => by
    rw [if_pos (x0 h9), pk_uLs, r2 (x0 h9)]
  have hk : (upd (upd (upd (upd E 0 ((mr_M_sweep (E 24) (E 25) (E 26) (K 6) (K 7) (K 8) (K 9) (K 10) (K 11) (K 12) (K 13) (K 14) (K 15) (K 16) (K 17) (K 18) (K 19) (K 27) (K 28) nC nT nR nD pl (xs (i + 1))).2.1)) 24 ((mr_M_sweep (E 24) (E 25) (E 26) (K 6) (K 7) (K 8) (K 9) (K 10) (K 11) (K 12) (K 13) (K 14) (K 15) (K 16) (K 17) (K 18) (K 19) (K 27) (K 28) nC nT nR nD pl (xs (i + 1))).2.2.1)) 25 ((mr_M_sweep (E 24) (E 25) (E 26) (K 6) (K 7) (K 8) (K 9) (K 10) (K 11) (K 12) (K 13) (K 14) (K 15) (K 16) (K 17) (K 18) (K 19) (K 27) (K 28) nC nT nR nD pl (xs (i + 1))).2.2.2.1)) 26 ((mr_M_sweep (E 24) (E 25) (E 26) (K 6) (K 7) (K 8) (K 9) (K 10) (K 11) (K 12) (K 13) (K 14) (K 15) (K 16) (K 17) (K 18) (K 19) (K 27) (K 28) nC nT nR nD pl (xs (i + 1))).2.2.2.2.1)) 0 = (if mrx_X_sweep (F 1) (F 13) nD pl (xs (i + 1)) = 0 then 0 else if mrx_X_sweep (F 1) (F 13) nD pl (xs (i + 1)) = 2 then 1 else 2 : Int32) := by
    simp (config := { decide := true }) only [upd_if, ↓reduceIte]
    exact r1
  refine ld_arg S0 (k := 1) hL (by omega) hS (lv_at hl 4 rfl) (lv_at hl 0 rfl) (by decide) dK_1278 dK_1279 dK_1281 dK_1282 dK_1283 ?_
  refine lv_aload_n hx hb dK_1284 rfl (lv_at hl 1 rfl) ?_
  refine lw_call (n := 3) (w := lW bo kl fo oa ca ck F G) (rest := []) S0 (w_sweep l hlt s hZ D cl hck oa ca ck F G bo kl fo (ap_P_l hP) (ap_T (ap_D_l hD)) hS.1 (fun q hq => hS.2.1 q hq (Nat.not_le.mpr hq)) (fun q hq h9 => absurd (ap_in_l hD hS (fun _ h => h) q h9) (Nat.not_le.mpr hq)) nD pl (xs (i + 1)) k1 hN k13 hpl) rfl rfl (Nat.le_of_ble_eq_true rfl) (Nat.le_of_ble_eq_true rfl) gLw_sweep rfl (by decide +kernel) rfl hl.1 rfl (Nat.zero_le _) dK_1285 hc1 hs1 hP hD hS (fun H locs hP hD hS => ?_)
  refine lv_istore (lv' := (5, .int (if mrx_X_sweep (F 1) (F 13) nD pl (xs (i + 1)) = 0 then 0 else if mrx_X_sweep (F 1) (F 13) nD pl (xs (i + 1)) = 2 then 1 else 2 : Int32)) :: lvI bo a b i (oa 0)) hx hb dK_1288 hl (by decide) rfl (fun ls hl => ?_)
  refine lv_aload_n hx hb dK_1290 rfl (lv_at hl 3 rfl) ?_
  refine ld_arg S0 (k := 1) hL (by omega) hS (lv_at hl 5 rfl) (lv_at hl 1 rfl) (by decide) dK_1291 dK_1292 dK_1294 dK_1295 dK_1296 ?_
  refine lm_call (As := [.int (xs (i + 1))]) (rest := []) S0 (c_M_sweep l D cl hcm a ba ka E K (ap_P_r hP) (ap_T (ap_D_r hD)) nC nT nR nD pl (xs (i + 1)) h2 hC h3 hT h4 hR h5 hN h6 h8 h10 h13 h15 h24 hpl) (cwV 1 hts gLm_sweep rfl rfl rfl (by decide +kernel) ⟨Nat.le_of_ble_eq_true rfl, Nat.le_of_ble_eq_true rfl⟩) hKm (va_recv hKm (ap_P_r hP) (ci := 0) (q0 := 0) hcm rfl) rfl hl.1 rfl (Nat.zero_le _) dK_1297 hc1 hs1 hP hD hS (fun H locs hP hD hS => ?_)
  exact tail_I (q := 1300) S0 hP hl hk hv dK_1300 dK_1302 dK_1303 dK_1306 dK_1308 dK_1313 dK_1315 dK_1318 dK_1319 dK_1320 dK_1321 dK_1323 dK_1324 dK_1325 dK_1330 (by decide) hc1 hs1 (fun ls hl => kk _ _ _ _ _ H locs ls r3 hP hD hS hl)
set_option maxHeartbeats 4000000 in
set_option maxRecDepth 100000 in
theorem lc_count {p : Program} {l : Launch} {e : Env} {s : State} {m : MethodId} {below : List Frame} {meth : Method} {c : Code} {b L : Nat} {xs : Nat → Int32} {D : va_G} {cl : List vw_C} {kl : ClassId} {ck ka : Nat → ClassId} {H : Heap} {locs : List Loc} {cells slots : Nat} {Q : State → Prop} {ls : Array Slot} {oa ca ba : Nat → Nat} {bo a : Nat} {fo : Nat → Int64} {F E : Nat → Int32} {G K : Nat → Nat → Int32} {i : Nat} (S0 : lwS p l s m c b L xs D cl kl ck ka) (hL : L ≤ 3585) (hi : i + 7 ≤ L) (hR : cX F G E K) (hP : va_P D cl (lW bo kl fo oa ca ck F G ++ mW a ba ka E K) H) (hD : va_D (fun q : Nat => s.heap.size ≤ q) (lW bo kl fo oa ca ck F G ++ mW a ba ka E K)) (hS : va_S (fun q : Nat => s.heap.size ≤ q) s.heap H locs) (hl : lv_has ls 8 (lvI bo a b i (oa 0))) (hc1 : cells + 1 ≤ 1090) (hs1 : slots + 6 ≤ 60551) (kk : (∀ (fo : Nat → Int64) (F : Nat → Int32) (G : Nat → Nat → Int32) (E : Nat → Int32) (K : Nat → Nat → Int32) (H : Heap) (locs : List Loc) (ls : Array Slot), cX F G E K → va_P D cl (lW bo kl fo oa ca ck F G ++ mW a ba ka E K) H → va_D (fun q : Nat => s.heap.size ≤ q) (lW bo kl fo oa ca ck F G ++ mW a ba ka E K) → va_S (fun q : Nat => s.heap.size ≤ q) s.heap H locs → lv_has ls 8 (lvI bo a b i (oa 0)) → W p l e room_1 s m #[Value.ref b] below meth c H locs (cells + 1) (slots + 6) Q (F0 m 1358 ls []))) : W p l e room_1 s m #[Value.ref b] below meth c H locs cells slots Q (F0 m 1333 ls []) := by
  obtain ⟨hx, hb, hml, hown, hts, hX, hbl, hlt, hZ, hck, hcm, hKl, hKm⟩ := id S0
  obtain ⟨nC, nT, nR, nD, sz, pl, h⟩ := hR
  obtain ⟨h2, hC, h3, hT, h4, hR, h5, hN, h6, h8, h10, h13, h15, h17, h27, h24, hpl, hmp6⟩ := cR_ref h
  obtain ⟨k0, k1, k2, k3, k4, hsz, k13, s0, s1, hmp, mA, mB, mQ, mQT, z8, z11, hD1⟩ := cR_cls h
  have hR9 := R_count h (xs (i + 1))
  refine lv_aload_n hx hb dK_1333 rfl (lv_at hl 3 rfl) ?_
  obtain ⟨r2, r3⟩ := hR9
  refine ld_arg S0 (k := 1) hL (by omega) hS (lv_at hl 4 rfl) (lv_at hl 0 rfl) (by decide) dK_1334 dK_1335 dK_1337 dK_1338 dK_1339 ?_
  have hKc : va_K D cl (cT ck) s := ⟨hKl.1, fun k q hk => hKl.2 (k + 1) q hk⟩
  have hPc : va_P D cl (cW oa ca ck F G) H := fun k q hk => ap_P_l hP (k + 1) q hk
  refine ro_callV (As := [.int (xs (i + 1))]) (rest := []) ⟨hx, hb, hml, hown, hts⟩ (c_X_count l D cl hck oa ca ck F G hPc (xs (i + 1))) (cwV 1 hts gLx_count rfl rfl rfl (by decide +kernel) ⟨Nat.le_of_ble_eq_true rfl, Nat.le_of_ble_eq_true rfl⟩) hKc (va_recv hKl (ap_P_l hP) (ci := 1) (q0 := 1) hck.1 rfl) rfl hl.1 rfl (Nat.zero_le _) dK_1340 ⟨Nat.le_trans (Nat.le_succ _) hc1, Nat.le_trans (Nat.le_add_right _ _) hs1⟩ ?_
  refine lv_aload_n hx hb dK_1343 rfl (lv_at hl 2 rfl) ?_
  refine ld_arg S0 (k := 1) hL (by omega) hS (lv_at hl 4 rfl) (lv_at hl 0 rfl) (by decide) dK_1344 dK_1345 dK_1347 dK_1348 dK_1349 ?_
  refine lm_call (As := [.int (xs (i + 1))]) (rest := [.int (mr_X_count (F 0) (F 1) (F 2) (F 3) (F 10) (F 12) (F 13) (F 14) (G 8) (xs (i + 1)))]) S0 (c_M_count l D cl hcm a ba ka E K (ap_P_r hP) (ap_T (ap_D_r hD)) (xs (i + 1))) (cwV 1 hts gLm_count rfl rfl rfl (by decide +kernel) ⟨Nat.le_of_ble_eq_true rfl, Nat.le_of_ble_eq_true rfl⟩) hKm (va_recv hKm (ap_P_r hP) (ci := 0) (q0 := 0) hcm rfl) rfl hl.1 rfl (Nat.le_of_ble_eq_true rfl) dK_1350 (Nat.le_trans (Nat.le_succ _) hc1) (Nat.le_trans (Nat.le_add_right _ _) hs1) hP hD hS (fun H locs hP hD hS => ?_)
  refine lv_icmp_eq (tgt := 1358) hx hb dK_1353 (by decide) (fun _ => ?_) (fun c9 => absurd r2 c9)
  refine W.widen (k := cells + 1) (n := slots + 6) (Nat.le_succ _) (Nat.le_add_right _ _) ?_
  exact kk _ _ _ _ _ H locs ls r3 hP hD hS hl
