set_option maxHeartbeats 4000000 in
set_option maxRecDepth 100000 in
theorem lc_best {p : Program} {l : Launch} {e : Env} {s : State} {m : MethodId} {below : List Frame} {meth : Method} {c : Code} {b L : Nat} {xs : Nat → Int32} {D : va_G} {cl : List vw_C} {kl : ClassId} {ck ka : Nat → ClassId} {H : Heap} {locs : List Loc} {cells slots : Nat} {Q : State → Prop} {ls : Array Slot} {oa ca ba : Nat → Nat} {bo a : Nat} {fo : Nat → Int64} {F E : Nat → Int32} {G K : Nat → Nat → Int32} {i : Nat} (S0 : lwS p l s m c b L xs D cl kl ck ka) (hL : L ≤ 3585) (hi : i + 7 ≤ L) (hR : cX F G E K) (hP : va_P D cl (lW bo kl fo oa ca ck F G ++ mW a ba ka E K) H) (hD : va_D (fun q : Nat => s.heap.size ≤ q) (lW bo kl fo oa ca ck F G ++ mW a ba ka E K)) (hS : va_S (fun q : Nat => s.heap.size ≤ q) s.heap H locs) (hl : lv_has ls 8 (lvI bo a b i (oa 0))) (hc1 : cells + 1 ≤ 1090) (hs1 : slots + 6 ≤ 60551) (kk : (∀ (fo : Nat → Int64) (F : Nat → Int32) (G : Nat → Nat → Int32) (E : Nat → Int32) (K : Nat → Nat → Int32) (H : Heap) (locs : List Loc) (ls : Array Slot), cX F G E K → va_P D cl (lW bo kl fo oa ca ck F G ++ mW a ba ka E K) H → va_D (fun q : Nat => s.heap.size ≤ q) (lW bo kl fo oa ca ck F G ++ mW a ba ka E K) → va_S (fun q : Nat => s.heap.size ≤ q) s.heap H locs → lv_has ls 8 (lvI bo a b i (oa 0)) → W p l e room_1 s m #[Value.ref b] below meth c H locs (cells + 1) (slots + 6) Q (F0 m 1358 ls []))) : W p l e room_1 s m #[Value.ref b] below meth c H locs cells slots Q (F0 m 856 ls []) := by
  obtain ⟨hx, hb, hml, hown, hts, hX, hbl, hlt, hZ, hck, hcm, hKl, hKm⟩ := id S0
  obtain ⟨nC, nT, nR, nD, sz, pl, h⟩ := hR
  obtain ⟨h2, hC, h3, hT, h4, hR, h5, hN, h6, h8, h10, h13, h15, h17, h27, h24, hpl, hmp6⟩ := cR_ref h
  obtain ⟨k0, k1, k2, k3, k4, hsz, k13, s0, s1, hmp, mA, mB, mQ, mQT, z8, z11, hD1⟩ := cR_cls h
  have hR9 := R_best h (xs (i + 1))
  refine lv_aload_n hx hb dK_856 rfl (lv_at hl 3 rfl) ?_
  obtain ⟨r1, r2, r3⟩ := hR9
  have x0 : (if mrx_X_best nC nD nR (xs (i + 1)) = 0 then 0 else 1 : Int32) = 0 → mrx_X_best nC nD nR (xs (i + 1)) = 0 := fun h9 => by
    by_cases c9 : mrx_X_best nC nD nR (xs (i + 1)) = 0
    · exact c9
    · exfalso
      rw [if_neg c9] at h9
      exact absurd h9 (by decide)
  have hv : (if mrx_X_best nC nD nR (xs (i + 1)) = 0 then 0 else 1 : Int32) = 0 → (if mrx_X_best nC nD nR (xs (i + 1)) = 0 then vp_updL fo 0 (((mr_X_best (F 6) (F 7) (F 8) (G 0) (G 1) (G 2) (G 3) (G 4) (G 5) (G 6) (G 7) (G 8) (G 9) (G 10) (G 14) nC nD nR (xs (i + 1))).1).toInt64) else fo) 0 = ((mr_M_best (E 20) (K 6) (K 7) (K 8) (K 9) (K 10) (K 11) (K 12) (K 13) (K 14) (K 15) (K 16) (K 17) (K 18) (K 19) nC nT nR nD (xs (i + 1))).1).toInt64 := fun h9 => by
    rw [if_pos (x0 h9), pk_uLs, r2 (x0 h9)]
  have hk : (upd (upd E 0 ((mr_M_best (E 20) (K 6) (K 7) (K 8) (K 9) (K 10) (K 11) (K 12) (K 13) (K 14) (K 15) (K 16) (K 17) (K 18) (K 19) nC nT nR nD (xs (i + 1))).2.1)) 20 ((mr_M_best (E 20) (K 6) (K 7) (K 8) (K 9) (K 10) (K 11) (K 12) (K 13) (K 14) (K 15) (K 16) (K 17) (K 18) (K 19) nC nT nR nD (xs (i + 1))).2.2.1)) 0 = (if mrx_X_best nC nD nR (xs (i + 1)) = 0 then 0 else 1 : Int32) := by
    simp (config := { decide := true }) only [upd_if, ↓reduceIte]
    exact r1
  refine ld_arg S0 (k := 1) hL (by omega) hS (lv_at hl 4 rfl) (lv_at hl 0 rfl) (by decide) dK_857 dK_858 dK_860 dK_861 dK_862 ?_
  refine lv_aload_n hx hb dK_863 rfl (lv_at hl 1 rfl) ?_
  refine lw_call (n := 3) (w := lW bo kl fo oa ca ck F G) (rest := []) S0 (w_best l hlt s hZ D cl hck oa ca ck F G bo kl fo (ap_P_l hP) (ap_T (ap_D_l hD)) hS.1 (fun q hq => hS.2.1 q hq (Nat.not_le.mpr hq)) (fun q hq h9 => absurd (ap_in_l hD hS (fun _ h => h) q h9) (Nat.not_le.mpr hq)) nC nD nR (xs (i + 1)) k0 hC s0 s1 hmp hN mA mB mQ k3 hR) rfl rfl (Nat.le_of_ble_eq_true rfl) (Nat.le_of_ble_eq_true rfl) gLw_best rfl (by decide +kernel) rfl hl.1 rfl (Nat.zero_le _) dK_864 hc1 hs1 hP hD hS (fun H locs hP hD hS => ?_)
  refine lv_istore (lv' := (5, .int (if mrx_X_best nC nD nR (xs (i + 1)) = 0 then 0 else 1 : Int32)) :: lvI bo a b i (oa 0)) hx hb dK_867 hl (by decide) rfl (fun ls hl => ?_)
  refine lv_aload_n hx hb dK_869 rfl (lv_at hl 3 rfl) ?_
  refine ld_arg S0 (k := 1) hL (by omega) hS (lv_at hl 5 rfl) (lv_at hl 1 rfl) (by decide) dK_870 dK_871 dK_873 dK_874 dK_875 ?_
  refine lm_call (As := [.int (xs (i + 1))]) (rest := []) S0 (c_M_best l D cl hcm a ba ka E K (ap_P_r hP) (ap_T (ap_D_r hD)) nC nT nR nD (xs (i + 1)) h2 hC h3 hT h4 hR h5 hN h6 h8 h10 h13 h15 hmp6) (cwV 1 hts gLm_best rfl rfl rfl (by decide +kernel) ⟨Nat.le_of_ble_eq_true rfl, Nat.le_of_ble_eq_true rfl⟩) hKm (va_recv hKm (ap_P_r hP) (ci := 0) (q0 := 0) hcm rfl) rfl hl.1 rfl (Nat.zero_le _) dK_876 hc1 hs1 hP hD hS (fun H locs hP hD hS => ?_)
  exact tail_I (q := 879) S0 hP hl hk hv dK_879 dK_881 dK_882 dK_885 dK_887 dK_892 dK_894 dK_897 dK_898 dK_899 dK_900 dK_902 dK_903 dK_904 dK_909 (by decide) hc1 hs1 (fun ls hl => kk _ _ _ _ _ H locs ls r3 hP hD hS hl)
set_option maxHeartbeats 4000000 in
set_option maxRecDepth 100000 in
theorem lc_looked {p : Program} {l : Launch} {e : Env} {s : State} {m : MethodId} {below : List Frame} {meth : Method} {c : Code} {b L : Nat} {xs : Nat → Int32} {D : va_G} {cl : List vw_C} {kl : ClassId} {ck ka : Nat → ClassId} {H : Heap} {locs : List Loc} {cells slots : Nat} {Q : State → Prop} {ls : Array Slot} {oa ca ba : Nat → Nat} {bo a : Nat} {fo : Nat → Int64} {F E : Nat → Int32} {G K : Nat → Nat → Int32} {i : Nat} (S0 : lwS p l s m c b L xs D cl kl ck ka) (hL : L ≤ 3585) (hi : i + 7 ≤ L) (hR : cX F G E K) (hP : va_P D cl (lW bo kl fo oa ca ck F G ++ mW a ba ka E K) H) (hD : va_D (fun q : Nat => s.heap.size ≤ q) (lW bo kl fo oa ca ck F G ++ mW a ba ka E K)) (hS : va_S (fun q : Nat => s.heap.size ≤ q) s.heap H locs) (hl : lv_has ls 8 (lvI bo a b i (oa 0))) (hc1 : cells + 1 ≤ 1090) (hs1 : slots + 6 ≤ 60551) (kk : (∀ (fo : Nat → Int64) (F : Nat → Int32) (G : Nat → Nat → Int32) (E : Nat → Int32) (K : Nat → Nat → Int32) (H : Heap) (locs : List Loc) (ls : Array Slot), cX F G E K → va_P D cl (lW bo kl fo oa ca ck F G ++ mW a ba ka E K) H → va_D (fun q : Nat => s.heap.size ≤ q) (lW bo kl fo oa ca ck F G ++ mW a ba ka E K) → va_S (fun q : Nat => s.heap.size ≤ q) s.heap H locs → lv_has ls 8 (lvI bo a b i (oa 0)) → W p l e room_1 s m #[Value.ref b] below meth c H locs (cells + 1) (slots + 6) Q (F0 m 1358 ls []))) : W p l e room_1 s m #[Value.ref b] below meth c H locs cells slots Q (F0 m 912 ls []) := by
  obtain ⟨hx, hb, hml, hown, hts, hX, hbl, hlt, hZ, hck, hcm, hKl, hKm⟩ := id S0
  obtain ⟨nC, nT, nR, nD, sz, pl, h⟩ := hR
  obtain ⟨h2, hC, h3, hT, h4, hR, h5, hN, h6, h8, h10, h13, h15, h17, h27, h24, hpl, hmp6⟩ := cR_ref h
  obtain ⟨k0, k1, k2, k3, k4, hsz, k13, s0, s1, hmp, mA, mB, mQ, mQT, z8, z11, hD1⟩ := cR_cls h
  have hR9 := R_looked h 
  refine lv_aload_n hx hb dK_912 rfl (lv_at hl 3 rfl) ?_
  obtain ⟨r2, r3⟩ := hR9
  have hKc : va_K D cl (cT ck) s := ⟨hKl.1, fun k q hk => hKl.2 (k + 1) q hk⟩
  have hPc : va_P D cl (cW oa ca ck F G) H := fun k q hk => ap_P_l hP (k + 1) q hk
  refine ro_callV (As := []) (rest := []) ⟨hx, hb, hml, hown, hts⟩ (c_X_looked l D cl hck oa ca ck F G hPc) (cwV 0 hts gLx_looked rfl rfl rfl (by decide +kernel) ⟨Nat.le_of_ble_eq_true rfl, Nat.le_of_ble_eq_true rfl⟩) hKc (va_recv hKl (ap_P_l hP) (ci := 1) (q0 := 1) hck.1 rfl) rfl hl.1 rfl (Nat.zero_le _) dK_913 ⟨Nat.le_trans (Nat.le_succ _) hc1, Nat.le_trans (Nat.le_add_right _ _) hs1⟩ ?_
  refine lv_aload_n hx hb dK_916 rfl (lv_at hl 2 rfl) ?_
  refine lm_call (As := []) (rest := [.int (mr_X_looked (F 6))]) S0 (c_M_looked l D cl hcm a ba ka E K (ap_P_r hP) (ap_T (ap_D_r hD))) (cwV 0 hts gLm_looked rfl rfl rfl (by decide +kernel) ⟨Nat.le_of_ble_eq_true rfl, Nat.le_of_ble_eq_true rfl⟩) hKm (va_recv hKm (ap_P_r hP) (ci := 0) (q0 := 0) hcm rfl) rfl hl.1 rfl (Nat.le_of_ble_eq_true rfl) dK_917 (Nat.le_trans (Nat.le_succ _) hc1) (Nat.le_trans (Nat.le_add_right _ _) hs1) hP hD hS (fun H locs hP hD hS => ?_)
  refine lv_icmp_eq (tgt := 1358) hx hb dK_920 (by decide) (fun _ => ?_) (fun c9 => absurd r2 c9)
  refine W.widen (k := cells + 1) (n := slots + 6) (Nat.le_succ _) (Nat.le_add_right _ _) ?_
  exact kk _ _ _ _ _ H locs ls r3 hP hD hS hl
set_option maxHeartbeats 4000000 in
set_option maxRecDepth 100000 in
theorem lc_bound {p : Program} {l : Launch} {e : Env} {s : State} {m : MethodId} {below : List Frame} {meth : Method} {c : Code} {b L : Nat} {xs : Nat → Int32} {D : va_G} {cl : List vw_C} {kl : ClassId} {ck ka : Nat → ClassId} {H : Heap} {locs : List Loc} {cells slots : Nat} {Q : State → Prop} {ls : Array Slot} {oa ca ba : Nat → Nat} {bo a : Nat} {fo : Nat → Int64} {F E : Nat → Int32} {G K : Nat → Nat → Int32} {i : Nat} (S0 : lwS p l s m c b L xs D cl kl ck ka) (hL : L ≤ 3585) (hi : i + 7 ≤ L) (hR : cX F G E K) (hP : va_P D cl (lW bo kl fo oa ca ck F G ++ mW a ba ka E K) H) (hD : va_D (fun q : Nat => s.heap.size ≤ q) (lW bo kl fo oa ca ck F G ++ mW a ba ka E K)) (hS : va_S (fun q : Nat => s.heap.size ≤ q) s.heap H locs) (hl : lv_has ls 8 (lvI bo a b i (oa 0))) (hc1 : cells + 1 ≤ 1090) (hs1 : slots + 6 ≤ 60551) (kk : (∀ (fo : Nat → Int64) (F : Nat → Int32) (G : Nat → Nat → Int32) (E : Nat → Int32) (K : Nat → Nat → Int32) (H : Heap) (locs : List Loc) (ls : Array Slot), cX F G E K → va_P D cl (lW bo kl fo oa ca ck F G ++ mW a ba ka E K) H → va_D (fun q : Nat => s.heap.size ≤ q) (lW bo kl fo oa ca ck F G ++ mW a ba ka E K) → va_S (fun q : Nat => s.heap.size ≤ q) s.heap H locs → lv_has ls 8 (lvI bo a b i (oa 0)) → W p l e room_1 s m #[Value.ref b] below meth c H locs (cells + 1) (slots + 6) Q (F0 m 1358 ls []))) : W p l e room_1 s m #[Value.ref b] below meth c H locs cells slots Q (F0 m 925 ls []) := by
  obtain ⟨hx, hb, hml, hown, hts, hX, hbl, hlt, hZ, hck, hcm, hKl, hKm⟩ := id S0
  obtain ⟨nC, nT, nR, nD, sz, pl, h⟩ := hR
  obtain ⟨h2, hC, h3, hT, h4, hR, h5, hN, h6, h8, h10, h13, h15, h17, h27, h24, hpl, hmp6⟩ := cR_ref h
  obtain ⟨k0, k1, k2, k3, k4, hsz, k13, s0, s1, hmp, mA, mB, mQ, mQT, z8, z11, hD1⟩ := cR_cls h
  have hR9 := R_bound h (xs (i + 1)) (xs (i + 2)) (xs (i + 3))
  refine lv_aload_n hx hb dK_925 rfl (lv_at hl 3 rfl) ?_
  obtain ⟨r1, r2, r3⟩ := hR9
  have x0 : (if mrx_X_bound nC nD (xs (i + 1)) (xs (i + 2)) (xs (i + 3)) = 0 then 0 else 1 : Int32) = 0 → mrx_X_bound nC nD (xs (i + 1)) (xs (i + 2)) (xs (i + 3)) = 0 := fun h9 => by
    by_cases c9 : mrx_X_bound nC nD (xs (i + 1)) (xs (i + 2)) (xs (i + 3)) = 0
    · exact c9
    · exfalso
      rw [if_neg c9] at h9
      exact absurd h9 (by decide)
  have hv : (if mrx_X_bound nC nD (xs (i + 1)) (xs (i + 2)) (xs (i + 3)) = 0 then 0 else 1 : Int32) = 0 → (if mrx_X_bound nC nD (xs (i + 1)) (xs (i + 2)) (xs (i + 3)) = 0 then vp_updL fo 0 (((mr_X_bound (G 0) (G 1) (G 2) (G 3) (G 4) (G 5) (G 6) (G 7) (G 14) nC nD (xs (i + 1)) (xs (i + 2)) (xs (i + 3))).1).toInt64) else fo) 0 = ((mr_M_bound (K 6) (K 7) (K 8) (K 9) (K 10) (K 11) (K 12) (K 19) nC nT nR nD (xs (i + 1)) (xs (i + 2)) (xs (i + 3))).1).toInt64 := fun h9 => by
    rw [if_pos (x0 h9), pk_uLs, r2 (x0 h9)]
  have hk : (upd E 0 ((mr_M_bound (K 6) (K 7) (K 8) (K 9) (K 10) (K 11) (K 12) (K 19) nC nT nR nD (xs (i + 1)) (xs (i + 2)) (xs (i + 3))).2.1)) 0 = (if mrx_X_bound nC nD (xs (i + 1)) (xs (i + 2)) (xs (i + 3)) = 0 then 0 else 1 : Int32) := by
    simp (config := { decide := true }) only [upd_if, ↓reduceIte]
    exact r1
  refine ld_arg S0 (k := 1) hL (by omega) hS (lv_at hl 4 rfl) (lv_at hl 0 rfl) (by decide) dK_926 dK_927 dK_929 dK_930 dK_931 ?_
  refine ld_arg S0 (k := 2) hL (by omega) hS (lv_at hl 4 rfl) (lv_at hl 0 rfl) (by decide) dK_932 dK_933 dK_935 dK_936 dK_937 ?_
  refine ld_arg S0 (k := 3) hL (by omega) hS (lv_at hl 4 rfl) (lv_at hl 0 rfl) (by decide) dK_938 dK_939 dK_941 dK_942 dK_943 ?_
  refine lv_aload_n hx hb dK_944 rfl (lv_at hl 1 rfl) ?_
  refine lw_call (n := 5) (w := lW bo kl fo oa ca ck F G) (rest := []) S0 (w_bound l hlt s hZ D cl hck oa ca ck F G bo kl fo (ap_P_l hP) (ap_T (ap_D_l hD)) hS.1 (fun q hq => hS.2.1 q hq (Nat.not_le.mpr hq)) (fun q hq h9 => absurd (ap_in_l hD hS (fun _ h => h) q h9) (Nat.not_le.mpr hq)) nC nD (xs (i + 1)) (xs (i + 2)) (xs (i + 3)) k0 hC k1 hN mA mB mQ) rfl rfl (Nat.le_of_ble_eq_true rfl) (Nat.le_of_ble_eq_true rfl) gLw_bound rfl (by decide +kernel) rfl hl.1 rfl (Nat.zero_le _) dK_945 hc1 hs1 hP hD hS (fun H locs hP hD hS => ?_)
  refine lv_istore (lv' := (5, .int (if mrx_X_bound nC nD (xs (i + 1)) (xs (i + 2)) (xs (i + 3)) = 0 then 0 else 1 : Int32)) :: lvI bo a b i (oa 0)) hx hb dK_948 hl (by decide) rfl (fun ls hl => ?_)
  refine lv_aload_n hx hb dK_950 rfl (lv_at hl 3 rfl) ?_
  refine ld_arg S0 (k := 1) hL (by omega) hS (lv_at hl 5 rfl) (lv_at hl 1 rfl) (by decide) dK_951 dK_952 dK_954 dK_955 dK_956 ?_
  refine ld_arg S0 (k := 2) hL (by omega) hS (lv_at hl 5 rfl) (lv_at hl 1 rfl) (by decide) dK_957 dK_958 dK_960 dK_961 dK_962 ?_
  refine ld_arg S0 (k := 3) hL (by omega) hS (lv_at hl 5 rfl) (lv_at hl 1 rfl) (by decide) dK_963 dK_964 dK_966 dK_967 dK_968 ?_
  refine lm_call (As := [.int (xs (i + 1)), .int (xs (i + 2)), .int (xs (i + 3))]) (rest := []) S0 (c_M_bound l D cl hcm a ba ka E K (ap_P_r hP) (ap_T (ap_D_r hD)) nC nT nR nD (xs (i + 1)) (xs (i + 2)) (xs (i + 3)) h2 hC h3 hT h4 hR h5 hN h6 h8 h10 h13 h15) (cwV 3 hts gLm_bound rfl rfl rfl (by decide +kernel) ⟨Nat.le_of_ble_eq_true rfl, Nat.le_of_ble_eq_true rfl⟩) hKm (va_recv hKm (ap_P_r hP) (ci := 0) (q0 := 0) hcm rfl) rfl hl.1 rfl (Nat.zero_le _) dK_969 hc1 hs1 hP hD hS (fun H locs hP hD hS => ?_)
  exact tail_I (q := 972) S0 hP hl hk hv dK_972 dK_974 dK_975 dK_978 dK_980 dK_985 dK_987 dK_990 dK_991 dK_992 dK_993 dK_995 dK_996 dK_997 dK_1002 (by decide) hc1 hs1 (fun ls hl => kk _ _ _ _ _ H locs ls r3 hP hD hS hl)
set_option maxHeartbeats 4000000 in
set_option maxRecDepth 100000 in
theorem lc_near {p : Program} {l : Launch} {e : Env} {s : State} {m : MethodId} {below : List Frame} {meth : Method} {c : Code} {b L : Nat} {xs : Nat → Int32} {D : va_G} {cl : List vw_C} {kl : ClassId} {ck ka : Nat → ClassId} {H : Heap} {locs : List Loc} {cells slots : Nat} {Q : State → Prop} {ls : Array Slot} {oa ca ba : Nat → Nat} {bo a : Nat} {fo : Nat → Int64} {F E : Nat → Int32} {G K : Nat → Nat → Int32} {i : Nat} (S0 : lwS p l s m c b L xs D cl kl ck ka) (hL : L ≤ 3585) (hi : i + 7 ≤ L) (hR : cX F G E K) (hP : va_P D cl (lW bo kl fo oa ca ck F G ++ mW a ba ka E K) H) (hD : va_D (fun q : Nat => s.heap.size ≤ q) (lW bo kl fo oa ca ck F G ++ mW a ba ka E K)) (hS : va_S (fun q : Nat => s.heap.size ≤ q) s.heap H locs) (hl : lv_has ls 8 (lvI bo a b i (oa 0))) (hc1 : cells + 1 ≤ 1090) (hs1 : slots + 6 ≤ 60551) (kk : (∀ (fo : Nat → Int64) (F : Nat → Int32) (G : Nat → Nat → Int32) (E : Nat → Int32) (K : Nat → Nat → Int32) (H : Heap) (locs : List Loc) (ls : Array Slot), cX F G E K → va_P D cl (lW bo kl fo oa ca ck F G ++ mW a ba ka E K) H → va_D (fun q : Nat => s.heap.size ≤ q) (lW bo kl fo oa ca ck F G ++ mW a ba ka E K) → va_S (fun q : Nat => s.heap.size ≤ q) s.heap H locs → lv_has ls 8 (lvI bo a b i (oa 0)) → W p l e room_1 s m #[Value.ref b] below meth c H locs (cells + 1) (slots + 6) Q (F0 m 1358 ls []))) : W p l e room_1 s m #[Value.ref b] below meth c H locs cells slots Q (F0 m 1005 ls []) := by
  obtain ⟨hx, hb, hml, hown, hts, hX, hbl, hlt, hZ, hck, hcm, hKl, hKm⟩ := id S0
  obtain ⟨nC, nT, nR, nD, sz, pl, h⟩ := hR
  obtain ⟨h2, hC, h3, hT, h4, hR, h5, hN, h6, h8, h10, h13, h15, h17, h27, h24, hpl, hmp6⟩ := cR_ref h
  obtain ⟨k0, k1, k2, k3, k4, hsz, k13, s0, s1, hmp, mA, mB, mQ, mQT, z8, z11, hD1⟩ := cR_cls h
  have hR9 := R_near h (xs (i + 1)) (xs (i + 2))
  refine lv_aload_n hx hb dK_1005 rfl (lv_at hl 3 rfl) ?_
  obtain ⟨r1, r2, r3⟩ := hR9
  have x0 : (if mrx_X_near (G 0) nC nD (xs (i + 1)) (xs (i + 2)) = 0 then 0 else 1 : Int32) = 0 → mrx_X_near (G 0) nC nD (xs (i + 1)) (xs (i + 2)) = 0 := fun h9 => by
    by_cases c9 : mrx_X_near (G 0) nC nD (xs (i + 1)) (xs (i + 2)) = 0
    · exact c9
    · exfalso
      rw [if_neg c9] at h9
      exact absurd h9 (by decide)
  have hv : (if mrx_X_near (G 0) nC nD (xs (i + 1)) (xs (i + 2)) = 0 then 0 else 1 : Int32) = 0 → (if mrx_X_near (G 0) nC nD (xs (i + 1)) (xs (i + 2)) = 0 then vp_updL fo 0 (((mr_X_near (G 0) (G 1) nC nD (xs (i + 1)) (xs (i + 2)))).toInt64) else fo) 0 = ((mr_M_near (K 6) (K 19) nC nD (xs (i + 1)) (xs (i + 2))).1).toInt64 := fun h9 => by
    rw [if_pos (x0 h9), pk_uLs, r2 (x0 h9)]
  have hk : (upd E 0 ((mr_M_near (K 6) (K 19) nC nD (xs (i + 1)) (xs (i + 2))).2.1)) 0 = (if mrx_X_near (G 0) nC nD (xs (i + 1)) (xs (i + 2)) = 0 then 0 else 1 : Int32) := by
    simp (config := { decide := true }) only [upd_if, ↓reduceIte]
    exact r1
  refine ld_arg S0 (k := 1) hL (by omega) hS (lv_at hl 4 rfl) (lv_at hl 0 rfl) (by decide) dK_1006 dK_1007 dK_1009 dK_1010 dK_1011 ?_
  refine ld_arg S0 (k := 2) hL (by omega) hS (lv_at hl 4 rfl) (lv_at hl 0 rfl) (by decide) dK_1012 dK_1013 dK_1015 dK_1016 dK_1017 ?_
  refine lv_aload_n hx hb dK_1018 rfl (lv_at hl 1 rfl) ?_
  refine lw_call (n := 4) (w := lW bo kl fo oa ca ck F G) (rest := []) S0 (w_near l hlt s hZ D cl hck oa ca ck F G bo kl fo (ap_P_l hP) (ap_T (ap_D_l hD)) hS.1 (fun q hq => hS.2.1 q hq (Nat.not_le.mpr hq)) (fun q hq h9 => absurd (ap_in_l hD hS (fun _ h => h) q h9) (Nat.not_le.mpr hq)) nC nD (xs (i + 1)) (xs (i + 2)) k0 hC k1) rfl rfl (Nat.le_of_ble_eq_true rfl) (Nat.le_of_ble_eq_true rfl) gLw_near rfl (by decide +kernel) rfl hl.1 rfl (Nat.zero_le _) dK_1019 hc1 hs1 hP hD hS (fun H locs hP hD hS => ?_)
  refine lv_istore (lv' := (5, .int (if mrx_X_near (G 0) nC nD (xs (i + 1)) (xs (i + 2)) = 0 then 0 else 1 : Int32)) :: lvI bo a b i (oa 0)) hx hb dK_1022 hl (by decide) rfl (fun ls hl => ?_)
  refine lv_aload_n hx hb dK_1024 rfl (lv_at hl 3 rfl) ?_
  refine ld_arg S0 (k := 1) hL (by omega) hS (lv_at hl 5 rfl) (lv_at hl 1 rfl) (by decide) dK_1025 dK_1026 dK_1028 dK_1029 dK_1030 ?_
  refine ld_arg S0 (k := 2) hL (by omega) hS (lv_at hl 5 rfl) (lv_at hl 1 rfl) (by decide) dK_1031 dK_1032 dK_1034 dK_1035 dK_1036 ?_
  refine lm_call (As := [.int (xs (i + 1)), .int (xs (i + 2))]) (rest := []) S0 (c_M_near l D cl hcm a ba ka E K (ap_P_r hP) (ap_T (ap_D_r hD)) nC nD (xs (i + 1)) (xs (i + 2)) h2 hC h5 hN h6) (cwV 2 hts gLm_near rfl rfl rfl (by decide +kernel) ⟨Nat.le_of_ble_eq_true rfl, Nat.le_of_ble_eq_true rfl⟩) hKm (va_recv hKm (ap_P_r hP) (ci := 0) (q0 := 0) hcm rfl) rfl hl.1 rfl (Nat.zero_le _) dK_1037 hc1 hs1 hP hD hS (fun H locs hP hD hS => ?_)
  exact tail_I (q := 1040) S0 hP hl hk hv dK_1040 dK_1042 dK_1043 dK_1046 dK_1048 dK_1053 dK_1055 dK_1058 dK_1059 dK_1060 dK_1061 dK_1063 dK_1064 dK_1065 dK_1070 (by decide) hc1 hs1 (fun ls hl => kk _ _ _ _ _ H locs ls r3 hP hD hS hl)
set_option maxHeartbeats 4000000 in
set_option maxRecDepth 100000 in
theorem lc_slack {p : Program} {l : Launch} {e : Env} {s : State} {m : MethodId} {below : List Frame} {meth : Method} {c : Code} {b L : Nat} {xs : Nat → Int32} {D : va_G} {cl : List vw_C} {kl : ClassId} {ck ka : Nat → ClassId} {H : Heap} {locs : List Loc} {cells slots : Nat} {Q : State → Prop} {ls : Array Slot} {oa ca ba : Nat → Nat} {bo a : Nat} {fo : Nat → Int64} {F E : Nat → Int32} {G K : Nat → Nat → Int32} {i : Nat} (S0 : lwS p l s m c b L xs D cl kl ck ka) (hL : L ≤ 3585) (hi : i + 7 ≤ L) (hR : cX F G E K) (hP : va_P D cl (lW bo kl fo oa ca ck F G ++ mW a ba ka E K) H) (hD : va_D (fun q : Nat => s.heap.size ≤ q) (lW bo kl fo oa ca ck F G ++ mW a ba ka E K)) (hS : va_S (fun q : Nat => s.heap.size ≤ q) s.heap H locs) (hl : lv_has ls 8 (lvI bo a b i (oa 0))) (hc1 : cells + 1 ≤ 1090) (hs1 : slots + 6 ≤ 60551) (kk : (∀ (fo : Nat → Int64) (F : Nat → Int32) (G : Nat → Nat → Int32) (E : Nat → Int32) (K : Nat → Nat → Int32) (H : Heap) (locs : List Loc) (ls : Array Slot), cX F G E K → va_P D cl (lW bo kl fo oa ca ck F G ++ mW a ba ka E K) H → va_D (fun q : Nat => s.heap.size ≤ q) (lW bo kl fo oa ca ck F G ++ mW a ba ka E K) → va_S (fun q : Nat => s.heap.size ≤ q) s.heap H locs → lv_has ls 8 (lvI bo a b i (oa 0)) → W p l e room_1 s m #[Value.ref b] below meth c H locs (cells + 1) (slots + 6) Q (F0 m 1358 ls []))) : W p l e room_1 s m #[Value.ref b] below meth c H locs cells slots Q (F0 m 1073 ls []) := by
  obtain ⟨hx, hb, hml, hown, hts, hX, hbl, hlt, hZ, hck, hcm, hKl, hKm⟩ := id S0
  obtain ⟨nC, nT, nR, nD, sz, pl, h⟩ := hR
  obtain ⟨h2, hC, h3, hT, h4, hR, h5, hN, h6, h8, h10, h13, h15, h17, h27, h24, hpl, hmp6⟩ := cR_ref h
  obtain ⟨k0, k1, k2, k3, k4, hsz, k13, s0, s1, hmp, mA, mB, mQ, mQT, z8, z11, hD1⟩ := cR_cls h
  have hR9 := R_slack h (xs (i + 1))
  refine lv_aload_n hx hb dK_1073 rfl (lv_at hl 3 rfl) ?_
  obtain ⟨r1, r2, r3⟩ := hR9
  have x0 : (if mrx_X_slack (xs (i + 1)) = 0 then 0 else 1 : Int32) = 0 → mrx_X_slack (xs (i + 1)) = 0 := fun h9 => by
    by_cases c9 : mrx_X_slack (xs (i + 1)) = 0
    · exact c9
    · exfalso
      rw [if_neg c9] at h9
      exact absurd h9 (by decide)
  have hv : (if mrx_X_slack (xs (i + 1)) = 0 then 0 else 1 : Int32) = 0 → (if mrx_X_slack (xs (i + 1)) = 0 then vp_updL fo 0 (((mr_X_slack (F 10) (xs (i + 1))).1).toInt64) else fo) 0 = ((mr_M_slack (E 21) (xs (i + 1))).1).toInt64 := fun h9 => by
    rw [if_pos (x0 h9), pk_uLs, r2 (x0 h9)]
  have hk : (upd (upd E 0 ((mr_M_slack (E 21) (xs (i + 1))).2.1)) 21 ((mr_M_slack (E 21) (xs (i + 1))).2.2)) 0 = (if mrx_X_slack (xs (i + 1)) = 0 then 0 else 1 : Int32) := by
    simp (config := { decide := true }) only [upd_if, ↓reduceIte]
    exact r1
  refine ld_arg S0 (k := 1) hL (by omega) hS (lv_at hl 4 rfl) (lv_at hl 0 rfl) (by decide) dK_1074 dK_1075 dK_1077 dK_1078 dK_1079 ?_
  refine lv_aload_n hx hb dK_1080 rfl (lv_at hl 1 rfl) ?_
  refine lw_call (n := 3) (w := lW bo kl fo oa ca ck F G) (rest := []) S0 (w_slack l hlt s hZ D cl hck oa ca ck F G bo kl fo (ap_P_l hP) (ap_T (ap_D_l hD)) hS.1 (fun q hq => hS.2.1 q hq (Nat.not_le.mpr hq)) (fun q hq h9 => absurd (ap_in_l hD hS (fun _ h => h) q h9) (Nat.not_le.mpr hq)) (xs (i + 1))) rfl rfl (Nat.le_of_ble_eq_true rfl) (Nat.le_of_ble_eq_true rfl) gLw_slack rfl (by decide +kernel) rfl hl.1 rfl (Nat.zero_le _) dK_1081 hc1 hs1 hP hD hS (fun H locs hP hD hS => ?_)
  refine lv_istore (lv' := (5, .int (if mrx_X_slack (xs (i + 1)) = 0 then 0 else 1 : Int32)) :: lvI bo a b i (oa 0)) hx hb dK_1084 hl (by decide) rfl (fun ls hl => ?_)
  refine lv_aload_n hx hb dK_1086 rfl (lv_at hl 3 rfl) ?_
  refine ld_arg S0 (k := 1) hL (by omega) hS (lv_at hl 5 rfl) (lv_at hl 1 rfl) (by decide) dK_1087 dK_1088 dK_1090 dK_1091 dK_1092 ?_
  refine lm_call (As := [.int (xs (i + 1))]) (rest := []) S0 (c_M_slack l D cl hcm a ba ka E K (ap_P_r hP) (ap_T (ap_D_r hD)) (xs (i + 1))) (cwV 1 hts gLm_slack rfl rfl rfl (by decide +kernel) ⟨Nat.le_of_ble_eq_true rfl, Nat.le_of_ble_eq_true rfl⟩) hKm (va_recv hKm (ap_P_r hP) (ci := 0) (q0 := 0) hcm rfl) rfl hl.1 rfl (Nat.zero_le _) dK_1093 hc1 hs1 hP hD hS (fun H locs hP hD hS => ?_)
  exact tail_I (q := 1096) S0 hP hl hk hv dK_1096 dK_1098 dK_1099 dK_1102 dK_1104 dK_1109 dK_1111 dK_1114 dK_1115 dK_1116 dK_1117 dK_1119 dK_1120 dK_1121 dK_1126 (by decide) hc1 hs1 (fun ls hl => kk _ _ _ _ _ H locs ls r3 hP hD hS hl)
