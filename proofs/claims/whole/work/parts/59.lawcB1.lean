set_option maxHeartbeats 4000000 in
set_option maxRecDepth 100000 in
theorem lc_value {p : Program} {l : Launch} {e : Env} {s : State} {m : MethodId} {below : List Frame} {meth : Method} {c : Code} {b L : Nat} {xs : Nat → Int32} {D : va_G} {cl : List vw_C} {kl : ClassId} {ck ka : Nat → ClassId} {H : Heap} {locs : List Loc} {cells slots : Nat} {Q : State → Prop} {ls : Array Slot} {oa ca ba : Nat → Nat} {bo a : Nat} {fo : Nat → Int64} {F E : Nat → Int32} {G K : Nat → Nat → Int32} {i : Nat} (S0 : lwS p l s m c b L xs D cl kl ck ka) (hL : L ≤ 3585) (hi : i + 7 ≤ L) (hR : cX F G E K) (hP : va_P D cl (lW bo kl fo oa ca ck F G ++ mW a ba ka E K) H) (hD : va_D (fun q : Nat => s.heap.size ≤ q) (lW bo kl fo oa ca ck F G ++ mW a ba ka E K)) (hS : va_S (fun q : Nat => s.heap.size ≤ q) s.heap H locs) (hl : lv_has ls 8 (lvI bo a b i (oa 0))) (hc1 : cells + 1 ≤ 1090) (hs1 : slots + 6 ≤ 60551) (kk : (∀ (fo : Nat → Int64) (F : Nat → Int32) (G : Nat → Nat → Int32) (E : Nat → Int32) (K : Nat → Nat → Int32) (H : Heap) (locs : List Loc) (ls : Array Slot), cX F G E K → va_P D cl (lW bo kl fo oa ca ck F G ++ mW a ba ka E K) H → va_D (fun q : Nat => s.heap.size ≤ q) (lW bo kl fo oa ca ck F G ++ mW a ba ka E K) → va_S (fun q : Nat => s.heap.size ≤ q) s.heap H locs → lv_has ls 8 (lvI bo a b i (oa 0)) → W p l e room_1 s m #[Value.ref b] below meth c H locs (cells + 1) (slots + 6) Q (F0 m 1358 ls []))) : W p l e room_1 s m #[Value.ref b] below meth c H locs cells slots Q (F0 m 581 ls []) := by
  obtain ⟨hx, hb, hml, hown, hts, hX, hbl, hlt, hZ, hck, hcm, hKl, hKm⟩ := id S0
  obtain ⟨nC, nT, nR, nD, sz, pl, h⟩ := hR
  obtain ⟨h2, hC, h3, hT, h4, hR, h5, hN, h6, h8, h10, h13, h15, h17, h27, h24, hpl, hmp6⟩ := cR_ref h
  obtain ⟨k0, k1, k2, k3, k4, hsz, k13, s0, s1, hmp, mA, mB, mQ, mQT, z8, z11, hD1⟩ := cR_cls h
  have hR9 := R_value h (xs (i + 1)) (xs (i + 2))
  refine lv_aload_n hx hb dK_581 rfl (lv_at hl 3 rfl) ?_
  obtain ⟨r1, r2, r3⟩ := hR9
  have x0 : (if mrx_X_value nC nD (xs (i + 1)) (xs (i + 2)) = 0 then 0 else 1 : Int32) = 0 → mrx_X_value nC nD (xs (i + 1)) (xs (i + 2)) = 0 := fun h9 => by
    by_cases c9 : mrx_X_value nC nD (xs (i + 1)) (xs (i + 2)) = 0
    · exact c9
    · exfalso
      rw [if_neg c9] at h9
      exact absurd h9 (by decide)
  have hv : (if mrx_X_value nC nD (xs (i + 1)) (xs (i + 2)) = 0 then 0 else 1 : Int32) = 0 → (if mrx_X_value nC nD (xs (i + 1)) (xs (i + 2)) = 0 then vp_updL fo 0 (((mr_X_value (G 0) (G 1) nC nD (xs (i + 1)) (xs (i + 2)))).toInt64) else fo) 0 = ((mr_M_value (K 6) (K 19) nC nD (xs (i + 1)) (xs (i + 2))).1).toInt64 := fun h9 => by
    rw [if_pos (x0 h9), pk_uLs, r2 (x0 h9)]
  have hk : (upd E 0 ((mr_M_value (K 6) (K 19) nC nD (xs (i + 1)) (xs (i + 2))).2.1)) 0 = (if mrx_X_value nC nD (xs (i + 1)) (xs (i + 2)) = 0 then 0 else 1 : Int32) := by
    simp (config := { decide := true }) only [upd_if, ↓reduceIte]
    exact r1
  refine ld_arg S0 (k := 1) hL (by omega) hS (lv_at hl 4 rfl) (lv_at hl 0 rfl) (by decide) dK_582 dK_583 dK_585 dK_586 dK_587 ?_
  refine ld_arg S0 (k := 2) hL (by omega) hS (lv_at hl 4 rfl) (lv_at hl 0 rfl) (by decide) dK_588 dK_589 dK_591 dK_592 dK_593 ?_
  refine lv_aload_n hx hb dK_594 rfl (lv_at hl 1 rfl) ?_
  refine lw_call (n := 4) (w := lW bo kl fo oa ca ck F G) (rest := []) S0 (w_value l hlt s hZ D cl hck oa ca ck F G bo kl fo (ap_P_l hP) (ap_T (ap_D_l hD)) hS.1 (fun q hq => hS.2.1 q hq (Nat.not_le.mpr hq)) (fun q hq h9 => absurd (ap_in_l hD hS (fun _ h => h) q h9) (Nat.not_le.mpr hq)) nC nD (xs (i + 1)) (xs (i + 2)) k0 hC k1 hN) rfl rfl (Nat.le_of_ble_eq_true rfl) (Nat.le_of_ble_eq_true rfl) gLw_value rfl (by decide +kernel) rfl hl.1 rfl (Nat.zero_le _) dK_595 hc1 hs1 hP hD hS (fun H locs hP hD hS => ?_)
  refine lv_istore (lv' := (5, .int (if mrx_X_value nC nD (xs (i + 1)) (xs (i + 2)) = 0 then 0 else 1 : Int32)) :: lvI bo a b i (oa 0)) hx hb dK_598 hl (by decide) rfl (fun ls hl => ?_)
  refine lv_aload_n hx hb dK_600 rfl (lv_at hl 3 rfl) ?_
  refine ld_arg S0 (k := 1) hL (by omega) hS (lv_at hl 5 rfl) (lv_at hl 1 rfl) (by decide) dK_601 dK_602 dK_604 dK_605 dK_606 ?_
  refine ld_arg S0 (k := 2) hL (by omega) hS (lv_at hl 5 rfl) (lv_at hl 1 rfl) (by decide) dK_607 dK_608 dK_610 dK_611 dK_612 ?_
  refine lm_call (As := [.int (xs (i + 1)), .int (xs (i + 2))]) (rest := []) S0 (c_M_value l D cl hcm a ba ka E K (ap_P_r hP) (ap_T (ap_D_r hD)) nC nD (xs (i + 1)) (xs (i + 2)) h2 hC h5 hN h6) (cwV 2 hts gLm_value rfl rfl rfl (by decide +kernel) ⟨Nat.le_of_ble_eq_true rfl, Nat.le_of_ble_eq_true rfl⟩) hKm (va_recv hKm (ap_P_r hP) (ci := 0) (q0 := 0) hcm rfl) rfl hl.1 rfl (Nat.zero_le _) dK_613 hc1 hs1 hP hD hS (fun H locs hP hD hS => ?_)
  exact tail_I (q := 616) S0 hP hl hk hv dK_616 dK_618 dK_619 dK_622 dK_624 dK_629 dK_631 dK_634 dK_635 dK_636 dK_637 dK_639 dK_640 dK_641 dK_646 (by decide) hc1 hs1 (fun ls hl => kk _ _ _ _ _ H locs ls r3 hP hD hS hl)
set_option maxHeartbeats 4000000 in
set_option maxRecDepth 100000 in
theorem lc_legal {p : Program} {l : Launch} {e : Env} {s : State} {m : MethodId} {below : List Frame} {meth : Method} {c : Code} {b L : Nat} {xs : Nat → Int32} {D : va_G} {cl : List vw_C} {kl : ClassId} {ck ka : Nat → ClassId} {H : Heap} {locs : List Loc} {cells slots : Nat} {Q : State → Prop} {ls : Array Slot} {oa ca ba : Nat → Nat} {bo a : Nat} {fo : Nat → Int64} {F E : Nat → Int32} {G K : Nat → Nat → Int32} {i : Nat} (S0 : lwS p l s m c b L xs D cl kl ck ka) (hL : L ≤ 3585) (hi : i + 7 ≤ L) (hR : cX F G E K) (hP : va_P D cl (lW bo kl fo oa ca ck F G ++ mW a ba ka E K) H) (hD : va_D (fun q : Nat => s.heap.size ≤ q) (lW bo kl fo oa ca ck F G ++ mW a ba ka E K)) (hS : va_S (fun q : Nat => s.heap.size ≤ q) s.heap H locs) (hl : lv_has ls 8 (lvI bo a b i (oa 0))) (hc1 : cells + 1 ≤ 1090) (hs1 : slots + 6 ≤ 60551) (kk : (∀ (fo : Nat → Int64) (F : Nat → Int32) (G : Nat → Nat → Int32) (E : Nat → Int32) (K : Nat → Nat → Int32) (H : Heap) (locs : List Loc) (ls : Array Slot), cX F G E K → va_P D cl (lW bo kl fo oa ca ck F G ++ mW a ba ka E K) H → va_D (fun q : Nat => s.heap.size ≤ q) (lW bo kl fo oa ca ck F G ++ mW a ba ka E K) → va_S (fun q : Nat => s.heap.size ≤ q) s.heap H locs → lv_has ls 8 (lvI bo a b i (oa 0)) → W p l e room_1 s m #[Value.ref b] below meth c H locs (cells + 1) (slots + 6) Q (F0 m 1358 ls []))) : W p l e room_1 s m #[Value.ref b] below meth c H locs cells slots Q (F0 m 649 ls []) := by
  obtain ⟨hx, hb, hml, hown, hts, hX, hbl, hlt, hZ, hck, hcm, hKl, hKm⟩ := id S0
  obtain ⟨nC, nT, nR, nD, sz, pl, h⟩ := hR
  obtain ⟨h2, hC, h3, hT, h4, hR, h5, hN, h6, h8, h10, h13, h15, h17, h27, h24, hpl, hmp6⟩ := cR_ref h
  obtain ⟨k0, k1, k2, k3, k4, hsz, k13, s0, s1, hmp, mA, mB, mQ, mQT, z8, z11, hD1⟩ := cR_cls h
  have hR9 := R_legal h (xs (i + 1))
  refine lv_aload_n hx hb dK_649 rfl (lv_at hl 3 rfl) ?_
  obtain ⟨r1, r2, r3⟩ := hR9
  have x0 : (if mrx_X_legal nD (xs (i + 1)) = 0 then 0 else 1 : Int32) = 0 → mrx_X_legal nD (xs (i + 1)) = 0 := fun h9 => by
    by_cases c9 : mrx_X_legal nD (xs (i + 1)) = 0
    · exact c9
    · exfalso
      rw [if_neg c9] at h9
      exact absurd h9 (by decide)
  have hv : (if mrx_X_legal nD (xs (i + 1)) = 0 then 0 else 1 : Int32) = 0 → (if mrx_X_legal nD (xs (i + 1)) = 0 then vp_updL fo 0 ((if (mr_X_legal (G 8) (G 9) (G 10) (G 11) nD (xs (i + 1))) = 0 then 0 else 1 : Int64)) else fo) 0 = (if (mr_M_legal (E 26) (K 6) (K 7) (K 8) (K 9) (K 10) (K 11) (K 12) (K 13) (K 14) (K 15) (K 16) (K 17) (K 18) (K 19) (K 27) (K 28) nC nT nR nD (xs (i + 1))).1 = 0 then 0 else 1 : Int64) := fun h9 => by
    rw [if_pos (x0 h9), pk_uLs, r2 (x0 h9)]
  have hk : (upd (upd E 0 ((mr_M_legal (E 26) (K 6) (K 7) (K 8) (K 9) (K 10) (K 11) (K 12) (K 13) (K 14) (K 15) (K 16) (K 17) (K 18) (K 19) (K 27) (K 28) nC nT nR nD (xs (i + 1))).2.1)) 26 ((mr_M_legal (E 26) (K 6) (K 7) (K 8) (K 9) (K 10) (K 11) (K 12) (K 13) (K 14) (K 15) (K 16) (K 17) (K 18) (K 19) (K 27) (K 28) nC nT nR nD (xs (i + 1))).2.2.1)) 0 = (if mrx_X_legal nD (xs (i + 1)) = 0 then 0 else 1 : Int32) := by
    simp (config := { decide := true }) only [upd_if, ↓reduceIte]
    exact r1
  refine ld_arg S0 (k := 1) hL (by omega) hS (lv_at hl 4 rfl) (lv_at hl 0 rfl) (by decide) dK_650 dK_651 dK_653 dK_654 dK_655 ?_
  refine lv_aload_n hx hb dK_656 rfl (lv_at hl 1 rfl) ?_
  refine lw_call (n := 3) (w := lW bo kl fo oa ca ck F G) (rest := []) S0 (w_legal l hlt s hZ D cl hck oa ca ck F G bo kl fo (ap_P_l hP) (ap_T (ap_D_l hD)) hS.1 (fun q hq => hS.2.1 q hq (Nat.not_le.mpr hq)) (fun q hq h9 => absurd (ap_in_l hD hS (fun _ h => h) q h9) (Nat.not_le.mpr hq)) nD (xs (i + 1)) k1 hN) rfl rfl (Nat.le_of_ble_eq_true rfl) (Nat.le_of_ble_eq_true rfl) gLw_legal rfl (by decide +kernel) rfl hl.1 rfl (Nat.zero_le _) dK_657 hc1 hs1 hP hD hS (fun H locs hP hD hS => ?_)
  refine lv_istore (lv' := (5, .int (if mrx_X_legal nD (xs (i + 1)) = 0 then 0 else 1 : Int32)) :: lvI bo a b i (oa 0)) hx hb dK_660 hl (by decide) rfl (fun ls hl => ?_)
  refine lv_aload_n hx hb dK_662 rfl (lv_at hl 3 rfl) ?_
  refine ld_arg S0 (k := 1) hL (by omega) hS (lv_at hl 5 rfl) (lv_at hl 1 rfl) (by decide) dK_663 dK_664 dK_666 dK_667 dK_668 ?_
  refine lm_call (As := [.int (xs (i + 1))]) (rest := []) S0 (c_M_legal l D cl hcm a ba ka E K (ap_P_r hP) (ap_T (ap_D_r hD)) nC nT nR nD (xs (i + 1)) h2 hC h3 hT h4 hR h5 hN h6 h8 h10 h13 h15 h27) (cwV 1 hts gLm_legal rfl rfl rfl (by decide +kernel) ⟨Nat.le_of_ble_eq_true rfl, Nat.le_of_ble_eq_true rfl⟩) hKm (va_recv hKm (ap_P_r hP) (ci := 0) (q0 := 0) hcm rfl) rfl hl.1 rfl (Nat.zero_le _) dK_669 hc1 hs1 hP hD hS (fun H locs hP hD hS => ?_)
  exact tail_Z (q := 672) S0 hP hl hk hv dK_672 dK_674 dK_675 dK_678 dK_680 dK_685 dK_687 dK_690 dK_691 dK_692 dK_693 dK_695 dK_698 dK_699 dK_702 dK_703 dK_704 dK_709 (by decide) hc1 hs1 (fun ls hl => kk _ _ _ _ _ H locs ls r3 hP hD hS hl)
set_option maxHeartbeats 4000000 in
set_option maxRecDepth 100000 in
theorem lc_beats {p : Program} {l : Launch} {e : Env} {s : State} {m : MethodId} {below : List Frame} {meth : Method} {c : Code} {b L : Nat} {xs : Nat → Int32} {D : va_G} {cl : List vw_C} {kl : ClassId} {ck ka : Nat → ClassId} {H : Heap} {locs : List Loc} {cells slots : Nat} {Q : State → Prop} {ls : Array Slot} {oa ca ba : Nat → Nat} {bo a : Nat} {fo : Nat → Int64} {F E : Nat → Int32} {G K : Nat → Nat → Int32} {i : Nat} (S0 : lwS p l s m c b L xs D cl kl ck ka) (hL : L ≤ 3585) (hi : i + 7 ≤ L) (hR : cX F G E K) (hP : va_P D cl (lW bo kl fo oa ca ck F G ++ mW a ba ka E K) H) (hD : va_D (fun q : Nat => s.heap.size ≤ q) (lW bo kl fo oa ca ck F G ++ mW a ba ka E K)) (hS : va_S (fun q : Nat => s.heap.size ≤ q) s.heap H locs) (hl : lv_has ls 8 (lvI bo a b i (oa 0))) (hc1 : cells + 1 ≤ 1090) (hs1 : slots + 6 ≤ 60551) (kk : (∀ (fo : Nat → Int64) (F : Nat → Int32) (G : Nat → Nat → Int32) (E : Nat → Int32) (K : Nat → Nat → Int32) (H : Heap) (locs : List Loc) (ls : Array Slot), cX F G E K → va_P D cl (lW bo kl fo oa ca ck F G ++ mW a ba ka E K) H → va_D (fun q : Nat => s.heap.size ≤ q) (lW bo kl fo oa ca ck F G ++ mW a ba ka E K) → va_S (fun q : Nat => s.heap.size ≤ q) s.heap H locs → lv_has ls 8 (lvI bo a b i (oa 0)) → W p l e room_1 s m #[Value.ref b] below meth c H locs (cells + 1) (slots + 6) Q (F0 m 1358 ls []))) : W p l e room_1 s m #[Value.ref b] below meth c H locs cells slots Q (F0 m 712 ls []) := by
  obtain ⟨hx, hb, hml, hown, hts, hX, hbl, hlt, hZ, hck, hcm, hKl, hKm⟩ := id S0
  obtain ⟨nC, nT, nR, nD, sz, pl, h⟩ := hR
  obtain ⟨h2, hC, h3, hT, h4, hR, h5, hN, h6, h8, h10, h13, h15, h17, h27, h24, hpl, hmp6⟩ := cR_ref h
  obtain ⟨k0, k1, k2, k3, k4, hsz, k13, s0, s1, hmp, mA, mB, mQ, mQT, z8, z11, hD1⟩ := cR_cls h
  have hR9 := R_beats h (xs (i + 1)) (xs (i + 2))
  refine lv_aload_n hx hb dK_712 rfl (lv_at hl 3 rfl) ?_
  obtain ⟨r1, r2, r3⟩ := hR9
  have x0 : (if mrx_X_beats (G 8) (G 9) (G 10) (G 11) nD (xs (i + 1)) (xs (i + 2)) = 0 then 0 else if mrx_X_beats (G 8) (G 9) (G 10) (G 11) nD (xs (i + 1)) (xs (i + 2)) = 1 then 1 else 2 : Int32) = 0 → mrx_X_beats (G 8) (G 9) (G 10) (G 11) nD (xs (i + 1)) (xs (i + 2)) = 0 := fun h9 => by
    by_cases c9 : mrx_X_beats (G 8) (G 9) (G 10) (G 11) nD (xs (i + 1)) (xs (i + 2)) = 0
    · exact c9
    · exfalso
      rw [if_neg c9] at h9
      by_cases c1 : mrx_X_beats (G 8) (G 9) (G 10) (G 11) nD (xs (i + 1)) (xs (i + 2)) = 1
      · rw [if_pos c1] at h9; exact absurd h9 (by decide)
      rw [if_neg c1] at h9
      exact absurd h9 (by decide)
  have hv : (if mrx_X_beats (G 8) (G 9) (G 10) (G 11) nD (xs (i + 1)) (xs (i + 2)) = 0 then 0 else if mrx_X_beats (G 8) (G 9) (G 10) (G 11) nD (xs (i + 1)) (xs (i + 2)) = 1 then 1 else 2 : Int32) = 0 → (if mrx_X_beats (G 8) (G 9) (G 10) (G 11) nD (xs (i + 1)) (xs (i + 2)) = 0 then vp_updL fo 0 ((if (mr_X_beats (G 8) (G 9) (G 10) (G 11) nD (xs (i + 1)) (xs (i + 2))) = 0 then 0 else 1 : Int64)) else fo) 0 = (if (mr_M_beats (E 26) (K 6) (K 7) (K 8) (K 9) (K 10) (K 11) (K 12) (K 13) (K 14) (K 15) (K 16) (K 17) (K 18) (K 19) (K 27) (K 28) nC nT nR nD (xs (i + 1)) (xs (i + 2))).1 = 0 then 0 else 1 : Int64) := fun h9 => by
    rw [if_pos (x0 h9), pk_uLs, r2 (x0 h9)]
  have hk : (upd (upd E 0 ((mr_M_beats (E 26) (K 6) (K 7) (K 8) (K 9) (K 10) (K 11) (K 12) (K 13) (K 14) (K 15) (K 16) (K 17) (K 18) (K 19) (K 27) (K 28) nC nT nR nD (xs (i + 1)) (xs (i + 2))).2.1)) 26 ((mr_M_beats (E 26) (K 6) (K 7) (K 8) (K 9) (K 10) (K 11) (K 12) (K 13) (K 14) (K 15) (K 16) (K 17) (K 18) (K 19) (K 27) (K 28) nC nT nR nD (xs (i + 1)) (xs (i + 2))).2.2.1)) 0 = (if mrx_X_beats (G 8) (G 9) (G 10) (G 11) nD (xs (i + 1)) (xs (i + 2)) = 0 then 0 else if mrx_X_beats (G 8) (G 9) (G 10) (G 11) nD (xs (i + 1)) (xs (i + 2)) = 1 then 1 else 2 : Int32) := by
    simp (config := { decide := true }) only [upd_if, ↓reduceIte]
    exact r1
  refine ld_arg S0 (k := 1) hL (by omega) hS (lv_at hl 4 rfl) (lv_at hl 0 rfl) (by decide) dK_713 dK_714 dK_716 dK_717 dK_718 ?_
  refine ld_arg S0 (k := 2) hL (by omega) hS (lv_at hl 4 rfl) (lv_at hl 0 rfl) (by decide) dK_719 dK_720 dK_722 dK_723 dK_724 ?_
  refine lv_aload_n hx hb dK_725 rfl (lv_at hl 1 rfl) ?_
  refine lw_call (n := 4) (w := lW bo kl fo oa ca ck F G) (rest := []) S0 (w_beats l hlt s hZ D cl hck oa ca ck F G bo kl fo (ap_P_l hP) (ap_T (ap_D_l hD)) hS.1 (fun q hq => hS.2.1 q hq (Nat.not_le.mpr hq)) (fun q hq h9 => absurd (ap_in_l hD hS (fun _ h => h) q h9) (Nat.not_le.mpr hq)) nD (xs (i + 1)) (xs (i + 2)) k1 hN) rfl rfl (Nat.le_of_ble_eq_true rfl) (Nat.le_of_ble_eq_true rfl) gLw_beats rfl (by decide +kernel) rfl hl.1 rfl (Nat.zero_le _) dK_726 hc1 hs1 hP hD hS (fun H locs hP hD hS => ?_)
  refine lv_istore (lv' := (5, .int (if mrx_X_beats (G 8) (G 9) (G 10) (G 11) nD (xs (i + 1)) (xs (i + 2)) = 0 then 0 else if mrx_X_beats (G 8) (G 9) (G 10) (G 11) nD (xs (i + 1)) (xs (i + 2)) = 1 then 1 else 2 : Int32)) :: lvI bo a b i (oa 0)) hx hb dK_729 hl (by decide) rfl (fun ls hl => ?_)
  refine lv_aload_n hx hb dK_731 rfl (lv_at hl 3 rfl) ?_
  refine ld_arg S0 (k := 1) hL (by omega) hS (lv_at hl 5 rfl) (lv_at hl 1 rfl) (by decide) dK_732 dK_733 dK_735 dK_736 dK_737 ?_
  refine ld_arg S0 (k := 2) hL (by omega) hS (lv_at hl 5 rfl) (lv_at hl 1 rfl) (by decide) dK_738 dK_739 dK_741 dK_742 dK_743 ?_
  refine lm_call (As := [.int (xs (i + 1)), .int (xs (i + 2))]) (rest := []) S0 (c_M_beats l D cl hcm a ba ka E K (ap_P_r hP) (ap_T (ap_D_r hD)) nC nT nR nD (xs (i + 1)) (xs (i + 2)) h2 hC h3 hT h4 hR h5 hN h6 h8 h10 h13 h15) (cwV 2 hts gLm_beats rfl rfl rfl (by decide +kernel) ⟨Nat.le_of_ble_eq_true rfl, Nat.le_of_ble_eq_true rfl⟩) hKm (va_recv hKm (ap_P_r hP) (ci := 0) (q0 := 0) hcm rfl) rfl hl.1 rfl (Nat.zero_le _) dK_744 hc1 hs1 hP hD hS (fun H locs hP hD hS => ?_)
  exact tail_Z (q := 747) S0 hP hl hk hv dK_747 dK_749 dK_750 dK_753 dK_755 dK_760 dK_762 dK_765 dK_766 dK_767 dK_768 dK_770 dK_773 dK_774 dK_777 dK_778 dK_779 dK_784 (by decide) hc1 hs1 (fun ls hl => kk _ _ _ _ _ H locs ls r3 hP hD hS hl)
set_option maxHeartbeats 4000000 in
set_option maxRecDepth 100000 in
theorem lc_undominated {p : Program} {l : Launch} {e : Env} {s : State} {m : MethodId} {below : List Frame} {meth : Method} {c : Code} {b L : Nat} {xs : Nat → Int32} {D : va_G} {cl : List vw_C} {kl : ClassId} {ck ka : Nat → ClassId} {H : Heap} {locs : List Loc} {cells slots : Nat} {Q : State → Prop} {ls : Array Slot} {oa ca ba : Nat → Nat} {bo a : Nat} {fo : Nat → Int64} {F E : Nat → Int32} {G K : Nat → Nat → Int32} {i : Nat} (S0 : lwS p l s m c b L xs D cl kl ck ka) (hL : L ≤ 3585) (hi : i + 7 ≤ L) (hR : cX F G E K) (hP : va_P D cl (lW bo kl fo oa ca ck F G ++ mW a ba ka E K) H) (hD : va_D (fun q : Nat => s.heap.size ≤ q) (lW bo kl fo oa ca ck F G ++ mW a ba ka E K)) (hS : va_S (fun q : Nat => s.heap.size ≤ q) s.heap H locs) (hl : lv_has ls 8 (lvI bo a b i (oa 0))) (hc1 : cells + 1 ≤ 1090) (hs1 : slots + 6 ≤ 60551) (kk : (∀ (fo : Nat → Int64) (F : Nat → Int32) (G : Nat → Nat → Int32) (E : Nat → Int32) (K : Nat → Nat → Int32) (H : Heap) (locs : List Loc) (ls : Array Slot), cX F G E K → va_P D cl (lW bo kl fo oa ca ck F G ++ mW a ba ka E K) H → va_D (fun q : Nat => s.heap.size ≤ q) (lW bo kl fo oa ca ck F G ++ mW a ba ka E K) → va_S (fun q : Nat => s.heap.size ≤ q) s.heap H locs → lv_has ls 8 (lvI bo a b i (oa 0)) → W p l e room_1 s m #[Value.ref b] below meth c H locs (cells + 1) (slots + 6) Q (F0 m 1358 ls []))) : W p l e room_1 s m #[Value.ref b] below meth c H locs cells slots Q (F0 m 787 ls []) := by
  obtain ⟨hx, hb, hml, hown, hts, hX, hbl, hlt, hZ, hck, hcm, hKl, hKm⟩ := id S0
  obtain ⟨nC, nT, nR, nD, sz, pl, h⟩ := hR
  obtain ⟨h2, hC, h3, hT, h4, hR, h5, hN, h6, h8, h10, h13, h15, h17, h27, h24, hpl, hmp6⟩ := cR_ref h
  obtain ⟨k0, k1, k2, k3, k4, hsz, k13, s0, s1, hmp, mA, mB, mQ, mQT, z8, z11, hD1⟩ := cR_cls h
  have hR9 := R_undominated h 
  refine lv_aload_n hx hb dK_787 rfl (lv_at hl 3 rfl) ?_
  obtain ⟨r2, r3⟩ := hR9
  have hKc : va_K D cl (cT ck) s := ⟨hKl.1, fun k q hk => hKl.2 (k + 1) q hk⟩
  have hPc : va_P D cl (cW oa ca ck F G) H := fun k q hk => ap_P_l hP (k + 1) q hk
  refine lx_call (o := (bo, .inl (kl, 1, .inr (.inl fo)))) (v := cW oa ca ck F G) (w := mW a ba ka E K) (As := []) (rest := []) S0 (c_X_undominated l D cl hck oa ca ck F G hPc (ap_T (ap_D_r (w := [(bo, .inl (kl, 1, .inr (.inl fo)))]) (v := cW oa ca ck F G) (ap_D_l hD))) nD k1 hN) (cwV 0 hts gLx_undominated rfl rfl rfl (by decide +kernel) ⟨Nat.le_of_ble_eq_true rfl, Nat.le_of_ble_eq_true rfl⟩) hKc (va_recv hKl (ap_P_l hP) (ci := 1) (q0 := 1) hck.1 rfl) rfl hl.1 rfl (Nat.zero_le _) dK_788 (Nat.le_trans (Nat.le_succ _) hc1) (Nat.le_trans (Nat.le_add_right _ _) hs1) hP hD hS (fun H locs hP hD hS => ?_)
  have hP : va_P D cl (lW bo kl fo oa ca ck (upd (upd F 4 ((mr_X_undominated (F 4) (F 5) (G 8) (G 9) (G 10) (G 11) (G 12) (G 13) nD).2.1)) 5 ((mr_X_undominated (F 4) (F 5) (G 8) (G 9) (G 10) (G 11) (G 12) (G 13) nD).2.2.1)) (va_up (va_up G 12 ((mr_X_undominated (F 4) (F 5) (G 8) (G 9) (G 10) (G 11) (G 12) (G 13) nD).2.2.2.1)) 13 ((mr_X_undominated (F 4) (F 5) (G 8) (G 9) (G 10) (G 11) (G 12) (G 13) nD).2.2.2.2)) ++ mW a ba ka E K) H := hP
  have hD : va_D (fun q : Nat => s.heap.size ≤ q) (lW bo kl fo oa ca ck (upd (upd F 4 ((mr_X_undominated (F 4) (F 5) (G 8) (G 9) (G 10) (G 11) (G 12) (G 13) nD).2.1)) 5 ((mr_X_undominated (F 4) (F 5) (G 8) (G 9) (G 10) (G 11) (G 12) (G 13) nD).2.2.1)) (va_up (va_up G 12 ((mr_X_undominated (F 4) (F 5) (G 8) (G 9) (G 10) (G 11) (G 12) (G 13) nD).2.2.2.1)) 13 ((mr_X_undominated (F 4) (F 5) (G 8) (G 9) (G 10) (G 11) (G 12) (G 13) nD).2.2.2.2)) ++ mW a ba ka E K) := hD
  refine lv_aload_n hx hb dK_791 rfl (lv_at hl 2 rfl) ?_
  refine lm_call (As := []) (rest := [.int (mr_X_undominated (F 4) (F 5) (G 8) (G 9) (G 10) (G 11) (G 12) (G 13) nD).1]) S0 (c_M_undominated l D cl hcm a ba ka E K (ap_P_r hP) (ap_T (ap_D_r hD)) nC nT nR nD h2 hC h3 hT h4 hR h5 hN h6 h8 h10 h13 h15) (cwV 0 hts gLm_undominated rfl rfl rfl (by decide +kernel) ⟨Nat.le_of_ble_eq_true rfl, Nat.le_of_ble_eq_true rfl⟩) hKm (va_recv hKm (ap_P_r hP) (ci := 0) (q0 := 0) hcm rfl) rfl hl.1 rfl (Nat.le_of_ble_eq_true rfl) dK_792 (Nat.le_trans (Nat.le_succ _) hc1) (Nat.le_trans (Nat.le_add_right _ _) hs1) hP hD hS (fun H locs hP hD hS => ?_)
  refine lv_icmp_eq (tgt := 1358) hx hb dK_795 (by decide) (fun _ => ?_) (fun c9 => absurd r2 c9)
  refine W.widen (k := cells + 1) (n := slots + 6) (Nat.le_succ _) (Nat.le_add_right _ _) ?_
  exact kk _ _ _ _ _ H locs ls r3 hP hD hS hl
set_option maxHeartbeats 4000000 in
set_option maxRecDepth 100000 in
theorem lc_at {p : Program} {l : Launch} {e : Env} {s : State} {m : MethodId} {below : List Frame} {meth : Method} {c : Code} {b L : Nat} {xs : Nat → Int32} {D : va_G} {cl : List vw_C} {kl : ClassId} {ck ka : Nat → ClassId} {H : Heap} {locs : List Loc} {cells slots : Nat} {Q : State → Prop} {ls : Array Slot} {oa ca ba : Nat → Nat} {bo a : Nat} {fo : Nat → Int64} {F E : Nat → Int32} {G K : Nat → Nat → Int32} {i : Nat} (S0 : lwS p l s m c b L xs D cl kl ck ka) (hL : L ≤ 3585) (hi : i + 7 ≤ L) (hR : cX F G E K) (hP : va_P D cl (lW bo kl fo oa ca ck F G ++ mW a ba ka E K) H) (hD : va_D (fun q : Nat => s.heap.size ≤ q) (lW bo kl fo oa ca ck F G ++ mW a ba ka E K)) (hS : va_S (fun q : Nat => s.heap.size ≤ q) s.heap H locs) (hl : lv_has ls 8 (lvI bo a b i (oa 0))) (hc1 : cells + 1 ≤ 1090) (hs1 : slots + 6 ≤ 60551) (kk : (∀ (fo : Nat → Int64) (F : Nat → Int32) (G : Nat → Nat → Int32) (E : Nat → Int32) (K : Nat → Nat → Int32) (H : Heap) (locs : List Loc) (ls : Array Slot), cX F G E K → va_P D cl (lW bo kl fo oa ca ck F G ++ mW a ba ka E K) H → va_D (fun q : Nat => s.heap.size ≤ q) (lW bo kl fo oa ca ck F G ++ mW a ba ka E K) → va_S (fun q : Nat => s.heap.size ≤ q) s.heap H locs → lv_has ls 8 (lvI bo a b i (oa 0)) → W p l e room_1 s m #[Value.ref b] below meth c H locs (cells + 1) (slots + 6) Q (F0 m 1358 ls []))) : W p l e room_1 s m #[Value.ref b] below meth c H locs cells slots Q (F0 m 800 ls []) := by
  obtain ⟨hx, hb, hml, hown, hts, hX, hbl, hlt, hZ, hck, hcm, hKl, hKm⟩ := id S0
  obtain ⟨nC, nT, nR, nD, sz, pl, h⟩ := hR
  obtain ⟨h2, hC, h3, hT, h4, hR, h5, hN, h6, h8, h10, h13, h15, h17, h27, h24, hpl, hmp6⟩ := cR_ref h
  obtain ⟨k0, k1, k2, k3, k4, hsz, k13, s0, s1, hmp, mA, mB, mQ, mQT, z8, z11, hD1⟩ := cR_cls h
  have hR9 := R_at h (xs (i + 1))
  refine lv_aload_n hx hb dK_800 rfl (lv_at hl 3 rfl) ?_
  obtain ⟨r1, r2, r3⟩ := hR9
  have x0 : (if mrx_X_at (F 4) (F 5) (G 8) (G 9) (G 10) (G 11) (G 12) (G 13) nD sz (xs (i + 1)) = 0 then 0 else 1 : Int32) = 0 → mrx_X_at (F 4) (F 5) (G 8) (G 9) (G 10) (G 11) (G 12) (G 13) nD sz (xs (i + 1)) = 0 := fun h9 => by
    by_cases c9 : mrx_X_at (F 4) (F 5) (G 8) (G 9) (G 10) (G 11) (G 12) (G 13) nD sz (xs (i + 1)) = 0
    · exact c9
    · exfalso
      rw [if_neg c9] at h9
      exact absurd h9 (by decide)
  have hv : (if mrx_X_at (F 4) (F 5) (G 8) (G 9) (G 10) (G 11) (G 12) (G 13) nD sz (xs (i + 1)) = 0 then 0 else 1 : Int32) = 0 → (if mrx_X_at (F 4) (F 5) (G 8) (G 9) (G 10) (G 11) (G 12) (G 13) nD sz (xs (i + 1)) = 0 then vp_updL fo 0 (((mr_X_at (F 4) (F 5) (G 8) (G 9) (G 10) (G 11) (G 12) (G 13) nD sz (xs (i + 1))).1).toInt64) else fo) 0 = ((mr_M_at (E 0) (E 26) (K 6) (K 7) (K 8) (K 9) (K 10) (K 11) (K 12) (K 13) (K 14) (K 15) (K 16) (K 17) (K 18) (K 19) (K 27) (K 28) nC nT nR nD (xs (i + 1))).1).toInt64 := fun h9 => by
    rw [if_pos (x0 h9), pk_uLs, r2 (x0 h9)]
  have hk : (upd (upd E 0 ((mr_M_at (E 0) (E 26) (K 6) (K 7) (K 8) (K 9) (K 10) (K 11) (K 12) (K 13) (K 14) (K 15) (K 16) (K 17) (K 18) (K 19) (K 27) (K 28) nC nT nR nD (xs (i + 1))).2.1)) 26 ((mr_M_at (E 0) (E 26) (K 6) (K 7) (K 8) (K 9) (K 10) (K 11) (K 12) (K 13) (K 14) (K 15) (K 16) (K 17) (K 18) (K 19) (K 27) (K 28) nC nT nR nD (xs (i + 1))).2.2.1)) 0 = (if mrx_X_at (F 4) (F 5) (G 8) (G 9) (G 10) (G 11) (G 12) (G 13) nD sz (xs (i + 1)) = 0 then 0 else 1 : Int32) := by
    simp (config := { decide := true }) only [upd_if, ↓reduceIte]
    exact r1
  refine ld_arg S0 (k := 1) hL (by omega) hS (lv_at hl 4 rfl) (lv_at hl 0 rfl) (by decide) dK_801 dK_802 dK_804 dK_805 dK_806 ?_
  refine lv_aload_n hx hb dK_807 rfl (lv_at hl 1 rfl) ?_
  refine lw_call (n := 3) (w := lW bo kl fo oa ca ck F G) (rest := []) S0 (w_at l hlt s hZ D cl hck oa ca ck F G bo kl fo (ap_P_l hP) (ap_T (ap_D_l hD)) hS.1 (fun q hq => hS.2.1 q hq (Nat.not_le.mpr hq)) (fun q hq h9 => absurd (ap_in_l hD hS (fun _ h => h) q h9) (Nat.not_le.mpr hq)) nD sz (xs (i + 1)) k1 hN k4 hsz) rfl rfl (Nat.le_of_ble_eq_true rfl) (Nat.le_of_ble_eq_true rfl) gLw_at rfl (by decide +kernel) rfl hl.1 rfl (Nat.zero_le _) dK_808 hc1 hs1 hP hD hS (fun H locs hP hD hS => ?_)
  refine lv_istore (lv' := (5, .int (if mrx_X_at (F 4) (F 5) (G 8) (G 9) (G 10) (G 11) (G 12) (G 13) nD sz (xs (i + 1)) = 0 then 0 else 1 : Int32)) :: lvI bo a b i (oa 0)) hx hb dK_811 hl (by decide) rfl (fun ls hl => ?_)
  refine lv_aload_n hx hb dK_813 rfl (lv_at hl 3 rfl) ?_
  refine ld_arg S0 (k := 1) hL (by omega) hS (lv_at hl 5 rfl) (lv_at hl 1 rfl) (by decide) dK_814 dK_815 dK_817 dK_818 dK_819 ?_
  refine lm_call (As := [.int (xs (i + 1))]) (rest := []) S0 (c_M_at l D cl hcm a ba ka E K (ap_P_r hP) (ap_T (ap_D_r hD)) nC nT nR nD (xs (i + 1)) h2 hC h3 hT h4 hR h5 hN h6 h8 h10 h13 h15) (cwV 1 hts gLm_at rfl rfl rfl (by decide +kernel) ⟨Nat.le_of_ble_eq_true rfl, Nat.le_of_ble_eq_true rfl⟩) hKm (va_recv hKm (ap_P_r hP) (ci := 0) (q0 := 0) hcm rfl) rfl hl.1 rfl (Nat.zero_le _) dK_820 hc1 hs1 hP hD hS (fun H locs hP hD hS => ?_)
  exact tail_I (q := 823) S0 hP hl hk hv dK_823 dK_825 dK_826 dK_829 dK_831 dK_836 dK_838 dK_841 dK_842 dK_843 dK_844 dK_846 dK_847 dK_848 dK_853 (by decide) hc1 hs1 (fun ls hl => kk _ _ _ _ _ H locs ls r3 hP hD hS hl)
