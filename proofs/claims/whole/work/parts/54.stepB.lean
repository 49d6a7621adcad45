theorem und_ext {a27 b27 a28 b28 : Nat → Int32} {nD : Nat} (hN : nD ≤ 4096) (h27 : ∀ d, d < nD → a27 d = b27 d) (h28 : ∀ d k, d < nD → k < 4 → a28 (4 * d + k) = b28 (4 * d + k)) {d : Nat} (hd : d < nD) : mr_M_isUndominated a27 a28 nD d = mr_M_isUndominated b27 b28 nD d := by
  obtain ⟨x1, x2⟩ := und_sem (g27 := a27) (g28 := a28) (nD := nD) (d := d) hN
  obtain ⟨y1, y2⟩ := und_sem (g27 := b27) (g28 := b28) (nD := nD) (d := d) hN
  have hle : ∀ i j, i < nD → j < nD → (sLe a28 i j ↔ sLe b28 i j) := fun i j hi hj => by
    unfold sLe
    exact ⟨fun q k hk => by rw [← h28 i k hi hk, ← h28 j k hj hk]; exact q k hk, fun q k hk => by rw [h28 i k hi hk, h28 j k hj hk]; exact q k hk⟩
  have key : sUnd a27 a28 nD d ↔ sUnd b27 b28 nD d := by
    unfold sUnd
    rw [h27 d hd]
    refine and_congr Iff.rfl ⟨fun q e he hl => ?_, fun q e he hl => ?_⟩
    · rw [← hle e d he hd, ← hle d e hd he]; exact q e he (by rw [h27 e he]; exact hl)
    · rw [hle e d he hd, hle d e hd he]; exact q e he (by rw [← h27 e he]; exact hl)
  have k2 := x2.trans (key.trans y2.symm)
  exact eq01 x1 y1 ⟨fun q1 => Classical.byContradiction (fun q2 => k2.mpr q2 q1), fun q1 => Classical.byContradiction (fun q2 => k2.mp q2 q1)⟩
theorem cu_ext {u v : Nat → Int32} : ∀ n, (∀ d, d < n → u d = v d) → cu u n = cu v n := by
  intro n
  induction n with
  | zero => intro _; rfl
  | succ n ih => intro q; rw [cu, cu, ih (fun d hd => q d (by omega)), q n (by omega)]
theorem cu_find {u : Nat → Int32} {i : Nat} : ∀ n, i < cu u n → ∃ d, d < n ∧ ¬ u d = 0 ∧ cu u d = i := by
  intro n
  induction n with
  | zero => intro q; exact absurd q (Nat.not_lt_zero _)
  | succ n ih =>
    intro q
    rw [cu] at q
    by_cases e : i < cu u n
    · obtain ⟨d, d1, d2⟩ := ih e
      exact ⟨d, by omega, d2⟩
    · by_cases c : u n = 0
      · rw [if_pos c] at q; omega
      · rw [if_neg c] at q; exact ⟨n, by omega, c, by omega⟩
theorem cu_lt {u : Nat → Int32} {d n : Nat} (hd : d < n) (hu : ¬ u d = 0) : cu u d < cu u n := by
  have h1 : cu u (d + 1) ≤ cu u n := cu_mono (by omega)
  rw [cu, if_neg hu] at h1
  omega
theorem uN_eq {F E : Nat → Int32} {G K : Nat → Nat → Int32} {nC nT nR nD sz pl : Nat} (h : cR F G E K nC nT nR nD sz pl) {d : Nat} (hd : d < nD) : mr_M_isUndominated (mr_M_know (E 26) (K 6) (K 7) (K 8) (K 9) (K 10) (K 11) (K 12) (K 13) (K 14) (K 15) (K 16) (K 17) (K 18) (K 19) (K 27) (K 28) nC nT nR nD).2.2.1 (mr_M_know (E 26) (K 6) (K 7) (K 8) (K 9) (K 10) (K 11) (K 12) (K 13) (K 14) (K 15) (K 16) (K 17) (K 18) (K 19) (K 27) (K 28) nC nT nR nD).2.2.2 nD d = uA (K 6) (K 7) (K 8) (K 9) (K 10) (K 11) (K 12) (K 13) (K 14) (K 15) (K 16) (K 17) (K 18) nC nT nR nD d := by
  have hk := (cR_kn h).2.1
  unfold uA
  refine und_ext h.1.2.1.2.2 (fun d hd => (hk d hd).1) (fun d k hd hk4 => ?_) hd
  rw [(hk d hd).2 k hk4]
  show _ = sNum (K 6) (K 7) (K 8) (K 9) (K 10) (K 11) (K 12) nC nT ((4 * d + k) / 4) ((4 * d + k) % 4)
  rw [show (4 * d + k) / 4 = d by omega, show (4 * d + k) % 4 = k by omega]
theorem uA_iff {F E : Nat → Int32} {G K : Nat → Nat → Int32} {nC nT nR nD sz pl : Nat} (h : cR F G E K nC nT nR nD sz pl) {y : Nat} (hy : y < nD) : cUnd (G 8) (G 9) (G 10) (G 11) nD y ↔ ¬ uA (K 6) (K 7) (K 8) (K 9) (K 10) (K 11) (K 12) (K 13) (K 14) (K 15) (K 16) (K 17) (K 18) nC nT nR nD y = 0 := by
  have hk := (cR_kn h).2.1
  rw [← uN_eq h hy, (und_sem (nD := nD) (d := y) h.1.2.1.2.2).2]
  have hl : ∀ d, d < nD → (cLeg (G 8) (G 9) (G 10) (G 11) d ↔ ¬ (mr_M_know (E 26) (K 6) (K 7) (K 8) (K 9) (K 10) (K 11) (K 12) (K 13) (K 14) (K 15) (K 16) (K 17) (K 18) (K 19) (K 27) (K 28) nC nT nR nD).2.2.1 d = 0) := fun d hd => by
    rw [(hk d hd).1, ← cR_leg h hd]
    exact al_sem.symm
  unfold cUnd sUnd
  refine and_congr (hl y hy) ⟨fun q e he hle => ?_, fun q e he hle => ?_⟩
  · rw [← cR_le h he hy, ← cR_le h hy he]; exact q e he ((hl e he).mpr hle)
  · rw [cR_le h he hy, cR_le h hy he]; exact q e he ((hl e he).mp hle)
theorem fr_ok {F E : Nat → Int32} {G K : Nat → Nat → Int32} {nC nT nR nD sz pl : Nat} (h : cR F G E K nC nT nR nD sz pl) : (mr_Fr_refresh (F 4) (F 5) (G 8) (G 9) (G 10) (G 11) (G 12) (G 13) nD).1 = nI (cu (uA (K 6) (K 7) (K 8) (K 9) (K 10) (K 11) (K 12) (K 13) (K 14) (K 15) (K 16) (K 17) (K 18) nC nT nR nD) nD) ∧ ¬ (mr_Fr_refresh (F 4) (F 5) (G 8) (G 9) (G 10) (G 11) (G 12) (G 13) nD).2.1 = 0 ∧ ∀ y, y < nD → ¬ uA (K 6) (K 7) (K 8) (K 9) (K 10) (K 11) (K 12) (K 13) (K 14) (K 15) (K 16) (K 17) (K 18) nC nT nR nD y = 0 → (mr_Fr_refresh (F 4) (F 5) (G 8) (G 9) (G 10) (G 11) (G 12) (G 13) nD).2.2.1 (cu (uA (K 6) (K 7) (K 8) (K 9) (K 10) (K 11) (K 12) (K 13) (K 14) (K 15) (K 16) (K 17) (K 18) nC nT nR nD) y) = nI y := by
  have hN := h.1.2.1.2.2
  unfold mr_Fr_refresh
  by_cases c : F 5 = 0
  · rw [if_pos c]
    have hu := fh_u (g8 := G 8) (g9 := G 9) (g10 := G 10) (g11 := G 11) hN (nD + 1) 0 0 (G 12) (G 13) (by omega) (Nat.zero_le _) (Nat.le_refl 0) u0
    have hm := cm_sem (u := uA (K 6) (K 7) (K 8) (K 9) (K 10) (K 11) (K 12) (K 13) (K 14) (K 15) (K 16) (K 17) (K 18) nC nT nR nD) hN (fun y hy => (u_und hN hu hy).trans (uA_iff h hy)) (nD + 1) 0 (lf_Fr_findHeads_7 (G 8) (G 9) (G 10) (G 11) nD (nD + 1) 0 0 (G 12) (G 13)).2.2.1 (by omega) (Nat.zero_le _) (fun y hy => absurd hy (Nat.not_lt_zero _))
    exact ⟨congrArg nI hm.1, (by decide : ¬ (1 : Int32) = 0), hm.2⟩
  · rw [if_neg c]
    obtain ⟨q1, q2, q3⟩ := h.2.2.2.2.2.1
    obtain ⟨q4, q5⟩ := q3 c
    exact ⟨by rw [q1, q4], c, q5⟩
theorem cR_fr {F E : Nat → Int32} {G K : Nat → Nat → Int32} {nC nT nR nD sz pl : Nat} (h : cR F G E K nC nT nR nD sz pl) : cR (upd (upd F 4 (mr_Fr_refresh (F 4) (F 5) (G 8) (G 9) (G 10) (G 11) (G 12) (G 13) nD).1) 5 (mr_Fr_refresh (F 4) (F 5) (G 8) (G 9) (G 10) (G 11) (G 12) (G 13) nD).2.1) (va_up (va_up G 12 (mr_Fr_refresh (F 4) (F 5) (G 8) (G 9) (G 10) (G 11) (G 12) (G 13) nD).2.2.1) 13 (mr_Fr_refresh (F 4) (F 5) (G 8) (G 9) (G 10) (G 11) (G 12) (G 13) nD).2.2.2) E K nC nT nR nD (cu (uA (K 6) (K 7) (K 8) (K 9) (K 10) (K 11) (K 12) (K 13) (K 14) (K 15) (K 16) (K 17) (K 18) nC nT nR nD) nD) pl := by
  obtain ⟨q1, q2, q3⟩ := fr_ok h
  generalize (mr_Fr_refresh (F 4) (F 5) (G 8) (G 9) (G 10) (G 11) (G 12) (G 13) nD) = R at q1 q2 q3 ⊢
  unfold cR
  simp (config := { decide := true }) only [upd_if, vup_if, ↓reduceIte]
  exact ⟨h.1, h.2.1, h.2.2.1, h.2.2.2.1, h.2.2.2.2.1, ⟨q1, cu_le _ _, fun _ => ⟨rfl, q3⟩⟩, h.2.2.2.2.2.2⟩
set_option maxHeartbeats 4000000 in
theorem R_undominated {F E : Nat → Int32} {G K : Nat → Nat → Int32} {nC nT nR nD sz pl : Nat} (h : cR F G E K nC nT nR nD sz pl) : (mr_X_undominated (F 4) (F 5) (G 8) (G 9) (G 10) (G 11) (G 12) (G 13) nD).1 = (mr_M_undominated (E 26) (K 6) (K 7) (K 8) (K 9) (K 10) (K 11) (K 12) (K 13) (K 14) (K 15) (K 16) (K 17) (K 18) (K 19) (K 27) (K 28) nC nT nR nD).1 ∧ cX (upd (upd F 4 ((mr_X_undominated (F 4) (F 5) (G 8) (G 9) (G 10) (G 11) (G 12) (G 13) nD).2.1)) 5 ((mr_X_undominated (F 4) (F 5) (G 8) (G 9) (G 10) (G 11) (G 12) (G 13) nD).2.2.1)) (va_up (va_up G 12 ((mr_X_undominated (F 4) (F 5) (G 8) (G 9) (G 10) (G 11) (G 12) (G 13) nD).2.2.2.1)) 13 ((mr_X_undominated (F 4) (F 5) (G 8) (G 9) (G 10) (G 11) (G 12) (G 13) nD).2.2.2.2)) (upd (upd E 0 ((mr_M_undominated (E 26) (K 6) (K 7) (K 8) (K 9) (K 10) (K 11) (K 12) (K 13) (K 14) (K 15) (K 16) (K 17) (K 18) (K 19) (K 27) (K 28) nC nT nR nD).2.1)) 26 ((mr_M_undominated (E 26) (K 6) (K 7) (K 8) (K 9) (K 10) (K 11) (K 12) (K 13) (K 14) (K 15) (K 16) (K 17) (K 18) (K 19) (K 27) (K 28) nC nT nR nD).2.2.1)) (va_up (va_up (va_up K 19 ((mr_M_undominated (E 26) (K 6) (K 7) (K 8) (K 9) (K 10) (K 11) (K 12) (K 13) (K 14) (K 15) (K 16) (K 17) (K 18) (K 19) (K 27) (K 28) nC nT nR nD).2.2.2.1)) 27 ((mr_M_undominated (E 26) (K 6) (K 7) (K 8) (K 9) (K 10) (K 11) (K 12) (K 13) (K 14) (K 15) (K 16) (K 17) (K 18) (K 19) (K 27) (K 28) nC nT nR nD).2.2.2.2.1)) 28 ((mr_M_undominated (E 26) (K 6) (K 7) (K 8) (K 9) (K 10) (K 11) (K 12) (K 13) (K 14) (K 15) (K 16) (K 17) (K 18) (K 19) (K 27) (K 28) nC nT nR nD).2.2.2.2.2)) := by
  have eT : mr_X_undominated (F 4) (F 5) (G 8) (G 9) (G 10) (G 11) (G 12) (G 13) nD = ((mr_Fr_refresh (F 4) (F 5) (G 8) (G 9) (G 10) (G 11) (G 12) (G 13) nD).1, (mr_Fr_refresh (F 4) (F 5) (G 8) (G 9) (G 10) (G 11) (G 12) (G 13) nD).1, (mr_Fr_refresh (F 4) (F 5) (G 8) (G 9) (G 10) (G 11) (G 12) (G 13) nD).2.1, (mr_Fr_refresh (F 4) (F 5) (G 8) (G 9) (G 10) (G 11) (G 12) (G 13) nD).2.2.1, (mr_Fr_refresh (F 4) (F 5) (G 8) (G 9) (G 10) (G 11) (G 12) (G 13) nD).2.2.2) := rfl
  have eS : mr_M_undominated (E 26) (K 6) (K 7) (K 8) (K 9) (K 10) (K 11) (K 12) (K 13) (K 14) (K 15) (K 16) (K 17) (K 18) (K 19) (K 27) (K 28) nC nT nR nD = (lf_M_undominated_13 nC nT nR nD (mr_M_know (E 26) (K 6) (K 7) (K 8) (K 9) (K 10) (K 11) (K 12) (K 13) (K 14) (K 15) (K 16) (K 17) (K 18) (K 19) (K 27) (K 28) nC nT nR nD).2.2.1 (mr_M_know (E 26) (K 6) (K 7) (K 8) (K 9) (K 10) (K 11) (K 12) (K 13) (K 14) (K 15) (K 16) (K 17) (K 18) (K 19) (K 27) (K 28) nC nT nR nD).2.2.2 0 nD, 0, (mr_M_know (E 26) (K 6) (K 7) (K 8) (K 9) (K 10) (K 11) (K 12) (K 13) (K 14) (K 15) (K 16) (K 17) (K 18) (K 19) (K 27) (K 28) nC nT nR nD).1, (mr_M_know (E 26) (K 6) (K 7) (K 8) (K 9) (K 10) (K 11) (K 12) (K 13) (K 14) (K 15) (K 16) (K 17) (K 18) (K 19) (K 27) (K 28) nC nT nR nD).2.1, (mr_M_know (E 26) (K 6) (K 7) (K 8) (K 9) (K 10) (K 11) (K 12) (K 13) (K 14) (K 15) (K 16) (K 17) (K 18) (K 19) (K 27) (K 28) nC nT nR nD).2.2.1, (mr_M_know (E 26) (K 6) (K 7) (K 8) (K 9) (K 10) (K 11) (K 12) (K 13) (K 14) (K 15) (K 16) (K 17) (K 18) (K 19) (K 27) (K 28) nC nT nR nD).2.2.2) := rfl
  rw [eT, eS]
  refine ⟨?_, _, _, _, _, _, _, cR_know (cR_fr h)⟩
  dsimp only
  rw [(fr_ok h).1, und_cnt nD, cu_ext nD (fun d hd => uN_eq h hd)]
set_option maxHeartbeats 4000000 in
theorem R_at {F E : Nat → Int32} {G K : Nat → Nat → Int32} {nC nT nR nD sz pl : Nat} (h : cR F G E K nC nT nR nD sz pl) (k : Int32) : (mr_M_at (E 0) (E 26) (K 6) (K 7) (K 8) (K 9) (K 10) (K 11) (K 12) (K 13) (K 14) (K 15) (K 16) (K 17) (K 18) (K 19) (K 27) (K 28) nC nT nR nD k).2.1 = (if mrx_X_at (F 4) (F 5) (G 8) (G 9) (G 10) (G 11) (G 12) (G 13) nD sz k = 0 then 0 else 1 : Int32) ∧ (mrx_X_at (F 4) (F 5) (G 8) (G 9) (G 10) (G 11) (G 12) (G 13) nD sz k = 0 → (mr_X_at (F 4) (F 5) (G 8) (G 9) (G 10) (G 11) (G 12) (G 13) nD sz k).1 = (mr_M_at (E 0) (E 26) (K 6) (K 7) (K 8) (K 9) (K 10) (K 11) (K 12) (K 13) (K 14) (K 15) (K 16) (K 17) (K 18) (K 19) (K 27) (K 28) nC nT nR nD k).1) ∧ cX (upd (upd F 4 ((mr_X_at (F 4) (F 5) (G 8) (G 9) (G 10) (G 11) (G 12) (G 13) nD sz k).2.1)) 5 ((mr_X_at (F 4) (F 5) (G 8) (G 9) (G 10) (G 11) (G 12) (G 13) nD sz k).2.2.1)) (va_up (va_up G 12 ((mr_X_at (F 4) (F 5) (G 8) (G 9) (G 10) (G 11) (G 12) (G 13) nD sz k).2.2.2.1)) 13 ((mr_X_at (F 4) (F 5) (G 8) (G 9) (G 10) (G 11) (G 12) (G 13) nD sz k).2.2.2.2)) (upd (upd E 0 ((mr_M_at (E 0) (E 26) (K 6) (K 7) (K 8) (K 9) (K 10) (K 11) (K 12) (K 13) (K 14) (K 15) (K 16) (K 17) (K 18) (K 19) (K 27) (K 28) nC nT nR nD k).2.1)) 26 ((mr_M_at (E 0) (E 26) (K 6) (K 7) (K 8) (K 9) (K 10) (K 11) (K 12) (K 13) (K 14) (K 15) (K 16) (K 17) (K 18) (K 19) (K 27) (K 28) nC nT nR nD k).2.2.1)) (va_up (va_up (va_up K 19 ((mr_M_at (E 0) (E 26) (K 6) (K 7) (K 8) (K 9) (K 10) (K 11) (K 12) (K 13) (K 14) (K 15) (K 16) (K 17) (K 18) (K 19) (K 27) (K 28) nC nT nR nD k).2.2.2.1)) 27 ((mr_M_at (E 0) (E 26) (K 6) (K 7) (K 8) (K 9) (K 10) (K 11) (K 12) (K 13) (K 14) (K 15) (K 16) (K 17) (K 18) (K 19) (K 27) (K 28) nC nT nR nD k).2.2.2.2.1)) 28 ((mr_M_at (E 0) (E 26) (K 6) (K 7) (K 8) (K 9) (K 10) (K 11) (K 12) (K 13) (K 14) (K 15) (K 16) (K 17) (K 18) (K 19) (K 27) (K 28) nC nT nR nD k).2.2.2.2.2)) := by
  have hN := h.1.2.1.2.2
  have hle := cu_le (uA (K 6) (K 7) (K 8) (K 9) (K 10) (K 11) (K 12) (K 13) (K 14) (K 15) (K 16) (K 17) (K 18) nC nT nR nD) nD
  obtain ⟨q1, q2, q3⟩ := fr_ok h
  have cM : ((mr_Fr_refresh (F 4) (F 5) (G 8) (G 9) (G 10) (G 11) (G 12) (G 13) nD).1).toNatClampNeg = cu (uA (K 6) (K 7) (K 8) (K 9) (K 10) (K 11) (K 12) (K 13) (K 14) (K 15) (K 16) (K 17) (K 18) nC nT nR nD) nD := by rw [q1]; exact nI_clamp (by omega)
  have euN : ∀ d, d ≤ nD → cu (fun d => mr_M_isUndominated (mr_M_know (E 26) (K 6) (K 7) (K 8) (K 9) (K 10) (K 11) (K 12) (K 13) (K 14) (K 15) (K 16) (K 17) (K 18) (K 19) (K 27) (K 28) nC nT nR nD).2.2.1 (mr_M_know (E 26) (K 6) (K 7) (K 8) (K 9) (K 10) (K 11) (K 12) (K 13) (K 14) (K 15) (K 16) (K 17) (K 18) (K 19) (K 27) (K 28) nC nT nR nD).2.2.2 nD d) d = cu (uA (K 6) (K 7) (K 8) (K 9) (K 10) (K 11) (K 12) (K 13) (K 14) (K 15) (K 16) (K 17) (K 18) nC nT nR nD) d := fun d hd => cu_ext d (fun e he => uN_eq h (by omega))
  have miss : (∀ d, d < nD → ¬ uA (K 6) (K 7) (K 8) (K 9) (K 10) (K 11) (K 12) (K 13) (K 14) (K 15) (K 16) (K 17) (K 18) nC nT nR nD d = 0 → ¬ k = nI (cu (uA (K 6) (K 7) (K 8) (K 9) (K 10) (K 11) (K 12) (K 13) (K 14) (K 15) (K 16) (K 17) (K 18) nC nT nR nD) d)) → mr_M_at (E 0) (E 26) (K 6) (K 7) (K 8) (K 9) (K 10) (K 11) (K 12) (K 13) (K 14) (K 15) (K 16) (K 17) (K 18) (K 19) (K 27) (K 28) nC nT nR nD k = (0, 1, (mr_M_know (E 26) (K 6) (K 7) (K 8) (K 9) (K 10) (K 11) (K 12) (K 13) (K 14) (K 15) (K 16) (K 17) (K 18) (K 19) (K 27) (K 28) nC nT nR nD).1, (mr_M_know (E 26) (K 6) (K 7) (K 8) (K 9) (K 10) (K 11) (K 12) (K 13) (K 14) (K 15) (K 16) (K 17) (K 18) (K 19) (K 27) (K 28) nC nT nR nD).2.1, (mr_M_know (E 26) (K 6) (K 7) (K 8) (K 9) (K 10) (K 11) (K 12) (K 13) (K 14) (K 15) (K 16) (K 17) (K 18) (K 19) (K 27) (K 28) nC nT nR nD).2.2.1, (mr_M_know (E 26) (K 6) (K 7) (K 8) (K 9) (K 10) (K 11) (K 12) (K 13) (K 14) (K 15) (K 16) (K 17) (K 18) (K 19) (K 27) (K 28) nC nT nR nD).2.2.2) := fun hk => by
    unfold mr_M_at
    exact at_miss hN (fun d hd hu => by rw [euN d (by omega)]; exact hk d hd (by rw [← uN_eq h hd]; exact hu)) (nD + 1) 0 (by omega) (Nat.zero_le _)
  by_cases c1 : k < 0
  · have eX : mrx_X_at (F 4) (F 5) (G 8) (G 9) (G 10) (G 11) (G 12) (G 13) nD sz k = 1 := by unfold mrx_X_at; rw [if_pos c1]
    have eT : mr_X_at (F 4) (F 5) (G 8) (G 9) (G 10) (G 11) (G 12) (G 13) nD sz k = (0, (mr_Fr_refresh (F 4) (F 5) (G 8) (G 9) (G 10) (G 11) (G 12) (G 13) nD).1, (mr_Fr_refresh (F 4) (F 5) (G 8) (G 9) (G 10) (G 11) (G 12) (G 13) nD).2.1, (mr_Fr_refresh (F 4) (F 5) (G 8) (G 9) (G 10) (G 11) (G 12) (G 13) nD).2.2.1, (mr_Fr_refresh (F 4) (F 5) (G 8) (G 9) (G 10) (G 11) (G 12) (G 13) nD).2.2.2) := by unfold mr_X_at; rw [if_pos c1]
    have eS := miss (fun d hd hu e => nI_pos (n := cu (uA (K 6) (K 7) (K 8) (K 9) (K 10) (K 11) (K 12) (K 13) (K 14) (K 15) (K 16) (K 17) (K 18) nC nT nR nD) d) (by have := cu_le (uA (K 6) (K 7) (K 8) (K 9) (K 10) (K 11) (K 12) (K 13) (K 14) (K 15) (K 16) (K 17) (K 18) nC nT nR nD) d; omega) (by rw [← e]; exact c1))
    rw [eX, eT, eS]
    exact ⟨rfl, fun h9 => absurd h9 (by decide), _, _, _, _, _, _, cR_know (cR_fr h)⟩
  obtain ⟨i, hi, ek⟩ := nI_of c1
  have ci : k.toNatClampNeg = i := by rw [ek]; exact nI_clamp hi
  by_cases c2 : i < cu (uA (K 6) (K 7) (K 8) (K 9) (K 10) (K 11) (K 12) (K 13) (K 14) (K 15) (K 16) (K 17) (K 18) nC nT nR nD) nD
  · have c3 : k < nI ((mr_Fr_refresh (F 4) (F 5) (G 8) (G 9) (G 10) (G 11) (G 12) (G 13) nD).1).toNatClampNeg := by rw [cM, ek]; exact nI_lt c2 (by omega)
    obtain ⟨d, hd, hu, ec⟩ := cu_find nD c2
    have eX : mrx_X_at (F 4) (F 5) (G 8) (G 9) (G 10) (G 11) (G 12) (G 13) nD sz k = 0 := by unfold mrx_X_at; rw [if_neg c1, if_pos c3]
    have eT : mr_X_at (F 4) (F 5) (G 8) (G 9) (G 10) (G 11) (G 12) (G 13) nD sz k = ((mr_Fr_refresh (F 4) (F 5) (G 8) (G 9) (G 10) (G 11) (G 12) (G 13) nD).2.2.1 i, (mr_Fr_refresh (F 4) (F 5) (G 8) (G 9) (G 10) (G 11) (G 12) (G 13) nD).1, (mr_Fr_refresh (F 4) (F 5) (G 8) (G 9) (G 10) (G 11) (G 12) (G 13) nD).2.1, (mr_Fr_refresh (F 4) (F 5) (G 8) (G 9) (G 10) (G 11) (G 12) (G 13) nD).2.2.1, (mr_Fr_refresh (F 4) (F 5) (G 8) (G 9) (G 10) (G 11) (G 12) (G 13) nD).2.2.2) := by unfold mr_X_at; rw [if_neg c1, if_pos c3, ci]
    have eS : mr_M_at (E 0) (E 26) (K 6) (K 7) (K 8) (K 9) (K 10) (K 11) (K 12) (K 13) (K 14) (K 15) (K 16) (K 17) (K 18) (K 19) (K 27) (K 28) nC nT nR nD k = (nI d, 0, (mr_M_know (E 26) (K 6) (K 7) (K 8) (K 9) (K 10) (K 11) (K 12) (K 13) (K 14) (K 15) (K 16) (K 17) (K 18) (K 19) (K 27) (K 28) nC nT nR nD).1, (mr_M_know (E 26) (K 6) (K 7) (K 8) (K 9) (K 10) (K 11) (K 12) (K 13) (K 14) (K 15) (K 16) (K 17) (K 18) (K 19) (K 27) (K 28) nC nT nR nD).2.1, (mr_M_know (E 26) (K 6) (K 7) (K 8) (K 9) (K 10) (K 11) (K 12) (K 13) (K 14) (K 15) (K 16) (K 17) (K 18) (K 19) (K 27) (K 28) nC nT nR nD).2.2.1, (mr_M_know (E 26) (K 6) (K 7) (K 8) (K 9) (K 10) (K 11) (K 12) (K 13) (K 14) (K 15) (K 16) (K 17) (K 18) (K 19) (K 27) (K 28) nC nT nR nD).2.2.2) := by
      have hh := at_hit (f0 := E 0) (f26 := E 26) (g19 := K 19) (h27 := K 27) (h28 := K 28) (p := (mr_M_know (E 26) (K 6) (K 7) (K 8) (K 9) (K 10) (K 11) (K 12) (K 13) (K 14) (K 15) (K 16) (K 17) (K 18) (K 19) (K 27) (K 28) nC nT nR nD).1) (q := (mr_M_know (E 26) (K 6) (K 7) (K 8) (K 9) (K 10) (K 11) (K 12) (K 13) (K 14) (K 15) (K 16) (K 17) (K 18) (K 19) (K 27) (K 28) nC nT nR nD).2.1) (nC := nC) (nT := nT) (nR := nR) hN hd (by rw [uN_eq h hd]; exact hu) (nD + 1) 0 (by omega) (Nat.zero_le _)
      rw [euN d (by omega), ec, ← ek] at hh
      unfold mr_M_at
      exact hh
    rw [eX, eT, eS]
    refine ⟨rfl, fun _ => ?_, _, _, _, _, _, _, cR_know (cR_fr h)⟩
    dsimp only
    rw [← ec]
    exact q3 d hd hu
  · have c3 : ¬ k < nI ((mr_Fr_refresh (F 4) (F 5) (G 8) (G 9) (G 10) (G 11) (G 12) (G 13) nD).1).toNatClampNeg := by rw [cM, ek]; exact nI_nlt (by omega) hi
    have eX : mrx_X_at (F 4) (F 5) (G 8) (G 9) (G 10) (G 11) (G 12) (G 13) nD sz k = 1 := by unfold mrx_X_at; rw [if_neg c1, if_neg c3]
    have eT : mr_X_at (F 4) (F 5) (G 8) (G 9) (G 10) (G 11) (G 12) (G 13) nD sz k = (0, (mr_Fr_refresh (F 4) (F 5) (G 8) (G 9) (G 10) (G 11) (G 12) (G 13) nD).1, (mr_Fr_refresh (F 4) (F 5) (G 8) (G 9) (G 10) (G 11) (G 12) (G 13) nD).2.1, (mr_Fr_refresh (F 4) (F 5) (G 8) (G 9) (G 10) (G 11) (G 12) (G 13) nD).2.2.1, (mr_Fr_refresh (F 4) (F 5) (G 8) (G 9) (G 10) (G 11) (G 12) (G 13) nD).2.2.2) := by unfold mr_X_at; rw [if_neg c1, if_neg c3]
    have eS := miss (fun d hd hu e => by
      have l1 := cu_lt hd hu
      rw [ek] at e
      have := (nI_eq hi (by omega)).mp e
      omega)
    rw [eX, eT, eS]
    exact ⟨rfl, fun h9 => absurd h9 (by decide), _, _, _, _, _, _, cR_know (cR_fr h)⟩
theorem cR_l27 {F E : Nat → Int32} {G K : Nat → Nat → Int32} {nC nT nR nD sz pl : Nat} (h : cR F G E K nC nT nR nD sz pl) : ∀ d, d < nD → (mr_Bo_allows (G 8) (G 9) (G 10) (G 11) d = 0 ↔ (mr_M_know (E 26) (K 6) (K 7) (K 8) (K 9) (K 10) (K 11) (K 12) (K 13) (K 14) (K 15) (K 16) (K 17) (K 18) (K 19) (K 27) (K 28) nC nT nR nD).2.2.1 d = 0) := fun d hd => by rw [((cR_kn h).2.1 d hd).1, cR_leg h hd]
theorem cR_n28 {F E : Nat → Int32} {G K : Nat → Nat → Int32} {nC nT nR nD sz pl : Nat} (h : cR F G E K nC nT nR nD sz pl) : ∀ d k, d < nD → k < 4 → G 10 (d * 4 + k) = (mr_M_know (E 26) (K 6) (K 7) (K 8) (K 9) (K 10) (K 11) (K 12) (K 13) (K 14) (K 15) (K 16) (K 17) (K 18) (K 19) (K 27) (K 28) nC nT nR nD).2.2.2 (4 * d + k) := fun d k hd hk => by rw [((cR_kn h).2.1 d hd).2 k hk, cR_num h hd hk]
set_option maxHeartbeats 4000000 in
theorem R_sweep {F E : Nat → Int32} {G K : Nat → Nat → Int32} {nC nT nR nD sz pl : Nat} (h : cR F G E K nC nT nR nD sz pl) (n : Int32) : (mr_M_sweep (E 24) (E 25) (E 26) (K 6) (K 7) (K 8) (K 9) (K 10) (K 11) (K 12) (K 13) (K 14) (K 15) (K 16) (K 17) (K 18) (K 19) (K 27) (K 28) nC nT nR nD pl n).2.1 = (if mrx_X_sweep (F 1) (F 13) nD pl n = 0 then 0 else if mrx_X_sweep (F 1) (F 13) nD pl n = 2 then 1 else 2 : Int32) ∧ (mrx_X_sweep (F 1) (F 13) nD pl n = 0 → (mr_X_sweep (F 1) (F 13) (F 14) (G 8) (G 9) (G 10) (G 11) nD pl n).1 = (mr_M_sweep (E 24) (E 25) (E 26) (K 6) (K 7) (K 8) (K 9) (K 10) (K 11) (K 12) (K 13) (K 14) (K 15) (K 16) (K 17) (K 18) (K 19) (K 27) (K 28) nC nT nR nD pl n).1) ∧ cX (upd (upd F 13 ((mr_X_sweep (F 1) (F 13) (F 14) (G 8) (G 9) (G 10) (G 11) nD pl n).2.1)) 14 ((mr_X_sweep (F 1) (F 13) (F 14) (G 8) (G 9) (G 10) (G 11) nD pl n).2.2)) G (upd (upd (upd (upd E 0 ((mr_M_sweep (E 24) (E 25) (E 26) (K 6) (K 7) (K 8) (K 9) (K 10) (K 11) (K 12) (K 13) (K 14) (K 15) (K 16) (K 17) (K 18) (K 19) (K 27) (K 28) nC nT nR nD pl n).2.1)) 24 ((mr_M_sweep (E 24) (E 25) (E 26) (K 6) (K 7) (K 8) (K 9) (K 10) (K 11) (K 12) (K 13) (K 14) (K 15) (K 16) (K 17) (K 18) (K 19) (K 27) (K 28) nC nT nR nD pl n).2.2.1)) 25 ((mr_M_sweep (E 24) (E 25) (E 26) (K 6) (K 7) (K 8) (K 9) (K 10) (K 11) (K 12) (K 13) (K 14) (K 15) (K 16) (K 17) (K 18) (K 19) (K 27) (K 28) nC nT nR nD pl n).2.2.2.1)) 26 ((mr_M_sweep (E 24) (E 25) (E 26) (K 6) (K 7) (K 8) (K 9) (K 10) (K 11) (K 12) (K 13) (K 14) (K 15) (K 16) (K 17) (K 18) (K 19) (K 27) (K 28) nC nT nR nD pl n).2.2.2.2.1)) (va_up (va_up (va_up K 19 ((mr_M_sweep (E 24) (E 25) (E 26) (K 6) (K 7) (K 8) (K 9) (K 10) (K 11) (K 12) (K 13) (K 14) (K 15) (K 16) (K 17) (K 18) (K 19) (K 27) (K 28) nC nT nR nD pl n).2.2.2.2.2.1)) 27 ((mr_M_sweep (E 24) (E 25) (E 26) (K 6) (K 7) (K 8) (K 9) (K 10) (K 11) (K 12) (K 13) (K 14) (K 15) (K 16) (K 17) (K 18) (K 19) (K 27) (K 28) nC nT nR nD pl n).2.2.2.2.2.2.1)) 28 ((mr_M_sweep (E 24) (E 25) (E 26) (K 6) (K 7) (K 8) (K 9) (K 10) (K 11) (K 12) (K 13) (K 14) (K 15) (K 16) (K 17) (K 18) (K 19) (K 27) (K 28) nC nT nR nD pl n).2.2.2.2.2.2.2)) := by
  obtain ⟨h2, hC, h3, hT, h4, hR, h5, hN, h6, h8, h10, h13, h15, h17, h27, h24, hpl, hmp6⟩ := cR_ref h
  obtain ⟨k0, k1, k2, k3, k4, hsz, k13, s0, s1, hmp, mA, mB, mQ, mQT, z8, z11, hD1⟩ := cR_cls h
  have hk9 := cR_kn h
  obtain ⟨q1, q2, q3, q4, q5, q6, q7, q8, q9⟩ := h.2.2.2.2.2.2
  have failW : mr_M_within n 1 5000 = 0 → mrx_X_sweep (F 1) (F 13) nD pl n = 2 → mr_X_sweep (F 1) (F 13) (F 14) (G 8) (G 9) (G 10) (G 11) nD pl n = (0, F 13, F 14) → (mr_M_sweep (E 24) (E 25) (E 26) (K 6) (K 7) (K 8) (K 9) (K 10) (K 11) (K 12) (K 13) (K 14) (K 15) (K 16) (K 17) (K 18) (K 19) (K 27) (K 28) nC nT nR nD pl n).2.1 = (if mrx_X_sweep (F 1) (F 13) nD pl n = 0 then 0 else if mrx_X_sweep (F 1) (F 13) nD pl n = 2 then 1 else 2 : Int32) ∧ (mrx_X_sweep (F 1) (F 13) nD pl n = 0 → (mr_X_sweep (F 1) (F 13) (F 14) (G 8) (G 9) (G 10) (G 11) nD pl n).1 = (mr_M_sweep (E 24) (E 25) (E 26) (K 6) (K 7) (K 8) (K 9) (K 10) (K 11) (K 12) (K 13) (K 14) (K 15) (K 16) (K 17) (K 18) (K 19) (K 27) (K 28) nC nT nR nD pl n).1) ∧ cX (upd (upd F 13 ((mr_X_sweep (F 1) (F 13) (F 14) (G 8) (G 9) (G 10) (G 11) nD pl n).2.1)) 14 ((mr_X_sweep (F 1) (F 13) (F 14) (G 8) (G 9) (G 10) (G 11) nD pl n).2.2)) G (upd (upd (upd (upd E 0 ((mr_M_sweep (E 24) (E 25) (E 26) (K 6) (K 7) (K 8) (K 9) (K 10) (K 11) (K 12) (K 13) (K 14) (K 15) (K 16) (K 17) (K 18) (K 19) (K 27) (K 28) nC nT nR nD pl n).2.1)) 24 ((mr_M_sweep (E 24) (E 25) (E 26) (K 6) (K 7) (K 8) (K 9) (K 10) (K 11) (K 12) (K 13) (K 14) (K 15) (K 16) (K 17) (K 18) (K 19) (K 27) (K 28) nC nT nR nD pl n).2.2.1)) 25 ((mr_M_sweep (E 24) (E 25) (E 26) (K 6) (K 7) (K 8) (K 9) (K 10) (K 11) (K 12) (K 13) (K 14) (K 15) (K 16) (K 17) (K 18) (K 19) (K 27) (K 28) nC nT nR nD pl n).2.2.2.1)) 26 ((mr_M_sweep (E 24) (E 25) (E 26) (K 6) (K 7) (K 8) (K 9) (K 10) (K 11) (K 12) (K 13) (K 14) (K 15) (K 16) (K 17) (K 18) (K 19) (K 27) (K 28) nC nT nR nD pl n).2.2.2.2.1)) (va_up (va_up (va_up K 19 ((mr_M_sweep (E 24) (E 25) (E 26) (K 6) (K 7) (K 8) (K 9) (K 10) (K 11) (K 12) (K 13) (K 14) (K 15) (K 16) (K 17) (K 18) (K 19) (K 27) (K 28) nC nT nR nD pl n).2.2.2.2.2.1)) 27 ((mr_M_sweep (E 24) (E 25) (E 26) (K 6) (K 7) (K 8) (K 9) (K 10) (K 11) (K 12) (K 13) (K 14) (K 15) (K 16) (K 17) (K 18) (K 19) (K 27) (K 28) nC nT nR nD pl n).2.2.2.2.2.2.1)) 28 ((mr_M_sweep (E 24) (E 25) (E 26) (K 6) (K 7) (K 8) (K 9) (K 10) (K 11) (K 12) (K 13) (K 14) (K 15) (K 16) (K 17) (K 18) (K 19) (K 27) (K 28) nC nT nR nD pl n).2.2.2.2.2.2.2)) := fun c eX eT => by
    have eS : mr_M_sweep (E 24) (E 25) (E 26) (K 6) (K 7) (K 8) (K 9) (K 10) (K 11) (K 12) (K 13) (K 14) (K 15) (K 16) (K 17) (K 18) (K 19) (K 27) (K 28) nC nT nR nD pl n = (0, 1, E 24, E 25, E 26, K 19, K 27, K 28) := by unfold mr_M_sweep; rw [if_pos c]; rfl
    rw [eX, eT, eS]
    refine ⟨rfl, fun h9 => absurd h9 (by decide), nC, nT, nR, nD, sz, pl, ?_⟩
    unfold cR
    simp (config := { decide := true }) only [upd_if, vup_if, ↓reduceIte]
    exact h
  by_cases c1 : n < 1
  · exact failW (by unfold mr_M_within; rw [if_pos c1]) (by unfold mrx_X_sweep; rw [if_pos c1]) (by unfold mr_X_sweep; rw [if_pos c1])
  by_cases c2 : n ≤ 5000
  · have w2 : ¬ mr_M_within n 1 5000 = 0 := by unfold mr_M_within; rw [if_neg c1, if_neg (Int32.not_lt.mpr c2)]; decide
    obtain ⟨m, hm, en⟩ := wi_1 (n := 5000) c1 (Int32.not_lt.mpr c2) (by omega)
    have cm : n.toNatClampNeg = m := by rw [en]; exact nI_clamp (by omega)
    by_cases c3 : pl = nD
    · have a1 : mr_Sw_isAtEnd (F 1) (F 13) = 1 := by unfold mr_Sw_isAtEnd; rw [k1, k13, if_neg (nI_nlt (by omega) (by omega))]
      have eX : mrx_X_sweep (F 1) (F 13) nD pl n = 4 := by unfold mrx_X_sweep; rw [if_neg c1, if_pos c2, a1, if_neg (by decide)]
      have eT : mr_X_sweep (F 1) (F 13) (F 14) (G 8) (G 9) (G 10) (G 11) nD pl n = (0, F 13, F 14) := by unfold mr_X_sweep; rw [if_neg c1, if_pos c2, a1, if_neg (by decide)]
      have eS : mr_M_sweep (E 24) (E 25) (E 26) (K 6) (K 7) (K 8) (K 9) (K 10) (K 11) (K 12) (K 13) (K 14) (K 15) (K 16) (K 17) (K 18) (K 19) (K 27) (K 28) nC nT nR nD pl n = (0, 2, E 24, E 25, E 26, K 19, K 27, K 28) := by unfold mr_M_sweep; rw [if_neg w2, if_pos (show nI pl = nI nD by rw [c3])]; rfl
      rw [eX, eT, eS]
      refine ⟨rfl, fun h9 => absurd h9 (by decide), nC, nT, nR, nD, sz, pl, ?_⟩
      unfold cR
      simp (config := { decide := true }) only [upd_if, vup_if, ↓reduceIte]
      exact h
    · have a1 : mr_Sw_isAtEnd (F 1) (F 13) = 0 := by unfold mr_Sw_isAtEnd; rw [k1, k13, if_pos (nI_lt (by omega) (by omega))]
      have eX : mrx_X_sweep (F 1) (F 13) nD pl n = 0 := by unfold mrx_X_sweep; rw [if_neg c1, if_pos c2, a1, if_pos rfl]
      obtain ⟨x1, x2⟩ := sweep_sim (nC := nC) (nT := nT) (nR := nR) (g27' := K 27) hN (by omega : m ≤ 5000) en (cR_l27 h) (nD + 1) 0 0 (by omega) (Nat.zero_le _) (by omega) rfl
      rw [show pl + 0 = pl from rfl] at x1 x2
      have eT : mr_X_sweep (F 1) (F 13) (F 14) (G 8) (G 9) (G 10) (G 11) nD pl n = (lf_Sw_goOn_25 (G 8) (G 9) (G 10) (G 11) nD pl m 0 (min (pl + m) nD - pl), nI (min (pl + m) nD), F 14 + lf_Sw_goOn_25 (G 8) (G 9) (G 10) (G 11) nD pl m 0 (min (pl + m) nD - pl)) := by unfold mr_X_sweep mr_Sw_goOn; rw [if_neg c1, if_pos c2, a1, if_pos rfl, cm]
      have eS : mr_M_sweep (E 24) (E 25) (E 26) (K 6) (K 7) (K 8) (K 9) (K 10) (K 11) (K 12) (K 13) (K 14) (K 15) (K 16) (K 17) (K 18) (K 19) (K 27) (K 28) nC nT nR nD pl n = (lf_Sw_goOn_25 (G 8) (G 9) (G 10) (G 11) nD pl m 0 (min (pl + m) nD - pl), 0, nI (min (pl + m) nD), E 25 + lf_Sw_goOn_25 (G 8) (G 9) (G 10) (G 11) nD pl m 0 (min (pl + m) nD - pl), (mr_M_know (E 26) (K 6) (K 7) (K 8) (K 9) (K 10) (K 11) (K 12) (K 13) (K 14) (K 15) (K 16) (K 17) (K 18) (K 19) (K 27) (K 28) nC nT nR nD).1, (mr_M_know (E 26) (K 6) (K 7) (K 8) (K 9) (K 10) (K 11) (K 12) (K 13) (K 14) (K 15) (K 16) (K 17) (K 18) (K 19) (K 27) (K 28) nC nT nR nD).2.1, (mr_M_know (E 26) (K 6) (K 7) (K 8) (K 9) (K 10) (K 11) (K 12) (K 13) (K 14) (K 15) (K 16) (K 17) (K 18) (K 19) (K 27) (K 28) nC nT nR nD).2.2.1, (mr_M_know (E 26) (K 6) (K 7) (K 8) (K 9) (K 10) (K 11) (K 12) (K 13) (K 14) (K 15) (K 16) (K 17) (K 18) (K 19) (K 27) (K 28) nC nT nR nD).2.2.2) := by unfold mr_M_sweep; rw [if_neg w2, if_neg (fun h9 => c3 ((nI_eq (by omega) (by omega)).mp h9)), x1, x2]
      rw [eX, eT, eS]
      refine ⟨rfl, fun _ => rfl, nC, nT, nR, nD, sz, min (pl + m) nD, ?_⟩
      generalize lf_Sw_goOn_25 (G 8) (G 9) (G 10) (G 11) nD pl m 0 (min (pl + m) nD - pl) = y
      generalize (mr_M_know (E 26) (K 6) (K 7) (K 8) (K 9) (K 10) (K 11) (K 12) (K 13) (K 14) (K 15) (K 16) (K 17) (K 18) (K 19) (K 27) (K 28) nC nT nR nD) = N at hk9 ⊢
      unfold cR
      simp (config := { decide := true }) only [upd_if, vup_if, ↓reduceIte]
      exact ⟨h.1, h.2.1, h.2.2.1, h.2.2.2.1, ⟨fun _ => hk9.2.1, hk9.2.2⟩, h.2.2.2.2.2.1, q1, q2, q3, q4, q5, rfl, rfl, Nat.min_le_right _ _, by rw [q9]⟩
  · exact failW (by unfold mr_M_within; rw [if_neg c1, if_pos (Int32.not_le.mp c2)]) (by unfold mrx_X_sweep; rw [if_neg c1, if_neg c2]) (by unfold mr_X_sweep; rw [if_neg c1, if_neg c2])
set_option maxHeartbeats 4000000 in
theorem R_walk {F E : Nat → Int32} {G K : Nat → Nat → Int32} {nC nT nR nD sz pl : Nat} (h : cR F G E K nC nT nR nD sz pl) (d : Int32) (sp : Int32) : (mr_M_walk (E 1) (E 21) (E 22) (E 23) (E 26) (K 6) (K 7) (K 8) (K 9) (K 10) (K 11) (K 12) (K 13) (K 14) (K 15) (K 16) (K 17) (K 18) (K 19) (K 27) (K 28) nC nT nR nD d sp).2.1 = (if mrx_X_walk (G 8) (G 9) (G 10) (G 11) nC nD d sp = 0 then 0 else if mrx_X_walk (G 8) (G 9) (G 10) (G 11) nC nD d sp = 1 then 1 else if mrx_X_walk (G 8) (G 9) (G 10) (G 11) nC nD d sp = 2 then 2 else 3 : Int32) ∧ (mrx_X_walk (G 8) (G 9) (G 10) (G 11) nC nD d sp = 0 → (mr_X_walk (F 9) (F 10) (F 11) (F 12) (G 0) (G 1) (G 8) (G 9) (G 10) (G 11) nC nD d sp).1 = (mr_M_walk (E 1) (E 21) (E 22) (E 23) (E 26) (K 6) (K 7) (K 8) (K 9) (K 10) (K 11) (K 12) (K 13) (K 14) (K 15) (K 16) (K 17) (K 18) (K 19) (K 27) (K 28) nC nT nR nD d sp).1) ∧ cX (upd (upd (upd F 9 ((mr_X_walk (F 9) (F 10) (F 11) (F 12) (G 0) (G 1) (G 8) (G 9) (G 10) (G 11) nC nD d sp).2.1)) 11 ((mr_X_walk (F 9) (F 10) (F 11) (F 12) (G 0) (G 1) (G 8) (G 9) (G 10) (G 11) nC nD d sp).2.2.1)) 12 ((mr_X_walk (F 9) (F 10) (F 11) (F 12) (G 0) (G 1) (G 8) (G 9) (G 10) (G 11) nC nD d sp).2.2.2)) G (upd (upd (upd (upd (upd E 0 ((mr_M_walk (E 1) (E 21) (E 22) (E 23) (E 26) (K 6) (K 7) (K 8) (K 9) (K 10) (K 11) (K 12) (K 13) (K 14) (K 15) (K 16) (K 17) (K 18) (K 19) (K 27) (K 28) nC nT nR nD d sp).2.1)) 1 ((mr_M_walk (E 1) (E 21) (E 22) (E 23) (E 26) (K 6) (K 7) (K 8) (K 9) (K 10) (K 11) (K 12) (K 13) (K 14) (K 15) (K 16) (K 17) (K 18) (K 19) (K 27) (K 28) nC nT nR nD d sp).2.2.1)) 22 ((mr_M_walk (E 1) (E 21) (E 22) (E 23) (E 26) (K 6) (K 7) (K 8) (K 9) (K 10) (K 11) (K 12) (K 13) (K 14) (K 15) (K 16) (K 17) (K 18) (K 19) (K 27) (K 28) nC nT nR nD d sp).2.2.2.1)) 23 ((mr_M_walk (E 1) (E 21) (E 22) (E 23) (E 26) (K 6) (K 7) (K 8) (K 9) (K 10) (K 11) (K 12) (K 13) (K 14) (K 15) (K 16) (K 17) (K 18) (K 19) (K 27) (K 28) nC nT nR nD d sp).2.2.2.2.1)) 26 ((mr_M_walk (E 1) (E 21) (E 22) (E 23) (E 26) (K 6) (K 7) (K 8) (K 9) (K 10) (K 11) (K 12) (K 13) (K 14) (K 15) (K 16) (K 17) (K 18) (K 19) (K 27) (K 28) nC nT nR nD d sp).2.2.2.2.2.1)) (va_up (va_up (va_up K 19 ((mr_M_walk (E 1) (E 21) (E 22) (E 23) (E 26) (K 6) (K 7) (K 8) (K 9) (K 10) (K 11) (K 12) (K 13) (K 14) (K 15) (K 16) (K 17) (K 18) (K 19) (K 27) (K 28) nC nT nR nD d sp).2.2.2.2.2.2.1)) 27 ((mr_M_walk (E 1) (E 21) (E 22) (E 23) (E 26) (K 6) (K 7) (K 8) (K 9) (K 10) (K 11) (K 12) (K 13) (K 14) (K 15) (K 16) (K 17) (K 18) (K 19) (K 27) (K 28) nC nT nR nD d sp).2.2.2.2.2.2.2.1)) 28 ((mr_M_walk (E 1) (E 21) (E 22) (E 23) (E 26) (K 6) (K 7) (K 8) (K 9) (K 10) (K 11) (K 12) (K 13) (K 14) (K 15) (K 16) (K 17) (K 18) (K 19) (K 27) (K 28) nC nT nR nD d sp).2.2.2.2.2.2.2.2)) := by
  obtain ⟨h2, hC, h3, hT, h4, hR, h5, hN, h6, h8, h10, h13, h15, h17, h27, h24, hpl, hmp6⟩ := cR_ref h
  obtain ⟨k0, k1, k2, k3, k4, hsz, k13, s0, s1, hmp, mA, mB, mQ, mQT, z8, z11, hD1⟩ := cR_cls h
  have h06 := h.1.2.2.2.2.2.2.1
  have hk9 := cR_kn h
  obtain ⟨q1, q2, q3, q4, q5, q6, q7, q8, q9⟩ := h.2.2.2.2.2.2
  by_cases c1 : mr_M_isDesign nD d = 0
  · have eX : mrx_X_walk (G 8) (G 9) (G 10) (G 11) nC nD d sp = 1 := by unfold mrx_X_walk; rw [des_eq hN, if_pos c1]
    have eT : mr_X_walk (F 9) (F 10) (F 11) (F 12) (G 0) (G 1) (G 8) (G 9) (G 10) (G 11) nC nD d sp = (0, F 9, F 11, F 12) := by unfold mr_X_walk; rw [des_eq hN, if_pos c1]
    have eS : mr_M_walk (E 1) (E 21) (E 22) (E 23) (E 26) (K 6) (K 7) (K 8) (K 9) (K 10) (K 11) (K 12) (K 13) (K 14) (K 15) (K 16) (K 17) (K 18) (K 19) (K 27) (K 28) nC nT nR nD d sp = (0, 1, E 1, E 22, E 23, E 26, K 19, K 27, K 28) := by unfold mr_M_walk; rw [if_pos c1]; rfl
    rw [eX, eT, eS]
    refine ⟨rfl, fun h9 => absurd h9 (by decide), nC, nT, nR, nD, sz, pl, ?_⟩
    unfold cR
    simp (config := { decide := true }) only [upd_if, vup_if, ↓reduceIte]
    exact h
  obtain ⟨j, hj, ed⟩ := des_ok hN c1
  have cd : d.toNatClampNeg = j := by rw [ed]; exact nI_clamp (by omega)
  have hl := cR_l27 h j hj
  have failW : ∀ t : Int32, mr_M_walk (E 1) (E 21) (E 22) (E 23) (E 26) (K 6) (K 7) (K 8) (K 9) (K 10) (K 11) (K 12) (K 13) (K 14) (K 15) (K 16) (K 17) (K 18) (K 19) (K 27) (K 28) nC nT nR nD d sp = (0, t, E 1, E 22, E 23, (mr_M_know (E 26) (K 6) (K 7) (K 8) (K 9) (K 10) (K 11) (K 12) (K 13) (K 14) (K 15) (K 16) (K 17) (K 18) (K 19) (K 27) (K 28) nC nT nR nD).1, (mr_M_know (E 26) (K 6) (K 7) (K 8) (K 9) (K 10) (K 11) (K 12) (K 13) (K 14) (K 15) (K 16) (K 17) (K 18) (K 19) (K 27) (K 28) nC nT nR nD).2.1, (mr_M_know (E 26) (K 6) (K 7) (K 8) (K 9) (K 10) (K 11) (K 12) (K 13) (K 14) (K 15) (K 16) (K 17) (K 18) (K 19) (K 27) (K 28) nC nT nR nD).2.2.1, (mr_M_know (E 26) (K 6) (K 7) (K 8) (K 9) (K 10) (K 11) (K 12) (K 13) (K 14) (K 15) (K 16) (K 17) (K 18) (K 19) (K 27) (K 28) nC nT nR nD).2.2.2) → mr_X_walk (F 9) (F 10) (F 11) (F 12) (G 0) (G 1) (G 8) (G 9) (G 10) (G 11) nC nD d sp = (0, F 9, F 11, F 12) → cX (upd (upd (upd F 9 ((mr_X_walk (F 9) (F 10) (F 11) (F 12) (G 0) (G 1) (G 8) (G 9) (G 10) (G 11) nC nD d sp).2.1)) 11 ((mr_X_walk (F 9) (F 10) (F 11) (F 12) (G 0) (G 1) (G 8) (G 9) (G 10) (G 11) nC nD d sp).2.2.1)) 12 ((mr_X_walk (F 9) (F 10) (F 11) (F 12) (G 0) (G 1) (G 8) (G 9) (G 10) (G 11) nC nD d sp).2.2.2)) G (upd (upd (upd (upd (upd E 0 ((mr_M_walk (E 1) (E 21) (E 22) (E 23) (E 26) (K 6) (K 7) (K 8) (K 9) (K 10) (K 11) (K 12) (K 13) (K 14) (K 15) (K 16) (K 17) (K 18) (K 19) (K 27) (K 28) nC nT nR nD d sp).2.1)) 1 ((mr_M_walk (E 1) (E 21) (E 22) (E 23) (E 26) (K 6) (K 7) (K 8) (K 9) (K 10) (K 11) (K 12) (K 13) (K 14) (K 15) (K 16) (K 17) (K 18) (K 19) (K 27) (K 28) nC nT nR nD d sp).2.2.1)) 22 ((mr_M_walk (E 1) (E 21) (E 22) (E 23) (E 26) (K 6) (K 7) (K 8) (K 9) (K 10) (K 11) (K 12) (K 13) (K 14) (K 15) (K 16) (K 17) (K 18) (K 19) (K 27) (K 28) nC nT nR nD d sp).2.2.2.1)) 23 ((mr_M_walk (E 1) (E 21) (E 22) (E 23) (E 26) (K 6) (K 7) (K 8) (K 9) (K 10) (K 11) (K 12) (K 13) (K 14) (K 15) (K 16) (K 17) (K 18) (K 19) (K 27) (K 28) nC nT nR nD d sp).2.2.2.2.1)) 26 ((mr_M_walk (E 1) (E 21) (E 22) (E 23) (E 26) (K 6) (K 7) (K 8) (K 9) (K 10) (K 11) (K 12) (K 13) (K 14) (K 15) (K 16) (K 17) (K 18) (K 19) (K 27) (K 28) nC nT nR nD d sp).2.2.2.2.2.1)) (va_up (va_up (va_up K 19 ((mr_M_walk (E 1) (E 21) (E 22) (E 23) (E 26) (K 6) (K 7) (K 8) (K 9) (K 10) (K 11) (K 12) (K 13) (K 14) (K 15) (K 16) (K 17) (K 18) (K 19) (K 27) (K 28) nC nT nR nD d sp).2.2.2.2.2.2.1)) 27 ((mr_M_walk (E 1) (E 21) (E 22) (E 23) (E 26) (K 6) (K 7) (K 8) (K 9) (K 10) (K 11) (K 12) (K 13) (K 14) (K 15) (K 16) (K 17) (K 18) (K 19) (K 27) (K 28) nC nT nR nD d sp).2.2.2.2.2.2.2.1)) 28 ((mr_M_walk (E 1) (E 21) (E 22) (E 23) (E 26) (K 6) (K 7) (K 8) (K 9) (K 10) (K 11) (K 12) (K 13) (K 14) (K 15) (K 16) (K 17) (K 18) (K 19) (K 27) (K 28) nC nT nR nD d sp).2.2.2.2.2.2.2.2)) := fun t eS eT => by
    rw [eT, eS]
    refine ⟨nC, nT, nR, nD, sz, pl, ?_⟩
    generalize (mr_M_know (E 26) (K 6) (K 7) (K 8) (K 9) (K 10) (K 11) (K 12) (K 13) (K 14) (K 15) (K 16) (K 17) (K 18) (K 19) (K 27) (K 28) nC nT nR nD) = N at hk9 ⊢
    unfold cR
    simp (config := { decide := true }) only [upd_if, vup_if, ↓reduceIte]
    exact ⟨h.1, h.2.1, h.2.2.1, h.2.2.2.1, ⟨fun _ => hk9.2.1, hk9.2.2⟩, h.2.2.2.2.2⟩
  by_cases c2 : mr_Bo_allows (G 8) (G 9) (G 10) (G 11) j = 0
  · have eX : mrx_X_walk (G 8) (G 9) (G 10) (G 11) nC nD d sp = 2 := by unfold mrx_X_walk; rw [des_eq hN, if_neg c1, cd, if_pos c2]
    have eT : mr_X_walk (F 9) (F 10) (F 11) (F 12) (G 0) (G 1) (G 8) (G 9) (G 10) (G 11) nC nD d sp = (0, F 9, F 11, F 12) := by unfold mr_X_walk; rw [des_eq hN, if_neg c1, cd, if_pos c2]
    have eS : mr_M_walk (E 1) (E 21) (E 22) (E 23) (E 26) (K 6) (K 7) (K 8) (K 9) (K 10) (K 11) (K 12) (K 13) (K 14) (K 15) (K 16) (K 17) (K 18) (K 19) (K 27) (K 28) nC nT nR nD d sp = (0, 2, E 1, E 22, E 23, (mr_M_know (E 26) (K 6) (K 7) (K 8) (K 9) (K 10) (K 11) (K 12) (K 13) (K 14) (K 15) (K 16) (K 17) (K 18) (K 19) (K 27) (K 28) nC nT nR nD).1, (mr_M_know (E 26) (K 6) (K 7) (K 8) (K 9) (K 10) (K 11) (K 12) (K 13) (K 14) (K 15) (K 16) (K 17) (K 18) (K 19) (K 27) (K 28) nC nT nR nD).2.1, (mr_M_know (E 26) (K 6) (K 7) (K 8) (K 9) (K 10) (K 11) (K 12) (K 13) (K 14) (K 15) (K 16) (K 17) (K 18) (K 19) (K 27) (K 28) nC nT nR nD).2.2.1, (mr_M_know (E 26) (K 6) (K 7) (K 8) (K 9) (K 10) (K 11) (K 12) (K 13) (K 14) (K 15) (K 16) (K 17) (K 18) (K 19) (K 27) (K 28) nC nT nR nD).2.2.2) := by unfold mr_M_walk; rw [if_neg c1, cd, if_pos (hl.mp c2)]; rfl
    exact ⟨by rw [eX, eS]; rfl, fun h9 => absurd h9 (by rw [eX]; decide), failW 2 eS eT⟩
  have n2 : ¬ (mr_M_know (E 26) (K 6) (K 7) (K 8) (K 9) (K 10) (K 11) (K 12) (K 13) (K 14) (K 15) (K 16) (K 17) (K 18) (K 19) (K 27) (K 28) nC nT nR nD).2.2.1 j = 0 := fun h9 => c2 (hl.mpr h9)
  by_cases c3 : sp < 1
  · have w3 : mr_M_within sp 1 1000 = 0 := by unfold mr_M_within; rw [if_pos c3]
    have eX : mrx_X_walk (G 8) (G 9) (G 10) (G 11) nC nD d sp = 2 := by unfold mrx_X_walk; rw [des_eq hN, if_neg c1, cd, if_neg c2, if_pos c3]
    have eT : mr_X_walk (F 9) (F 10) (F 11) (F 12) (G 0) (G 1) (G 8) (G 9) (G 10) (G 11) nC nD d sp = (0, F 9, F 11, F 12) := by unfold mr_X_walk; rw [des_eq hN, if_neg c1, cd, if_neg c2, if_pos c3]
    have eS : mr_M_walk (E 1) (E 21) (E 22) (E 23) (E 26) (K 6) (K 7) (K 8) (K 9) (K 10) (K 11) (K 12) (K 13) (K 14) (K 15) (K 16) (K 17) (K 18) (K 19) (K 27) (K 28) nC nT nR nD d sp = (0, 2, E 1, E 22, E 23, (mr_M_know (E 26) (K 6) (K 7) (K 8) (K 9) (K 10) (K 11) (K 12) (K 13) (K 14) (K 15) (K 16) (K 17) (K 18) (K 19) (K 27) (K 28) nC nT nR nD).1, (mr_M_know (E 26) (K 6) (K 7) (K 8) (K 9) (K 10) (K 11) (K 12) (K 13) (K 14) (K 15) (K 16) (K 17) (K 18) (K 19) (K 27) (K 28) nC nT nR nD).2.1, (mr_M_know (E 26) (K 6) (K 7) (K 8) (K 9) (K 10) (K 11) (K 12) (K 13) (K 14) (K 15) (K 16) (K 17) (K 18) (K 19) (K 27) (K 28) nC nT nR nD).2.2.1, (mr_M_know (E 26) (K 6) (K 7) (K 8) (K 9) (K 10) (K 11) (K 12) (K 13) (K 14) (K 15) (K 16) (K 17) (K 18) (K 19) (K 27) (K 28) nC nT nR nD).2.2.2) := by unfold mr_M_walk; rw [if_neg c1, cd, if_neg n2, if_pos w3]; rfl
    exact ⟨by rw [eX, eS]; rfl, fun h9 => absurd h9 (by rw [eX]; decide), failW 2 eS eT⟩
  by_cases c4 : sp ≤ 1000
  · have w4 : ¬ mr_M_within sp 1 1000 = 0 := by unfold mr_M_within; rw [if_neg c3, if_neg (Int32.not_lt.mpr c4)]; decide
    obtain ⟨m, hm, en⟩ := wi_1 (n := 1000) c3 (Int32.not_lt.mpr c4) (by omega)
    have cm : sp.toNatClampNeg = m := by rw [en]; exact nI_clamp (by omega)
    by_cases c5 : nI nC = 0
    · have eX : mrx_X_walk (G 8) (G 9) (G 10) (G 11) nC nD d sp = 4 := by unfold mrx_X_walk; rw [des_eq hN, if_neg c1, cd, if_neg c2, if_neg c3, if_pos c4, if_pos c5]
      have eT : mr_X_walk (F 9) (F 10) (F 11) (F 12) (G 0) (G 1) (G 8) (G 9) (G 10) (G 11) nC nD d sp = (0, F 9, F 11, F 12) := by unfold mr_X_walk; rw [des_eq hN, if_neg c1, cd, if_neg c2, if_neg c3, if_pos c4, if_pos c5]
      have eS : mr_M_walk (E 1) (E 21) (E 22) (E 23) (E 26) (K 6) (K 7) (K 8) (K 9) (K 10) (K 11) (K 12) (K 13) (K 14) (K 15) (K 16) (K 17) (K 18) (K 19) (K 27) (K 28) nC nT nR nD d sp = (0, 3, E 1, E 22, E 23, (mr_M_know (E 26) (K 6) (K 7) (K 8) (K 9) (K 10) (K 11) (K 12) (K 13) (K 14) (K 15) (K 16) (K 17) (K 18) (K 19) (K 27) (K 28) nC nT nR nD).1, (mr_M_know (E 26) (K 6) (K 7) (K 8) (K 9) (K 10) (K 11) (K 12) (K 13) (K 14) (K 15) (K 16) (K 17) (K 18) (K 19) (K 27) (K 28) nC nT nR nD).2.1, (mr_M_know (E 26) (K 6) (K 7) (K 8) (K 9) (K 10) (K 11) (K 12) (K 13) (K 14) (K 15) (K 16) (K 17) (K 18) (K 19) (K 27) (K 28) nC nT nR nD).2.2.1, (mr_M_know (E 26) (K 6) (K 7) (K 8) (K 9) (K 10) (K 11) (K 12) (K 13) (K 14) (K 15) (K 16) (K 17) (K 18) (K 19) (K 27) (K 28) nC nT nR nD).2.2.2) := by unfold mr_M_walk; rw [if_neg c1, cd, if_neg n2, if_neg w4, if_pos c5]; rfl
      exact ⟨by rw [eX, eS]; rfl, fun h9 => absurd h9 (by rw [eX]; decide), failW 3 eS eT⟩
    · have hC1 : 0 < nC := Nat.pos_of_ne_zero (fun h9 => c5 (by rw [h9]; rfl))
      have eX : mrx_X_walk (G 8) (G 9) (G 10) (G 11) nC nD d sp = 0 := by unfold mrx_X_walk; rw [des_eq hN, if_neg c1, cd, if_neg c2, if_neg c3, if_pos c4, if_neg c5]
      have sim := walk_sim (f10 := F 10) (dI := d) (spI := sp) (nT := nT) (nR := nR) (d := j) (sp := m) hC hC1 hN (by omega) cm s0 s1 h06 h6 hmp (cR_l27 h) (cR_n28 h) (m + 1) (m + 1) 0 j j d (F 9) d 0 (mr_M_know (E 26) (K 6) (K 7) (K 8) (K 9) (K 10) (K 11) (K 12) (K 13) (K 14) (K 15) (K 16) (K 17) (K 18) (K 19) (K 27) (K 28) nC nT nR nD).2.1 (by omega) (by omega) (Nat.zero_le _) hj hj ed ed
      have eT : mr_X_walk (F 9) (F 10) (F 11) (F 12) (G 0) (G 1) (G 8) (G 9) (G 10) (G 11) nC nD d sp = ((lf_Wa_go_29 (F 10) (G 0) (G 1) (G 8) (G 9) (G 10) (G 11) nC nD j m (m + 1) 0 (nI j) (mr_Bo_costOf (G 10) j) (mr_Bo_costOf (G 10) j) (F 9) (nI j) 0).2.1, (lf_Wa_go_29 (F 10) (G 0) (G 1) (G 8) (G 9) (G 10) (G 11) nC nD j m (m + 1) 0 (nI j) (mr_Bo_costOf (G 10) j) (mr_Bo_costOf (G 10) j) (F 9) (nI j) 0).2.2.2.2.1, (lf_Wa_go_29 (F 10) (G 0) (G 1) (G 8) (G 9) (G 10) (G 11) nC nD j m (m + 1) 0 (nI j) (mr_Bo_costOf (G 10) j) (mr_Bo_costOf (G 10) j) (F 9) (nI j) 0).2.2.2.2.2.1, (lf_Wa_go_29 (F 10) (G 0) (G 1) (G 8) (G 9) (G 10) (G 11) nC nD j m (m + 1) 0 (nI j) (mr_Bo_costOf (G 10) j) (mr_Bo_costOf (G 10) j) (F 9) (nI j) 0).2.2.2.2.2.2) := by unfold mr_X_walk mr_Wa_go; rw [des_eq hN, if_neg c1, cd, if_neg c2, if_neg c3, if_pos c4, if_neg c5, cm]
      have eS : mr_M_walk (E 1) (E 21) (E 22) (E 23) (E 26) (K 6) (K 7) (K 8) (K 9) (K 10) (K 11) (K 12) (K 13) (K 14) (K 15) (K 16) (K 17) (K 18) (K 19) (K 27) (K 28) nC nT nR nD d sp = ((lf_M_walk_77 (F 10) (K 6) nC nT nR nD d sp (mr_M_know (E 26) (K 6) (K 7) (K 8) (K 9) (K 10) (K 11) (K 12) (K 13) (K 14) (K 15) (K 16) (K 17) (K 18) (K 19) (K 27) (K 28) nC nT nR nD).2.2.1 (mr_M_know (E 26) (K 6) (K 7) (K 8) (K 9) (K 10) (K 11) (K 12) (K 13) (K 14) (K 15) (K 16) (K 17) (K 18) (K 19) (K 27) (K 28) nC nT nR nD).2.2.2 (m + 1) d 0 (F 9) d 0 (mr_M_know (E 26) (K 6) (K 7) (K 8) (K 9) (K 10) (K 11) (K 12) (K 13) (K 14) (K 15) (K 16) (K 17) (K 18) (K 19) (K 27) (K 28) nC nT nR nD).2.1).1, 0, (lf_M_walk_77 (F 10) (K 6) nC nT nR nD d sp (mr_M_know (E 26) (K 6) (K 7) (K 8) (K 9) (K 10) (K 11) (K 12) (K 13) (K 14) (K 15) (K 16) (K 17) (K 18) (K 19) (K 27) (K 28) nC nT nR nD).2.2.1 (mr_M_know (E 26) (K 6) (K 7) (K 8) (K 9) (K 10) (K 11) (K 12) (K 13) (K 14) (K 15) (K 16) (K 17) (K 18) (K 19) (K 27) (K 28) nC nT nR nD).2.2.2 (m + 1) d 0 (F 9) d 0 (mr_M_know (E 26) (K 6) (K 7) (K 8) (K 9) (K 10) (K 11) (K 12) (K 13) (K 14) (K 15) (K 16) (K 17) (K 18) (K 19) (K 27) (K 28) nC nT nR nD).2.1).2.2.1, (lf_M_walk_77 (F 10) (K 6) nC nT nR nD d sp (mr_M_know (E 26) (K 6) (K 7) (K 8) (K 9) (K 10) (K 11) (K 12) (K 13) (K 14) (K 15) (K 16) (K 17) (K 18) (K 19) (K 27) (K 28) nC nT nR nD).2.2.1 (mr_M_know (E 26) (K 6) (K 7) (K 8) (K 9) (K 10) (K 11) (K 12) (K 13) (K 14) (K 15) (K 16) (K 17) (K 18) (K 19) (K 27) (K 28) nC nT nR nD).2.2.2 (m + 1) d 0 (F 9) d 0 (mr_M_know (E 26) (K 6) (K 7) (K 8) (K 9) (K 10) (K 11) (K 12) (K 13) (K 14) (K 15) (K 16) (K 17) (K 18) (K 19) (K 27) (K 28) nC nT nR nD).2.1).2.2.2.1, (lf_M_walk_77 (F 10) (K 6) nC nT nR nD d sp (mr_M_know (E 26) (K 6) (K 7) (K 8) (K 9) (K 10) (K 11) (K 12) (K 13) (K 14) (K 15) (K 16) (K 17) (K 18) (K 19) (K 27) (K 28) nC nT nR nD).2.2.1 (mr_M_know (E 26) (K 6) (K 7) (K 8) (K 9) (K 10) (K 11) (K 12) (K 13) (K 14) (K 15) (K 16) (K 17) (K 18) (K 19) (K 27) (K 28) nC nT nR nD).2.2.2 (m + 1) d 0 (F 9) d 0 (mr_M_know (E 26) (K 6) (K 7) (K 8) (K 9) (K 10) (K 11) (K 12) (K 13) (K 14) (K 15) (K 16) (K 17) (K 18) (K 19) (K 27) (K 28) nC nT nR nD).2.1).2.2.2.2.1, (mr_M_know (E 26) (K 6) (K 7) (K 8) (K 9) (K 10) (K 11) (K 12) (K 13) (K 14) (K 15) (K 16) (K 17) (K 18) (K 19) (K 27) (K 28) nC nT nR nD).1, (lf_M_walk_77 (F 10) (K 6) nC nT nR nD d sp (mr_M_know (E 26) (K 6) (K 7) (K 8) (K 9) (K 10) (K 11) (K 12) (K 13) (K 14) (K 15) (K 16) (K 17) (K 18) (K 19) (K 27) (K 28) nC nT nR nD).2.2.1 (mr_M_know (E 26) (K 6) (K 7) (K 8) (K 9) (K 10) (K 11) (K 12) (K 13) (K 14) (K 15) (K 16) (K 17) (K 18) (K 19) (K 27) (K 28) nC nT nR nD).2.2.2 (m + 1) d 0 (F 9) d 0 (mr_M_know (E 26) (K 6) (K 7) (K 8) (K 9) (K 10) (K 11) (K 12) (K 13) (K 14) (K 15) (K 16) (K 17) (K 18) (K 19) (K 27) (K 28) nC nT nR nD).2.1).2.2.2.2.2, (mr_M_know (E 26) (K 6) (K 7) (K 8) (K 9) (K 10) (K 11) (K 12) (K 13) (K 14) (K 15) (K 16) (K 17) (K 18) (K 19) (K 27) (K 28) nC nT nR nD).2.2.1, (mr_M_know (E 26) (K 6) (K 7) (K 8) (K 9) (K 10) (K 11) (K 12) (K 13) (K 14) (K 15) (K 16) (K 17) (K 18) (K 19) (K 27) (K 28) nC nT nR nD).2.2.2) := by unfold mr_M_walk; rw [if_neg c1, cd, if_neg n2, if_neg w4, if_neg c5, cm, q3, q2]
      rw [← ed] at eT
      rw [eX, eT, eS]
      generalize lf_Wa_go_29 (F 10) (G 0) (G 1) (G 8) (G 9) (G 10) (G 11) nC nD j m (m + 1) 0 d (mr_Bo_costOf (G 10) j) (mr_Bo_costOf (G 10) j) (F 9) d 0 = A at sim ⊢
      generalize (mr_M_know (E 26) (K 6) (K 7) (K 8) (K 9) (K 10) (K 11) (K 12) (K 13) (K 14) (K 15) (K 16) (K 17) (K 18) (K 19) (K 27) (K 28) nC nT nR nD) = N at sim hk9 ⊢
      generalize lf_M_walk_77 (F 10) (K 6) nC nT nR nD d sp N.2.2.1 N.2.2.2 (m + 1) d 0 (F 9) d 0 N.2.1 = B at sim ⊢
      refine ⟨rfl, fun _ => sim.1, nC, nT, nR, nD, sz, pl, ?_⟩
      unfold cR
      simp (config := { decide := true }) only [upd_if, vup_if, ↓reduceIte]
      exact ⟨h.1, h.2.1, h.2.2.1, h.2.2.2.1, ⟨fun _ => hk9.2.1, hk9.2.2⟩, h.2.2.2.2.2.1, q1, sim.2.1, q3, sim.2.2.1, sim.2.2.2, q6, q7, q8, q9⟩
  · have w4 : mr_M_within sp 1 1000 = 0 := by unfold mr_M_within; rw [if_neg c3, if_pos (Int32.not_le.mp c4)]
    have eX : mrx_X_walk (G 8) (G 9) (G 10) (G 11) nC nD d sp = 2 := by unfold mrx_X_walk; rw [des_eq hN, if_neg c1, cd, if_neg c2, if_neg c3, if_neg c4]
    have eT : mr_X_walk (F 9) (F 10) (F 11) (F 12) (G 0) (G 1) (G 8) (G 9) (G 10) (G 11) nC nD d sp = (0, F 9, F 11, F 12) := by unfold mr_X_walk; rw [des_eq hN, if_neg c1, cd, if_neg c2, if_neg c3, if_neg c4]
    have eS : mr_M_walk (E 1) (E 21) (E 22) (E 23) (E 26) (K 6) (K 7) (K 8) (K 9) (K 10) (K 11) (K 12) (K 13) (K 14) (K 15) (K 16) (K 17) (K 18) (K 19) (K 27) (K 28) nC nT nR nD d sp = (0, 2, E 1, E 22, E 23, (mr_M_know (E 26) (K 6) (K 7) (K 8) (K 9) (K 10) (K 11) (K 12) (K 13) (K 14) (K 15) (K 16) (K 17) (K 18) (K 19) (K 27) (K 28) nC nT nR nD).1, (mr_M_know (E 26) (K 6) (K 7) (K 8) (K 9) (K 10) (K 11) (K 12) (K 13) (K 14) (K 15) (K 16) (K 17) (K 18) (K 19) (K 27) (K 28) nC nT nR nD).2.1, (mr_M_know (E 26) (K 6) (K 7) (K 8) (K 9) (K 10) (K 11) (K 12) (K 13) (K 14) (K 15) (K 16) (K 17) (K 18) (K 19) (K 27) (K 28) nC nT nR nD).2.2.1, (mr_M_know (E 26) (K 6) (K 7) (K 8) (K 9) (K 10) (K 11) (K 12) (K 13) (K 14) (K 15) (K 16) (K 17) (K 18) (K 19) (K 27) (K 28) nC nT nR nD).2.2.2) := by unfold mr_M_walk; rw [if_neg c1, cd, if_neg n2, if_pos w4]; rfl
    exact ⟨by rw [eX, eS]; rfl, fun h9 => absurd h9 (by rw [eX]; decide), failW 2 eS eT⟩
theorem b32_row {nC nT nR nD : Nat} {nu : Int32} {i0 : Nat → Int32} : ∀ n c, c < n → lf_M_best_32 nC nT nR nD nu i0 n c = -1 := by
  intro n
  induction n with
  | zero => intro c q; exact absurd q (Nat.not_lt_zero _)
  | succ n ih =>
    intro c hc
    rw [lf_M_best_32]
    by_cases e : c = n
    · rw [e, pk_us]
    · rw [pk_un e]; exact ih c (by omega)
set_option maxHeartbeats 4000000 in
theorem R_best {F E : Nat → Int32} {G K : Nat → Nat → Int32} {nC nT nR nD sz pl : Nat} (h : cR F G E K nC nT nR nD sz pl) (nu : Int32) : (mr_M_best (E 20) (K 6) (K 7) (K 8) (K 9) (K 10) (K 11) (K 12) (K 13) (K 14) (K 15) (K 16) (K 17) (K 18) (K 19) nC nT nR nD nu).2.1 = (if mrx_X_best nC nD nR nu = 0 then 0 else 1 : Int32) ∧ (mrx_X_best nC nD nR nu = 0 → (mr_X_best (F 6) (F 7) (F 8) (G 0) (G 1) (G 2) (G 3) (G 4) (G 5) (G 6) (G 7) (G 8) (G 9) (G 10) (G 14) nC nD nR nu).1 = (mr_M_best (E 20) (K 6) (K 7) (K 8) (K 9) (K 10) (K 11) (K 12) (K 13) (K 14) (K 15) (K 16) (K 17) (K 18) (K 19) nC nT nR nD nu).1) ∧ cX (upd (upd (upd F 6 ((mr_X_best (F 6) (F 7) (F 8) (G 0) (G 1) (G 2) (G 3) (G 4) (G 5) (G 6) (G 7) (G 8) (G 9) (G 10) (G 14) nC nD nR nu).2.1)) 7 ((mr_X_best (F 6) (F 7) (F 8) (G 0) (G 1) (G 2) (G 3) (G 4) (G 5) (G 6) (G 7) (G 8) (G 9) (G 10) (G 14) nC nD nR nu).2.2.1)) 8 ((mr_X_best (F 6) (F 7) (F 8) (G 0) (G 1) (G 2) (G 3) (G 4) (G 5) (G 6) (G 7) (G 8) (G 9) (G 10) (G 14) nC nD nR nu).2.2.2.1)) (va_up G 14 ((mr_X_best (F 6) (F 7) (F 8) (G 0) (G 1) (G 2) (G 3) (G 4) (G 5) (G 6) (G 7) (G 8) (G 9) (G 10) (G 14) nC nD nR nu).2.2.2.2)) (upd (upd E 0 ((mr_M_best (E 20) (K 6) (K 7) (K 8) (K 9) (K 10) (K 11) (K 12) (K 13) (K 14) (K 15) (K 16) (K 17) (K 18) (K 19) nC nT nR nD nu).2.1)) 20 ((mr_M_best (E 20) (K 6) (K 7) (K 8) (K 9) (K 10) (K 11) (K 12) (K 13) (K 14) (K 15) (K 16) (K 17) (K 18) (K 19) nC nT nR nD nu).2.2.1)) (va_up K 19 ((mr_M_best (E 20) (K 6) (K 7) (K 8) (K 9) (K 10) (K 11) (K 12) (K 13) (K 14) (K 15) (K 16) (K 17) (K 18) (K 19) nC nT nR nD nu).2.2.2)) := by
  obtain ⟨h2, hC, h3, hT, h4, hR, h5, hN, h6, h8, h10, h13, h15, h17, h27, h24, hpl, hmp6⟩ := cR_ref h
  obtain ⟨k0, k1, k2, k3, k4, hsz, k13, s0, s1, hmp, mA, mB, mQ, mQT, z8, z11, hD1⟩ := cR_cls h
  have h06 := h.1.2.2.2.2.2.2.1
  obtain ⟨q1, q2, q3, q4, q5, q6, q7, q8, q9⟩ := h.2.2.2.2.2.2
  by_cases c1 : mr_M_within nu 0 3 = 0
  · have eX : mrx_X_best nC nD nR nu = 1 := by unfold mrx_X_best; rw [num_eq, if_pos c1]
    have eT : mr_X_best (F 6) (F 7) (F 8) (G 0) (G 1) (G 2) (G 3) (G 4) (G 5) (G 6) (G 7) (G 8) (G 9) (G 10) (G 14) nC nD nR nu = (0, F 6, F 7, F 8, G 14) := by unfold mr_X_best; rw [num_eq, if_pos c1]
    have eS : mr_M_best (E 20) (K 6) (K 7) (K 8) (K 9) (K 10) (K 11) (K 12) (K 13) (K 14) (K 15) (K 16) (K 17) (K 18) (K 19) nC nT nR nD nu = (0, 1, E 20, K 19) := by unfold mr_M_best; rw [if_pos c1]; rfl
    rw [eX, eT, eS]
    refine ⟨rfl, fun h9 => absurd h9 (by decide), nC, nT, nR, nD, sz, pl, ?_⟩
    unfold cR
    simp (config := { decide := true }) only [upd_if, vup_if, ↓reduceIte]
    exact h
  obtain ⟨n, hn, en⟩ := num_ok c1
  have ck : nu.toNatClampNeg = n := by rw [en]; exact nI_clamp (by omega)
  have eX : mrx_X_best nC nD nR nu = 0 := by unfold mrx_X_best; rw [num_eq, if_neg c1]
  obtain ⟨t1, t2, t3, t4, t5, t6, t7⟩ := h.2.1
  obtain ⟨l1, l2, l3⟩ := h.2.2.1
  have hb0 := bm_0 h6 (by rw [hmp6]; exact hN) (lf_M_best_32 nC nT nR nD nu (K 19) nC)
  have sim := best_sim (c0 := G 0) (c1 := G 1) (c2 := G 2) (c3 := G 3) (c4 := G 4) (c5 := G 5) (c6 := G 6) (c7 := G 7) (c8 := G 8) (c9 := G 9) (c10 := G 10) (g6 := K 6) (g7 := K 7) (g8 := K 8) (g9 := K 9) (g10 := K 10) (g11 := K 11) (g12 := K 12) (g13 := K 13) (g14 := K 14) (g15 := K 15) (g16 := K 16) (g17 := K 17) (g18 := K 18) (nC := nC) (nT := nT) (nR := nR) (nD := nD) (nu := n) hC hN hn s0 s1 h06 h6 hmp hmp6 h8 h10
    (fun _ _ r q s hs hr => ⟨bars_eq hC hs hR s0 hr t4 t5, limits_eq (fun k hk => bound_eq hC hs hk s0 hr t1 t3 (t2 k hk) hT) (fun k _ => l1 k) (fun k _ => l2 k), bound_eq hC hs hn s0 hr t1 t3 (t2 n hn) hT⟩)
    (fun d hd => cR_num h hd hn) 8192 8193 1 0 (-1) 0 (F 8) 0 (F 6) (G 14) (lf_M_best_32 nC nT nR nD nu (K 19) nC) hb0 (by omega) (by omega) (Nat.le_refl _)
    (Or.inr ⟨0, Nat.zero_le _, rfl, fun c hc => absurd hc (Nat.not_lt_zero _), fun c hc => absurd hc (Nat.not_lt_zero _), fun c _ hcn => b32_row nC c hcn⟩) rfl (Or.inr ⟨rfl, by decide⟩) (Or.inl rfl)
  have eT : mr_X_best (F 6) (F 7) (F 8) (G 0) (G 1) (G 2) (G 3) (G 4) (G 5) (G 6) (G 7) (G 8) (G 9) (G 10) (G 14) nC nD nR nu = ((lf_Se_leastOf_9 (G 0) (G 1) (G 2) (G 3) (G 4) (G 5) (G 6) (G 7) (G 8) (G 9) (G 10) nC nD nR n 8193 0 1 (F 6) (-1) (F 8) (G 14)).2.2.2.1, (lf_Se_leastOf_9 (G 0) (G 1) (G 2) (G 3) (G 4) (G 5) (G 6) (G 7) (G 8) (G 9) (G 10) nC nD nR n 8193 0 1 (F 6) (-1) (F 8) (G 14)).2.2.1, (lf_Se_leastOf_9 (G 0) (G 1) (G 2) (G 3) (G 4) (G 5) (G 6) (G 7) (G 8) (G 9) (G 10) nC nD nR n 8193 0 1 (F 6) (-1) (F 8) (G 14)).2.2.2.1, (lf_Se_leastOf_9 (G 0) (G 1) (G 2) (G 3) (G 4) (G 5) (G 6) (G 7) (G 8) (G 9) (G 10) nC nD nR n 8193 0 1 (F 6) (-1) (F 8) (G 14)).2.2.2.2.1, (lf_Se_leastOf_9 (G 0) (G 1) (G 2) (G 3) (G 4) (G 5) (G 6) (G 7) (G 8) (G 9) (G 10) nC nD nR n 8193 0 1 (F 6) (-1) (F 8) (G 14)).2.2.2.2.2) := by unfold mr_X_best mr_Se_leastOf; rw [num_eq, if_neg c1, ck]
  have eS : mr_M_best (E 20) (K 6) (K 7) (K 8) (K 9) (K 10) (K 11) (K 12) (K 13) (K 14) (K 15) (K 16) (K 17) (K 18) (K 19) nC nT nR nD nu = ((lf_M_best_58 (K 6) (K 7) (K 8) (K 9) (K 10) (K 11) (K 12) (K 13) (K 14) (K 15) (K 16) (K 17) (K 18) nC nT nR nD (nI n) 8192 0 (-1) 0 0 (lf_M_best_32 nC nT nR nD nu (K 19) nC)).2.1, 0, (lf_M_best_58 (K 6) (K 7) (K 8) (K 9) (K 10) (K 11) (K 12) (K 13) (K 14) (K 15) (K 16) (K 17) (K 18) nC nT nR nD (nI n) 8192 0 (-1) 0 0 (lf_M_best_32 nC nT nR nD nu (K 19) nC)).1, (lf_M_best_58 (K 6) (K 7) (K 8) (K 9) (K 10) (K 11) (K 12) (K 13) (K 14) (K 15) (K 16) (K 17) (K 18) nC nT nR nD (nI n) 8192 0 (-1) 0 0 (lf_M_best_32 nC nT nR nD nu (K 19) nC)).2.2.2.2) := by unfold mr_M_best; rw [if_neg c1, ← en]
  rw [eX, eT, eS]
  generalize lf_Se_leastOf_9 (G 0) (G 1) (G 2) (G 3) (G 4) (G 5) (G 6) (G 7) (G 8) (G 9) (G 10) nC nD nR n 8193 0 1 (F 6) (-1) (F 8) (G 14) = A at sim ⊢
  generalize lf_M_best_58 (K 6) (K 7) (K 8) (K 9) (K 10) (K 11) (K 12) (K 13) (K 14) (K 15) (K 16) (K 17) (K 18) nC nT nR nD (nI n) 8192 0 (-1) 0 0 (lf_M_best_32 nC nT nR nD nu (K 19) nC) = B at sim ⊢
  refine ⟨rfl, fun _ => sim.1, nC, nT, nR, nD, sz, pl, ?_⟩
  unfold cR
  simp (config := { decide := true }) only [upd_if, vup_if, ↓reduceIte]
  exact ⟨h.1, h.2.1, h.2.2.1, h.2.2.2.1, h.2.2.2.2.1, h.2.2.2.2.2.1, sim.2, q2, q3, q4, q5, q6, q7, q8, q9⟩
theorem blk_up {d i u z : Nat} (hu : 0 < u) (hz : 0 < z) (hb : (d + i * u) / (u * z) = d / (u * z)) : d / u % z + i < z := by
  have e1 : (d + i * u) / u = d / u + i := Nat.add_mul_div_right d i hu
  rw [← Nat.div_div_eq_div_mul, ← Nat.div_div_eq_div_mul, e1] at hb
  have m1 := Nat.div_add_mod (d / u) z
  have m2 := Nat.div_add_mod (d / u + i) z
  have m3 := Nat.mod_lt (d / u + i) hz
  rw [hb] at m2
  generalize z * (d / u / z) = w at m1 m2
  omega
theorem blk_dn {f a u z : Nat} (hu : 0 < u) (hz : 0 < z) (h0 : f / u % z = 0) (ha : a < z) : (f + a * u) / (u * z) = f / (u * z) := by
  have e1 : (f + a * u) / u = f / u + a := Nat.add_mul_div_right f a hu
  rw [← Nat.div_div_eq_div_mul, ← Nat.div_div_eq_div_mul, e1]
  have m1 := Nat.div_add_mod (f / u) z
  rw [h0, Nat.add_zero] at m1
  generalize f / u / z = q at m1
  rw [← m1, Nat.mul_add_div hz, Nat.div_eq_of_lt ha, Nat.add_zero]
theorem lin_0 {d u z : Nat} (hu : 0 < u) (hz : 0 < z) : d / u % z * u ≤ d ∧ (d - d / u % z * u) / u % z = 0 := by
  have l1 : d / u % z ≤ d / u := Nat.mod_le _ _
  have l2 : d / u % z * u ≤ d / u * u := Nat.mul_le_mul_right _ l1
  have l3 : d / u * u ≤ d := Nat.div_mul_le_self _ _
  have l4 : d / u % z * u ≤ d := Nat.le_trans l2 l3
  refine ⟨l4, ?_⟩
  have e1 : (d - d / u % z * u + d / u % z * u) / u = (d - d / u % z * u) / u + d / u % z := Nat.add_mul_div_right _ _ hu
  rw [Nat.sub_add_cancel l4] at e1
  have m1 := Nat.div_add_mod (d / u) z
  have e2 : (d - d / u % z * u) / u = z * (d / u / z) := by omega
  rw [e2]; exact Nat.mul_mod_right _ _
theorem mat_eq {c0 c1 c8 c9 c10 c11 k6 g27 g28 : Nat → Int32} {nC nT nR nD ch nu : Nat} {chI nuI : Int32} (hN : nD ≤ 4096) (s0 : ∀ c, c < nC → ∃ z : Nat, c0 c = nI z ∧ 2 ≤ z ∧ z ≤ 6) (s1 : ∀ c, c < nC → c1 c = nI (pc_ (zg c0) nC c)) (hmp : mp (zg c0) 0 nC = nD) (h06 : ∀ c, c < nC → k6 c = c0 c) (hch : ch < nC) (hnu : nu < 4) (ech : chI.toNatClampNeg = ch) (enu : nuI.toNatClampNeg = nu)
    (hleg : ∀ d, d < nD → (mr_Bo_allows c8 c9 c10 c11 d = 0 ↔ g27 d = 0)) (hnum : ∀ d k, d < nD → k < 4 → c10 (d * 4 + k) = g28 (4 * d + k)) : mr_Bo_greatestDifference c0 c1 c8 c9 c10 c11 nC nD ch nu = lf_M_matters_85 k6 nC nT nR nD chI nuI g27 g28 0 nD := by
  have ez := zg_06 h06
  have epc : pc_ (zg k6) nC ch = pc_ (zg c0) nC ch := by unfold pc_; exact mp_ext (fun i hi => ez _ (by omega))
  obtain ⟨p1, p2⟩ := un_ok s0 hch hmp
  obtain ⟨z1, z2, z3⟩ := zg_ok s0 hch
  have hu4 : pc_ (zg c0) nC ch ≤ 4096 := Nat.le_trans (Nat.le_mul_of_pos_right _ (by omega)) (Nat.le_trans p2 hN)
  have mR := mt_ref (g27 := g27) (g28 := g28) (g6 := k6) (nC := nC) (nT := nT) (nR := nR) (nD := nD) (nu := nu) (ch := chI) (nI' := nuI) (u := pc_ (zg c0) nC ch) (B := pc_ (zg c0) nC ch * zg c0 ch) p1 (Nat.mul_pos p1 (by omega)) (by rw [ech, epc]) (by rw [ech, epc, ez ch hch]) enu hN (Nat.le_trans p2 hN) hu4 nD (Nat.le_refl _)
  have mC := gd_sem (c0 := c0) (c1 := c1) (c8 := c8) (c9 := c9) (c10 := c10) (c11 := c11) (nC := nC) (nD := nD) (nu := nu) (ch := ch) (u := pc_ (zg c0) nC ch) rfl nD
  have hdig : ∀ f, f < nD → (mr_Sh_digit c0 c1 (nI f) ch = 0 ↔ f / pc_ (zg c0) nC ch % zg c0 ch = 0) := fun f hf => by
    rw [dig_sem s0 s1 hmp hN hch (by omega)]
    have hl : dg (zg c0) nC f ch < zg c0 ch := dg_lt (by omega)
    exact (nI_eq (a := dg (zg c0) nC f ch) (b := 0) (by omega) (by omega))
  refine Int64.toInt_inj.mp (mxI_eq mC mR ?_ ?_)
  · rintro x ⟨f, hf, h0, a, b, ha, hb, la, lb, ex⟩ hx
    have h0' := (hdig f hf).mp h0
    have fa : f + a * pc_ (zg c0) nC ch < nD := by rw [← hmp]; exact dg_0 hch p1 (by rw [hmp]; exact hf) h0' ha
    have fb : f + b * pc_ (zg c0) nC ch < nD := by rw [← hmp]; exact dg_0 hch p1 (by rw [hmp]; exact hf) h0' hb
    have ka := blk_dn p1 (by omega) h0' ha
    have kb := blk_dn p1 (by omega) h0' hb
    have na := hnum _ nu fa hnu
    have nb := hnum _ nu fb hnu
    rw [na, nb] at ex
    have ga : ¬ g27 (f + a * pc_ (zg c0) nC ch) = 0 := fun h9 => la ((hleg _ fa).mpr h9)
    have gb : ¬ g27 (f + b * pc_ (zg c0) nC ch) = 0 := fun h9 => lb ((hleg _ fb).mpr h9)
    refine ⟨x, ?_, Int.le_refl _⟩
    rcases Nat.lt_trichotomy a b with q | q | q
    · exact ⟨_, _, fa, ⟨fb, ga, gb, by rw [ka, kb], b - a, by omega, by rw [Nat.add_assoc, ← Nat.add_mul, show a + (b - a) = b by omega]⟩, Or.inr ex⟩
    · subst q; omega
    · exact ⟨_, _, fb, ⟨fa, gb, ga, by rw [ka, kb], a - b, by omega, by rw [Nat.add_assoc, ← Nat.add_mul, show b + (a - b) = a by omega]⟩, Or.inl ex⟩
  · rintro x ⟨d, e, hd, ⟨he, gd, ge, hb, i, hi, ei⟩, hx⟩ hx0
    obtain ⟨f1, f2⟩ := lin_0 (d := d) (u := pc_ (zg c0) nC ch) (z := zg c0 ch) p1 (by omega)
    have hi2 := blk_up (d := d) (i := i) p1 (by omega : 0 < zg c0 ch) (by rw [← ei]; exact hb)
    have nd := hnum d nu hd hnu
    have ne := hnum e nu he hnu
    have ld : ¬ mr_Bo_allows c8 c9 c10 c11 d = 0 := fun h9 => gd ((hleg d hd).mp h9)
    have le : ¬ mr_Bo_allows c8 c9 c10 c11 e = 0 := fun h9 => ge ((hleg e he).mp h9)
    generalize hA : d / pc_ (zg c0) nC ch % zg c0 ch = A at f1 f2 hi2
    have ed : d - A * pc_ (zg c0) nC ch + A * pc_ (zg c0) nC ch = d := Nat.sub_add_cancel f1
    have ee : d - A * pc_ (zg c0) nC ch + (A + i) * pc_ (zg c0) nC ch = e := by rw [Nat.add_mul, ← Nat.add_assoc, ed, ei]
    have hf : d - A * pc_ (zg c0) nC ch < nD := by omega
    refine ⟨x, ⟨d - A * pc_ (zg c0) nC ch, hf, (hdig _ hf).mpr f2, ?_⟩, Int.le_refl _⟩
    rcases hx with hx | hx
    · exact ⟨A + i, A, hi2, by omega, by rw [ee]; exact le, by rw [ed]; exact ld, by rw [ee, ed, nd, ne]; exact hx⟩
    · exact ⟨A, A + i, by omega, hi2, by rw [ed]; exact ld, by rw [ee]; exact le, by rw [ee, ed, nd, ne]; exact hx⟩
set_option maxHeartbeats 4000000 in
theorem R_matters {F E : Nat → Int32} {G K : Nat → Nat → Int32} {nC nT nR nD sz pl : Nat} (h : cR F G E K nC nT nR nD sz pl) (ch : Int32) (nu : Int32) : (mr_M_matters (E 26) (K 6) (K 7) (K 8) (K 9) (K 10) (K 11) (K 12) (K 13) (K 14) (K 15) (K 16) (K 17) (K 18) (K 19) (K 27) (K 28) nC nT nR nD ch nu).2.1 = (if mrx_X_matters nC nD ch nu = 0 then 0 else 1 : Int32) ∧ (mrx_X_matters nC nD ch nu = 0 → (mr_X_matters (G 0) (G 1) (G 8) (G 9) (G 10) (G 11) nC nD ch nu) = (mr_M_matters (E 26) (K 6) (K 7) (K 8) (K 9) (K 10) (K 11) (K 12) (K 13) (K 14) (K 15) (K 16) (K 17) (K 18) (K 19) (K 27) (K 28) nC nT nR nD ch nu).1) ∧ cX F G (upd (upd E 0 ((mr_M_matters (E 26) (K 6) (K 7) (K 8) (K 9) (K 10) (K 11) (K 12) (K 13) (K 14) (K 15) (K 16) (K 17) (K 18) (K 19) (K 27) (K 28) nC nT nR nD ch nu).2.1)) 26 ((mr_M_matters (E 26) (K 6) (K 7) (K 8) (K 9) (K 10) (K 11) (K 12) (K 13) (K 14) (K 15) (K 16) (K 17) (K 18) (K 19) (K 27) (K 28) nC nT nR nD ch nu).2.2.1)) (va_up (va_up (va_up K 19 ((mr_M_matters (E 26) (K 6) (K 7) (K 8) (K 9) (K 10) (K 11) (K 12) (K 13) (K 14) (K 15) (K 16) (K 17) (K 18) (K 19) (K 27) (K 28) nC nT nR nD ch nu).2.2.2.1)) 27 ((mr_M_matters (E 26) (K 6) (K 7) (K 8) (K 9) (K 10) (K 11) (K 12) (K 13) (K 14) (K 15) (K 16) (K 17) (K 18) (K 19) (K 27) (K 28) nC nT nR nD ch nu).2.2.2.2.1)) 28 ((mr_M_matters (E 26) (K 6) (K 7) (K 8) (K 9) (K 10) (K 11) (K 12) (K 13) (K 14) (K 15) (K 16) (K 17) (K 18) (K 19) (K 27) (K 28) nC nT nR nD ch nu).2.2.2.2.2)) := by
  obtain ⟨h2, hC, h3, hT, h4, hR, h5, hN, h6, h8, h10, h13, h15, h17, h27, h24, hpl, hmp6⟩ := cR_ref h
  obtain ⟨k0, k1, k2, k3, k4, hsz, k13, s0, s1, hmp, mA, mB, mQ, mQT, z8, z11, hD1⟩ := cR_cls h
  have h06 := h.1.2.2.2.2.2.2.1
  by_cases c1 : mr_M_within ch 0 (nI nC - 1) = 0
  · have eX : mrx_X_matters nC nD ch nu = 1 := by unfold mrx_X_matters; rw [cho_eq hC, if_pos c1]
    have eS : mr_M_matters (E 26) (K 6) (K 7) (K 8) (K 9) (K 10) (K 11) (K 12) (K 13) (K 14) (K 15) (K 16) (K 17) (K 18) (K 19) (K 27) (K 28) nC nT nR nD ch nu = (0, 1, E 26, K 19, K 27, K 28) := by unfold mr_M_matters; rw [if_pos c1, if_neg (by decide)]
    rw [eX, eS]
    exact ⟨rfl, fun h9 => absurd h9 (by decide), _, _, _, _, _, _, cR_same h⟩
  obtain ⟨c, hc, ec⟩ := wn_ok (by omega) c1
  have cc : ch.toNatClampNeg = c := by rw [ec]; exact nI_clamp (by omega)
  by_cases c2 : mr_M_within nu 0 3 = 0
  · have eX : mrx_X_matters nC nD ch nu = 1 := by unfold mrx_X_matters; rw [cho_eq hC, if_neg c1, num_eq, if_pos c2]
    have eS : mr_M_matters (E 26) (K 6) (K 7) (K 8) (K 9) (K 10) (K 11) (K 12) (K 13) (K 14) (K 15) (K 16) (K 17) (K 18) (K 19) (K 27) (K 28) nC nT nR nD ch nu = (0, 1, E 26, K 19, K 27, K 28) := by unfold mr_M_matters; rw [if_neg c1, if_pos c2, if_neg (by decide)]
    rw [eX, eS]
    exact ⟨rfl, fun h9 => absurd h9 (by decide), _, _, _, _, _, _, cR_same h⟩
  obtain ⟨n, hn, en⟩ := num_ok c2
  have ck : nu.toNatClampNeg = n := by rw [en]; exact nI_clamp (by omega)
  have eX : mrx_X_matters nC nD ch nu = 0 := by unfold mrx_X_matters; rw [cho_eq hC, if_neg c1, num_eq, if_neg c2]
  have eS : mr_M_matters (E 26) (K 6) (K 7) (K 8) (K 9) (K 10) (K 11) (K 12) (K 13) (K 14) (K 15) (K 16) (K 17) (K 18) (K 19) (K 27) (K 28) nC nT nR nD ch nu = (lf_M_matters_85 (K 6) nC nT nR nD ch nu (mr_M_know (E 26) (K 6) (K 7) (K 8) (K 9) (K 10) (K 11) (K 12) (K 13) (K 14) (K 15) (K 16) (K 17) (K 18) (K 19) (K 27) (K 28) nC nT nR nD).2.2.1 (mr_M_know (E 26) (K 6) (K 7) (K 8) (K 9) (K 10) (K 11) (K 12) (K 13) (K 14) (K 15) (K 16) (K 17) (K 18) (K 19) (K 27) (K 28) nC nT nR nD).2.2.2 0 nD, 0, (mr_M_know (E 26) (K 6) (K 7) (K 8) (K 9) (K 10) (K 11) (K 12) (K 13) (K 14) (K 15) (K 16) (K 17) (K 18) (K 19) (K 27) (K 28) nC nT nR nD).1, (mr_M_know (E 26) (K 6) (K 7) (K 8) (K 9) (K 10) (K 11) (K 12) (K 13) (K 14) (K 15) (K 16) (K 17) (K 18) (K 19) (K 27) (K 28) nC nT nR nD).2.1, (mr_M_know (E 26) (K 6) (K 7) (K 8) (K 9) (K 10) (K 11) (K 12) (K 13) (K 14) (K 15) (K 16) (K 17) (K 18) (K 19) (K 27) (K 28) nC nT nR nD).2.2.1, (mr_M_know (E 26) (K 6) (K 7) (K 8) (K 9) (K 10) (K 11) (K 12) (K 13) (K 14) (K 15) (K 16) (K 17) (K 18) (K 19) (K 27) (K 28) nC nT nR nD).2.2.2) := by unfold mr_M_matters; rw [if_neg c1, if_neg c2, if_pos (by decide)]
  have eT : mr_X_matters (G 0) (G 1) (G 8) (G 9) (G 10) (G 11) nC nD ch nu = mr_Bo_greatestDifference (G 0) (G 1) (G 8) (G 9) (G 10) (G 11) nC nD c n := by unfold mr_X_matters; rw [cho_eq hC, if_neg c1, num_eq, if_neg c2, cc, ck]
  rw [eX, eS, eT]
  exact ⟨rfl, fun _ => mat_eq hN s0 s1 hmp h06 hc hn cc ck (cR_l27 h) (cR_n28 h), _, _, _, _, _, _, cR_know h⟩
