set_option maxHeartbeats 4000000 in
theorem R_looked {F E : Nat → Int32} {G K : Nat → Nat → Int32} {nC nT nR nD sz pl : Nat} (h : cR F G E K nC nT nR nD sz pl) : (mr_X_looked (F 6)) = (mr_M_looked (E 20)).1 ∧ cX F G (upd E 0 ((mr_M_looked (E 20)).2)) K := by
  exact ⟨h.2.2.2.2.2.2.1, _, _, _, _, _, _, cR_e0 h _⟩
set_option maxHeartbeats 4000000 in
theorem R_lowest {F E : Nat → Int32} {G K : Nat → Nat → Int32} {nC nT nR nD sz pl : Nat} (h : cR F G E K nC nT nR nD sz pl) : (mr_X_lowest (F 11)) = (mr_M_lowest (E 22)).1 ∧ cX F G (upd E 0 ((mr_M_lowest (E 22)).2)) K := by
  exact ⟨h.2.2.2.2.2.2.2.2.2.1, _, _, _, _, _, _, cR_e0 h _⟩
theorem lim_on {a b : Nat → Int32} {w : Int32} (hab : ∀ j, a j = b j) : ∀ n, lf_Bo_limitsOn_4 a 0 n = lf_M_count_82 b w 0 n := by
  intro n
  induction n with
  | zero => rfl
  | succ n ih =>
    rw [lf_Bo_limitsOn_4, lf_M_count_82, ih, hab n]
    by_cases h : b n = 0
    · rw [if_pos h, if_pos h, Int32.add_zero]
    · rw [if_neg h, if_neg h]
set_option maxHeartbeats 4000000 in
theorem R_count {F E : Nat → Int32} {G K : Nat → Nat → Int32} {nC nT nR nD sz pl : Nat} (h : cR F G E K nC nT nR nD sz pl) (w : Int32) : (mr_X_count (F 0) (F 1) (F 2) (F 3) (F 10) (F 12) (F 13) (F 14) (G 8) w) = (mr_M_count (E 2) (E 3) (E 4) (E 5) (E 21) (E 23) (E 24) (E 25) (K 17) w).1 ∧ cX F G (upd E 0 ((mr_M_count (E 2) (E 3) (E 4) (E 5) (E 21) (E 23) (E 24) (E 25) (K 17) w).2)) K := by
  refine ⟨?_, _, _, _, _, _, _, cR_e0 h _⟩
  obtain ⟨h2, hC, h3, hT, h4, hR, h5, hN, h6, h8, h10, h13, h15, h17, h27, h24, hpl, hmp6⟩ := cR_ref h
  obtain ⟨k0, k1, k2, k3, k4, hsz, k13, s0, s1, hmp, mA, mB, mQ, mQT, z8, z11, hD1⟩ := cR_cls h
  obtain ⟨q1, q2, q3, q4, q5, q6, q7, q8, q9⟩ := h.2.2.2.2.2.2
  unfold mr_X_count mr_M_count
  by_cases c0 : w = 0
  · rw [if_pos c0, if_pos c0]; exact k0.trans h2.symm
  rw [if_neg c0, if_neg c0]
  by_cases c1 : w = 1
  · rw [if_pos c1, if_pos c1]; exact k1.trans h5.symm
  rw [if_neg c1, if_neg c1]
  by_cases c2 : w = 2
  · rw [if_pos c2, if_pos c2]; exact k2.trans h3.symm
  rw [if_neg c2, if_neg c2]
  by_cases c3 : w = 3
  · rw [if_pos c3, if_pos c3]; exact k3.trans h4.symm
  rw [if_neg c3, if_neg c3]
  by_cases c4 : w = 4
  · rw [if_pos c4, if_pos c4]; exact lim_on h.2.2.1.1 4
  rw [if_neg c4, if_neg c4]
  by_cases c5 : w = 5
  · rw [if_pos c5, if_pos c5]; exact q3
  rw [if_neg c5, if_neg c5]
  by_cases c6 : w = 6
  · rw [if_pos c6, if_pos c6]
    show (if mr_Sw_isAtEnd (F 1) (F 13) = 0 then F 13 else -1 : Int32) = (if E 24 = E 5 then -1 else E 24)
    unfold mr_Sw_isAtEnd
    rw [k1, k13, h24, h5]
    by_cases e : pl = nD
    · rw [if_neg (show ¬ nI pl < nI nD from nI_nlt (by omega) (by omega)), if_neg (by decide), if_pos (show nI pl = nI nD by rw [e])]
    · rw [if_pos (show nI pl < nI nD from nI_lt (by omega) (by omega)), if_pos rfl, if_neg (show ¬ nI pl = nI nD from fun h9 => e ((nI_eq (by omega) (by omega)).mp h9))]
  rw [if_neg c6, if_neg c6]
  by_cases c7 : w = 7
  · rw [if_pos c7, if_pos c7]; exact q9
  rw [if_neg c7, if_neg c7]
  by_cases c8 : w = 8
  · rw [if_pos c8, if_pos c8]; exact q5
  rw [if_neg c8, if_neg c8]
set_option maxHeartbeats 4000000 in
theorem R_slack {F E : Nat → Int32} {G K : Nat → Nat → Int32} {nC nT nR nD sz pl : Nat} (h : cR F G E K nC nT nR nD sz pl) (x : Int32) : (mr_M_slack (E 21) x).2.1 = (if mrx_X_slack x = 0 then 0 else 1 : Int32) ∧ (mrx_X_slack x = 0 → (mr_X_slack (F 10) x).1 = (mr_M_slack (E 21) x).1) ∧ cX (upd F 10 ((mr_X_slack (F 10) x).2)) G (upd (upd E 0 ((mr_M_slack (E 21) x).2.1)) 21 ((mr_M_slack (E 21) x).2.2)) K := by
  obtain ⟨q1, q2, q3, q4, q5, q6, q7, q8, q9⟩ := h.2.2.2.2.2.2
  by_cases c : 0 ≤ x
  · have eX : mrx_X_slack x = 0 := by unfold mrx_X_slack; rw [if_pos c]
    have eS : mr_M_slack (E 21) x = (E 21, 0, x) := by unfold mr_M_slack; rw [if_pos c]
    have eT : mr_X_slack (F 10) x = (F 10, x) := by unfold mr_X_slack; rw [if_pos c]
    rw [eX, eS, eT]
    refine ⟨rfl, fun _ => q3, nC, nT, nR, nD, sz, pl, ?_⟩
    unfold cR
    simp (config := { decide := true }) only [upd_if, vup_if, ↓reduceIte]
    exact ⟨h.1, h.2.1, h.2.2.1, h.2.2.2.1, h.2.2.2.2.1, h.2.2.2.2.2.1, q1, q2, rfl, q4, q5, q6, q7, q8, q9⟩
  · have eX : mrx_X_slack x = 2 := by unfold mrx_X_slack; rw [if_neg c]
    have eS : mr_M_slack (E 21) x = (0, 1, E 21) := by unfold mr_M_slack; rw [if_neg c]; rfl
    have eT : mr_X_slack (F 10) x = (0, F 10) := by unfold mr_X_slack; rw [if_neg c]
    rw [eX, eS, eT]
    refine ⟨rfl, fun h9 => absurd h9 (by decide), nC, nT, nR, nD, sz, pl, ?_⟩
    unfold cR
    simp (config := { decide := true }) only [upd_if, vup_if, ↓reduceIte]
    exact h
set_option maxHeartbeats 4000000 in
theorem R_limit {F E : Nat → Int32} {G K : Nat → Nat → Int32} {nC nT nR nD sz pl : Nat} (h : cR F G E K nC nT nR nD sz pl) (nu : Int32) (on : Int32) (mo : Int32) (hon : on = 0 ∨ on = 1) : (mr_M_limit (E 26) (K 17) (K 18) nu on mo).2.1 = (if mrx_X_limit nu on mo = 0 then 0 else 1 : Int32) ∧ (mrx_X_limit nu on mo = 0 → (mr_X_limit (F 5) (G 8) (G 9) nu on mo).1 = (mr_M_limit (E 26) (K 17) (K 18) nu on mo).1) ∧ cX (upd F 5 ((mr_X_limit (F 5) (G 8) (G 9) nu on mo).2.1)) (va_up (va_up G 8 ((mr_X_limit (F 5) (G 8) (G 9) nu on mo).2.2.1)) 9 ((mr_X_limit (F 5) (G 8) (G 9) nu on mo).2.2.2)) (upd (upd E 0 ((mr_M_limit (E 26) (K 17) (K 18) nu on mo).2.1)) 26 ((mr_M_limit (E 26) (K 17) (K 18) nu on mo).2.2.1)) (va_up (va_up K 17 ((mr_M_limit (E 26) (K 17) (K 18) nu on mo).2.2.2.1)) 18 ((mr_M_limit (E 26) (K 17) (K 18) nu on mo).2.2.2.2)) := by
  obtain ⟨l1, l2, l3⟩ := h.2.2.1
  obtain ⟨h2, hC, h3, hT, h4, hR, h5, hN, h6, h8, h10, h13, h15, h17, h27, h24, hpl, hmp6⟩ := cR_ref h
  by_cases c : mr_M_within nu 0 3 = 0
  · have eX : mrx_X_limit nu on mo = 1 := by unfold mrx_X_limit; rw [num_eq, if_pos c]
    have eS : mr_M_limit (E 26) (K 17) (K 18) nu on mo = (0, 1, E 26, K 17, K 18) := by unfold mr_M_limit; rw [if_pos c, if_neg (by decide)]
    have eT : mr_X_limit (F 5) (G 8) (G 9) nu on mo = (0, F 5, G 8, G 9) := by unfold mr_X_limit; rw [num_eq, if_pos c]
    rw [eX, eS, eT]
    refine ⟨rfl, fun h9 => absurd h9 (by decide), nC, nT, nR, nD, sz, pl, ?_⟩
    unfold cR
    simp (config := { decide := true }) only [upd_if, vup_if, ↓reduceIte]
    exact h
  · have eX : mrx_X_limit nu on mo = 0 := by unfold mrx_X_limit; rw [num_eq, if_neg c]
    have eS : mr_M_limit (E 26) (K 17) (K 18) nu on mo = (K 17 nu.toNatClampNeg, 0, 0, upd (K 17) nu.toNatClampNeg on, upd (K 18) nu.toNatClampNeg mo) := by unfold mr_M_limit; rw [if_neg c, if_pos (by decide)]
    have eT : mr_X_limit (F 5) (G 8) (G 9) nu on mo = (G 8 nu.toNatClampNeg, 0, upd (G 8) nu.toNatClampNeg on, upd (G 9) nu.toNatClampNeg mo) := by unfold mr_X_limit; rw [num_eq, if_neg c]; rfl
    rw [eX, eS, eT]
    refine ⟨rfl, fun _ => l1 _, nC, nT, nR, nD, sz, pl, ?_⟩
    generalize nu.toNatClampNeg = k
    have u1 : ∀ j, upd (G 8) k on j = upd (K 17) k on j := fun j => by
      by_cases e : j = k
      · rw [e, pk_us, pk_us]
      · rw [pk_un e, pk_un e]; exact l1 j
    have u2 : ∀ j, upd (G 9) k mo j = upd (K 18) k mo j := fun j => by
      by_cases e : j = k
      · rw [e, pk_us, pk_us]
      · rw [pk_un e, pk_un e]; exact l2 j
    have u3 : ∀ j, upd (G 8) k on j = 0 ∨ upd (G 8) k on j = 1 := fun j => by
      by_cases e : j = k
      · rw [e, pk_us]; exact hon
      · rw [pk_un e]; exact l3 j
    generalize upd (G 8) k on = a8 at u1 u3 ⊢
    generalize upd (G 9) k mo = a9 at u2 ⊢
    generalize upd (K 17) k on = a17 at u1 ⊢
    generalize upd (K 18) k mo = a18 at u2 ⊢
    unfold cR
    simp (config := { decide := true }) only [upd_if, vup_if, ↓reduceIte]
    exact ⟨h.1, h.2.1, ⟨u1, u2, u3⟩, h.2.2.2.1, ⟨fun h9 => absurd rfl h9, h27⟩, ⟨h.2.2.2.2.2.1.1, h.2.2.2.2.2.1.2.1, fun h9 => absurd rfl h9⟩, h.2.2.2.2.2.2⟩
set_option maxHeartbeats 4000000 in
theorem R_number {F E : Nat → Int32} {G K : Nat → Nat → Int32} {nC nT nR nD sz pl : Nat} (h : cR F G E K nC nT nR nD sz pl) (d : Int32) (nu : Int32) : (mr_M_number (E 26) (K 6) (K 7) (K 8) (K 9) (K 10) (K 11) (K 12) (K 13) (K 14) (K 15) (K 16) (K 17) (K 18) (K 19) (K 27) (K 28) nC nT nR nD d nu).2.1 = (if mrx_X_number nD d nu = 0 then 0 else 1 : Int32) ∧ (mrx_X_number nD d nu = 0 → (mr_X_number (G 10) nD d nu) = (mr_M_number (E 26) (K 6) (K 7) (K 8) (K 9) (K 10) (K 11) (K 12) (K 13) (K 14) (K 15) (K 16) (K 17) (K 18) (K 19) (K 27) (K 28) nC nT nR nD d nu).1) ∧ cX F G (upd (upd E 0 ((mr_M_number (E 26) (K 6) (K 7) (K 8) (K 9) (K 10) (K 11) (K 12) (K 13) (K 14) (K 15) (K 16) (K 17) (K 18) (K 19) (K 27) (K 28) nC nT nR nD d nu).2.1)) 26 ((mr_M_number (E 26) (K 6) (K 7) (K 8) (K 9) (K 10) (K 11) (K 12) (K 13) (K 14) (K 15) (K 16) (K 17) (K 18) (K 19) (K 27) (K 28) nC nT nR nD d nu).2.2.1)) (va_up (va_up (va_up K 19 ((mr_M_number (E 26) (K 6) (K 7) (K 8) (K 9) (K 10) (K 11) (K 12) (K 13) (K 14) (K 15) (K 16) (K 17) (K 18) (K 19) (K 27) (K 28) nC nT nR nD d nu).2.2.2.1)) 27 ((mr_M_number (E 26) (K 6) (K 7) (K 8) (K 9) (K 10) (K 11) (K 12) (K 13) (K 14) (K 15) (K 16) (K 17) (K 18) (K 19) (K 27) (K 28) nC nT nR nD d nu).2.2.2.2.1)) 28 ((mr_M_number (E 26) (K 6) (K 7) (K 8) (K 9) (K 10) (K 11) (K 12) (K 13) (K 14) (K 15) (K 16) (K 17) (K 18) (K 19) (K 27) (K 28) nC nT nR nD d nu).2.2.2.2.2)) := by
  obtain ⟨h2, hC, h3, hT, h4, hR, h5, hN, h6, h8, h10, h13, h15, h17, h27, h24, hpl, hmp6⟩ := cR_ref h
  by_cases c1 : mr_M_isDesign nD d = 0
  · have eX : mrx_X_number nD d nu = 1 := by unfold mrx_X_number; rw [des_eq hN, if_pos c1]
    have eS : mr_M_number (E 26) (K 6) (K 7) (K 8) (K 9) (K 10) (K 11) (K 12) (K 13) (K 14) (K 15) (K 16) (K 17) (K 18) (K 19) (K 27) (K 28) nC nT nR nD d nu = (0, 1, E 26, K 19, K 27, K 28) := by unfold mr_M_number; rw [if_pos c1]; rfl
    rw [eX, eS]
    exact ⟨rfl, fun h9 => absurd h9 (by decide), _, _, _, _, _, _, cR_same h⟩
  · obtain ⟨j, hj, ed⟩ := des_ok hN c1
    have cd : d.toNatClampNeg = j := by rw [ed]; exact nI_clamp (by omega)
    by_cases c2 : mr_M_within nu 0 3 = 0
    · have eX : mrx_X_number nD d nu = 1 := by unfold mrx_X_number; rw [des_eq hN, if_neg c1, num_eq, if_pos c2]
      have eS : mr_M_number (E 26) (K 6) (K 7) (K 8) (K 9) (K 10) (K 11) (K 12) (K 13) (K 14) (K 15) (K 16) (K 17) (K 18) (K 19) (K 27) (K 28) nC nT nR nD d nu = (0, 1, E 26, K 19, K 27, K 28) := by unfold mr_M_number; rw [if_neg c1, if_pos c2]; rfl
      rw [eX, eS]
      exact ⟨rfl, fun h9 => absurd h9 (by decide), _, _, _, _, _, _, cR_same h⟩
    · obtain ⟨k, hk, en⟩ := num_ok c2
      have ck : nu.toNatClampNeg = k := by rw [en]; exact nI_clamp (by omega)
      have eX : mrx_X_number nD d nu = 0 := by unfold mrx_X_number; rw [des_eq hN, if_neg c1, num_eq, if_neg c2]
      have eS : mr_M_number (E 26) (K 6) (K 7) (K 8) (K 9) (K 10) (K 11) (K 12) (K 13) (K 14) (K 15) (K 16) (K 17) (K 18) (K 19) (K 27) (K 28) nC nT nR nD d nu = ((mr_M_know (E 26) (K 6) (K 7) (K 8) (K 9) (K 10) (K 11) (K 12) (K 13) (K 14) (K 15) (K 16) (K 17) (K 18) (K 19) (K 27) (K 28) nC nT nR nD).2.2.2 (4 * j + k), 0, (mr_M_know (E 26) (K 6) (K 7) (K 8) (K 9) (K 10) (K 11) (K 12) (K 13) (K 14) (K 15) (K 16) (K 17) (K 18) (K 19) (K 27) (K 28) nC nT nR nD).1, (mr_M_know (E 26) (K 6) (K 7) (K 8) (K 9) (K 10) (K 11) (K 12) (K 13) (K 14) (K 15) (K 16) (K 17) (K 18) (K 19) (K 27) (K 28) nC nT nR nD).2.1, (mr_M_know (E 26) (K 6) (K 7) (K 8) (K 9) (K 10) (K 11) (K 12) (K 13) (K 14) (K 15) (K 16) (K 17) (K 18) (K 19) (K 27) (K 28) nC nT nR nD).2.2.1, (mr_M_know (E 26) (K 6) (K 7) (K 8) (K 9) (K 10) (K 11) (K 12) (K 13) (K 14) (K 15) (K 16) (K 17) (K 18) (K 19) (K 27) (K 28) nC nT nR nD).2.2.2) := by unfold mr_M_number; rw [if_neg c1, if_neg c2, cd, ck]
      have eT : mr_X_number (G 10) nD d nu = G 10 (j * 4 + k) := by unfold mr_X_number mr_Bo_sumOf; rw [des_eq hN, if_neg c1, num_eq, if_neg c2, cd, ck]
      rw [eX, eS, eT]
      exact ⟨rfl, fun _ => (cR_num h hj hk).trans (((cR_kn h).2.1 j hj).2 k hk).symm, _, _, _, _, _, _, cR_know h⟩
theorem zg_06 {c0 k6 : Nat → Int32} {nC : Nat} (h06 : ∀ c, c < nC → k6 c = c0 c) : ∀ c, c < nC → zg k6 c = zg c0 c := fun c hc => by unfold zg; rw [h06 c hc]
set_option maxHeartbeats 4000000 in
theorem R_value {F E : Nat → Int32} {G K : Nat → Nat → Int32} {nC nT nR nD sz pl : Nat} (h : cR F G E K nC nT nR nD sz pl) (d : Int32) (ch : Int32) : (mr_M_value (K 6) (K 19) nC nD d ch).2.1 = (if mrx_X_value nC nD d ch = 0 then 0 else 1 : Int32) ∧ (mrx_X_value nC nD d ch = 0 → (mr_X_value (G 0) (G 1) nC nD d ch) = (mr_M_value (K 6) (K 19) nC nD d ch).1) ∧ cX F G (upd E 0 ((mr_M_value (K 6) (K 19) nC nD d ch).2.1)) (va_up K 19 ((mr_M_value (K 6) (K 19) nC nD d ch).2.2)) := by
  obtain ⟨h2, hC, h3, hT, h4, hR, h5, hN, h6, h8, h10, h13, h15, h17, h27, h24, hpl, hmp6⟩ := cR_ref h
  obtain ⟨k0, k1, k2, k3, k4, hsz, k13, s0, s1, hmp, mA, mB, mQ, mQT, z8, z11, hD1⟩ := cR_cls h
  have h06 := h.1.2.2.2.2.2.2.1
  by_cases c1 : mr_M_isDesign nD d = 0
  · have eX : mrx_X_value nC nD d ch = 1 := by unfold mrx_X_value; rw [des_eq hN, if_pos c1]
    have eS : mr_M_value (K 6) (K 19) nC nD d ch = (0, 1, K 19) := by unfold mr_M_value; rw [if_pos c1]; rfl
    rw [eX, eS]
    exact ⟨rfl, fun h9 => absurd h9 (by decide), _, _, _, _, _, _, cR_row h⟩
  · obtain ⟨j, hj, ed⟩ := des_ok hN c1
    have cd : d.toNatClampNeg = j := by rw [ed]; exact nI_clamp (by omega)
    by_cases c2 : mr_M_within ch 0 (nI nC - 1) = 0
    · have eX : mrx_X_value nC nD d ch = 1 := by unfold mrx_X_value; rw [des_eq hN, if_neg c1, cho_eq hC, if_pos c2]
      have eS : mr_M_value (K 6) (K 19) nC nD d ch = (0, 1, K 19) := by unfold mr_M_value; rw [if_neg c1, if_pos c2]; rfl
      rw [eX, eS]
      exact ⟨rfl, fun h9 => absurd h9 (by decide), _, _, _, _, _, _, cR_row h⟩
    · obtain ⟨k, hk, en⟩ := wn_ok (by omega) c2
      have ck : ch.toNatClampNeg = k := by rw [en]; exact nI_clamp (by omega)
      have eX : mrx_X_value nC nD d ch = 0 := by unfold mrx_X_value; rw [des_eq hN, if_neg c1, cho_eq hC, if_neg c2]
      have eS : mr_M_value (K 6) (K 19) nC nD d ch = (mr_M_open (K 6) (K 19) nC j nC k, 0, mr_M_open (K 6) (K 19) nC j nC) := by unfold mr_M_value; rw [if_neg c1, if_neg c2, cd, ck]
      have eT : mr_X_value (G 0) (G 1) nC nD d ch = mr_Sh_digit (G 0) (G 1) (nI j) k := by unfold mr_X_value; rw [des_eq hN, if_neg c1, cho_eq hC, if_neg c2, ck, ed]
      rw [eX, eS, eT]
      refine ⟨rfl, fun _ => ?_, _, _, _, _, _, _, cR_row h⟩
      show _ = mr_M_open (K 6) (K 19) nC j nC k
      rw [dig_sem s0 s1 hmp hN hk (by omega), open_row hC h6 (by omega) hC k, if_pos hk, if_pos hk, dg_zext (zg_06 h06) hk]
set_option maxHeartbeats 4000000 in
theorem R_legal {F E : Nat → Int32} {G K : Nat → Nat → Int32} {nC nT nR nD sz pl : Nat} (h : cR F G E K nC nT nR nD sz pl) (d : Int32) : (mr_M_legal (E 26) (K 6) (K 7) (K 8) (K 9) (K 10) (K 11) (K 12) (K 13) (K 14) (K 15) (K 16) (K 17) (K 18) (K 19) (K 27) (K 28) nC nT nR nD d).2.1 = (if mrx_X_legal nD d = 0 then 0 else 1 : Int32) ∧ (mrx_X_legal nD d = 0 → (mr_X_legal (G 8) (G 9) (G 10) (G 11) nD d) = (mr_M_legal (E 26) (K 6) (K 7) (K 8) (K 9) (K 10) (K 11) (K 12) (K 13) (K 14) (K 15) (K 16) (K 17) (K 18) (K 19) (K 27) (K 28) nC nT nR nD d).1) ∧ cX F G (upd (upd E 0 ((mr_M_legal (E 26) (K 6) (K 7) (K 8) (K 9) (K 10) (K 11) (K 12) (K 13) (K 14) (K 15) (K 16) (K 17) (K 18) (K 19) (K 27) (K 28) nC nT nR nD d).2.1)) 26 ((mr_M_legal (E 26) (K 6) (K 7) (K 8) (K 9) (K 10) (K 11) (K 12) (K 13) (K 14) (K 15) (K 16) (K 17) (K 18) (K 19) (K 27) (K 28) nC nT nR nD d).2.2.1)) (va_up (va_up (va_up K 19 ((mr_M_legal (E 26) (K 6) (K 7) (K 8) (K 9) (K 10) (K 11) (K 12) (K 13) (K 14) (K 15) (K 16) (K 17) (K 18) (K 19) (K 27) (K 28) nC nT nR nD d).2.2.2.1)) 27 ((mr_M_legal (E 26) (K 6) (K 7) (K 8) (K 9) (K 10) (K 11) (K 12) (K 13) (K 14) (K 15) (K 16) (K 17) (K 18) (K 19) (K 27) (K 28) nC nT nR nD d).2.2.2.2.1)) 28 ((mr_M_legal (E 26) (K 6) (K 7) (K 8) (K 9) (K 10) (K 11) (K 12) (K 13) (K 14) (K 15) (K 16) (K 17) (K 18) (K 19) (K 27) (K 28) nC nT nR nD d).2.2.2.2.2)) := by
  obtain ⟨h2, hC, h3, hT, h4, hR, h5, hN, h6, h8, h10, h13, h15, h17, h27, h24, hpl, hmp6⟩ := cR_ref h
  by_cases c1 : mr_M_isDesign nD d = 0
  · have eX : mrx_X_legal nD d = 1 := by unfold mrx_X_legal; rw [des_eq hN, if_pos c1]
    have eS : mr_M_legal (E 26) (K 6) (K 7) (K 8) (K 9) (K 10) (K 11) (K 12) (K 13) (K 14) (K 15) (K 16) (K 17) (K 18) (K 19) (K 27) (K 28) nC nT nR nD d = (0, 1, E 26, K 19, K 27, K 28) := by unfold mr_M_legal; rw [if_pos c1, if_neg (by decide)]
    rw [eX, eS]
    exact ⟨rfl, fun h9 => absurd h9 (by decide), _, _, _, _, _, _, cR_same h⟩
  · obtain ⟨j, hj, ed⟩ := des_ok hN c1
    have cd : d.toNatClampNeg = j := by rw [ed]; exact nI_clamp (by omega)
    have eX : mrx_X_legal nD d = 0 := by unfold mrx_X_legal; rw [des_eq hN, if_neg c1]
    have eS : mr_M_legal (E 26) (K 6) (K 7) (K 8) (K 9) (K 10) (K 11) (K 12) (K 13) (K 14) (K 15) (K 16) (K 17) (K 18) (K 19) (K 27) (K 28) nC nT nR nD d = ((mr_M_know (E 26) (K 6) (K 7) (K 8) (K 9) (K 10) (K 11) (K 12) (K 13) (K 14) (K 15) (K 16) (K 17) (K 18) (K 19) (K 27) (K 28) nC nT nR nD).2.2.1 j, 0, (mr_M_know (E 26) (K 6) (K 7) (K 8) (K 9) (K 10) (K 11) (K 12) (K 13) (K 14) (K 15) (K 16) (K 17) (K 18) (K 19) (K 27) (K 28) nC nT nR nD).1, (mr_M_know (E 26) (K 6) (K 7) (K 8) (K 9) (K 10) (K 11) (K 12) (K 13) (K 14) (K 15) (K 16) (K 17) (K 18) (K 19) (K 27) (K 28) nC nT nR nD).2.1, (mr_M_know (E 26) (K 6) (K 7) (K 8) (K 9) (K 10) (K 11) (K 12) (K 13) (K 14) (K 15) (K 16) (K 17) (K 18) (K 19) (K 27) (K 28) nC nT nR nD).2.2.1, (mr_M_know (E 26) (K 6) (K 7) (K 8) (K 9) (K 10) (K 11) (K 12) (K 13) (K 14) (K 15) (K 16) (K 17) (K 18) (K 19) (K 27) (K 28) nC nT nR nD).2.2.2) := by unfold mr_M_legal; rw [if_neg c1, if_pos (by decide), cd]
    have eT : mr_X_legal (G 8) (G 9) (G 10) (G 11) nD d = mr_Bo_allows (G 8) (G 9) (G 10) (G 11) j := by unfold mr_X_legal; rw [des_eq hN, if_neg c1, cd]
    rw [eX, eS, eT]
    exact ⟨rfl, fun _ => (cR_leg h hj).trans ((cR_kn h).2.1 j hj).1.symm, _, _, _, _, _, _, cR_know h⟩
theorem cR_le {F E : Nat → Int32} {G K : Nat → Nat → Int32} {nC nT nR nD sz pl : Nat} (h : cR F G E K nC nT nR nD sz pl) {i j : Nat} (hi : i < nD) (hj : j < nD) : cLe (G 10) i j ↔ sLe (mr_M_know (E 26) (K 6) (K 7) (K 8) (K 9) (K 10) (K 11) (K 12) (K 13) (K 14) (K 15) (K 16) (K 17) (K 18) (K 19) (K 27) (K 28) nC nT nR nD).2.2.2 i j := by
  have hk := (cR_kn h).2.1
  unfold cLe sLe
  refine ⟨fun q k hk4 => ?_, fun q k hk4 => ?_⟩
  · rw [(hk i hi).2 k hk4, (hk j hj).2 k hk4, ← cR_num h hi hk4, ← cR_num h hj hk4]; exact q k hk4
  · rw [cR_num h hi hk4, cR_num h hj hk4, ← (hk i hi).2 k hk4, ← (hk j hj).2 k hk4]; exact q k hk4
set_option maxHeartbeats 4000000 in
theorem R_beats {F E : Nat → Int32} {G K : Nat → Nat → Int32} {nC nT nR nD sz pl : Nat} (h : cR F G E K nC nT nR nD sz pl) (d : Int32) (o : Int32) : (mr_M_beats (E 26) (K 6) (K 7) (K 8) (K 9) (K 10) (K 11) (K 12) (K 13) (K 14) (K 15) (K 16) (K 17) (K 18) (K 19) (K 27) (K 28) nC nT nR nD d o).2.1 = (if mrx_X_beats (G 8) (G 9) (G 10) (G 11) nD d o = 0 then 0 else if mrx_X_beats (G 8) (G 9) (G 10) (G 11) nD d o = 1 then 1 else 2 : Int32) ∧ (mrx_X_beats (G 8) (G 9) (G 10) (G 11) nD d o = 0 → (mr_X_beats (G 8) (G 9) (G 10) (G 11) nD d o) = (mr_M_beats (E 26) (K 6) (K 7) (K 8) (K 9) (K 10) (K 11) (K 12) (K 13) (K 14) (K 15) (K 16) (K 17) (K 18) (K 19) (K 27) (K 28) nC nT nR nD d o).1) ∧ cX F G (upd (upd E 0 ((mr_M_beats (E 26) (K 6) (K 7) (K 8) (K 9) (K 10) (K 11) (K 12) (K 13) (K 14) (K 15) (K 16) (K 17) (K 18) (K 19) (K 27) (K 28) nC nT nR nD d o).2.1)) 26 ((mr_M_beats (E 26) (K 6) (K 7) (K 8) (K 9) (K 10) (K 11) (K 12) (K 13) (K 14) (K 15) (K 16) (K 17) (K 18) (K 19) (K 27) (K 28) nC nT nR nD d o).2.2.1)) (va_up (va_up (va_up K 19 ((mr_M_beats (E 26) (K 6) (K 7) (K 8) (K 9) (K 10) (K 11) (K 12) (K 13) (K 14) (K 15) (K 16) (K 17) (K 18) (K 19) (K 27) (K 28) nC nT nR nD d o).2.2.2.1)) 27 ((mr_M_beats (E 26) (K 6) (K 7) (K 8) (K 9) (K 10) (K 11) (K 12) (K 13) (K 14) (K 15) (K 16) (K 17) (K 18) (K 19) (K 27) (K 28) nC nT nR nD d o).2.2.2.2.1)) 28 ((mr_M_beats (E 26) (K 6) (K 7) (K 8) (K 9) (K 10) (K 11) (K 12) (K 13) (K 14) (K 15) (K 16) (K 17) (K 18) (K 19) (K 27) (K 28) nC nT nR nD d o).2.2.2.2.2)) := by
  obtain ⟨h2, hC, h3, hT, h4, hR, h5, hN, h6, h8, h10, h13, h15, h17, h27, h24, hpl, hmp6⟩ := cR_ref h
  by_cases c1 : mr_M_isDesign nD d = 0
  · have eX : mrx_X_beats (G 8) (G 9) (G 10) (G 11) nD d o = 1 := by unfold mrx_X_beats; rw [des_eq hN, if_pos c1]
    have eS : mr_M_beats (E 26) (K 6) (K 7) (K 8) (K 9) (K 10) (K 11) (K 12) (K 13) (K 14) (K 15) (K 16) (K 17) (K 18) (K 19) (K 27) (K 28) nC nT nR nD d o = (0, 1, E 26, K 19, K 27, K 28) := by unfold mr_M_beats; rw [if_pos c1, if_neg (by decide)]
    rw [eX, eS]
    exact ⟨rfl, fun h9 => absurd h9 (by decide), _, _, _, _, _, _, cR_same h⟩
  obtain ⟨i, hi, ed⟩ := des_ok hN c1
  have cd : d.toNatClampNeg = i := by rw [ed]; exact nI_clamp (by omega)
  by_cases c2 : mr_M_isDesign nD o = 0
  · have eX : mrx_X_beats (G 8) (G 9) (G 10) (G 11) nD d o = 1 := by unfold mrx_X_beats; rw [des_eq hN, if_neg c1, des_eq hN, if_pos c2]
    have eS : mr_M_beats (E 26) (K 6) (K 7) (K 8) (K 9) (K 10) (K 11) (K 12) (K 13) (K 14) (K 15) (K 16) (K 17) (K 18) (K 19) (K 27) (K 28) nC nT nR nD d o = (0, 1, E 26, K 19, K 27, K 28) := by unfold mr_M_beats; rw [if_neg c1, if_pos c2, if_neg (by decide)]
    rw [eX, eS]
    exact ⟨rfl, fun h9 => absurd h9 (by decide), _, _, _, _, _, _, cR_same h⟩
  obtain ⟨j, hj, eo⟩ := des_ok hN c2
  have co : o.toNatClampNeg = j := by rw [eo]; exact nI_clamp (by omega)
  have li := cR_leg h hi
  have lj := cR_leg h hj
  have ni := ((cR_kn h).2.1 i hi).1
  have nj := ((cR_kn h).2.1 j hj).1
  rw [← li] at ni
  rw [← lj] at nj
  by_cases c3 : mr_Bo_allows (G 8) (G 9) (G 10) (G 11) i = 0
  · have eX : mrx_X_beats (G 8) (G 9) (G 10) (G 11) nD d o = 2 := by unfold mrx_X_beats; rw [des_eq hN, if_neg c1, des_eq hN, if_neg c2, cd, if_pos c3]
    have eS : mr_M_beats (E 26) (K 6) (K 7) (K 8) (K 9) (K 10) (K 11) (K 12) (K 13) (K 14) (K 15) (K 16) (K 17) (K 18) (K 19) (K 27) (K 28) nC nT nR nD d o = (0, 2, (mr_M_know (E 26) (K 6) (K 7) (K 8) (K 9) (K 10) (K 11) (K 12) (K 13) (K 14) (K 15) (K 16) (K 17) (K 18) (K 19) (K 27) (K 28) nC nT nR nD).1, (mr_M_know (E 26) (K 6) (K 7) (K 8) (K 9) (K 10) (K 11) (K 12) (K 13) (K 14) (K 15) (K 16) (K 17) (K 18) (K 19) (K 27) (K 28) nC nT nR nD).2.1, (mr_M_know (E 26) (K 6) (K 7) (K 8) (K 9) (K 10) (K 11) (K 12) (K 13) (K 14) (K 15) (K 16) (K 17) (K 18) (K 19) (K 27) (K 28) nC nT nR nD).2.2.1, (mr_M_know (E 26) (K 6) (K 7) (K 8) (K 9) (K 10) (K 11) (K 12) (K 13) (K 14) (K 15) (K 16) (K 17) (K 18) (K 19) (K 27) (K 28) nC nT nR nD).2.2.2) := by unfold mr_M_beats; rw [if_neg c1, if_neg c2, if_pos (by decide), cd, ni, if_pos c3, if_neg (by decide)]
    rw [eX, eS]
    exact ⟨rfl, fun h9 => absurd h9 (by decide), _, _, _, _, _, _, cR_know h⟩
  by_cases c4 : mr_Bo_allows (G 8) (G 9) (G 10) (G 11) j = 0
  · have eX : mrx_X_beats (G 8) (G 9) (G 10) (G 11) nD d o = 2 := by unfold mrx_X_beats; rw [des_eq hN, if_neg c1, des_eq hN, if_neg c2, cd, if_neg c3, co, if_pos c4]
    have eS : mr_M_beats (E 26) (K 6) (K 7) (K 8) (K 9) (K 10) (K 11) (K 12) (K 13) (K 14) (K 15) (K 16) (K 17) (K 18) (K 19) (K 27) (K 28) nC nT nR nD d o = (0, 2, (mr_M_know (E 26) (K 6) (K 7) (K 8) (K 9) (K 10) (K 11) (K 12) (K 13) (K 14) (K 15) (K 16) (K 17) (K 18) (K 19) (K 27) (K 28) nC nT nR nD).1, (mr_M_know (E 26) (K 6) (K 7) (K 8) (K 9) (K 10) (K 11) (K 12) (K 13) (K 14) (K 15) (K 16) (K 17) (K 18) (K 19) (K 27) (K 28) nC nT nR nD).2.1, (mr_M_know (E 26) (K 6) (K 7) (K 8) (K 9) (K 10) (K 11) (K 12) (K 13) (K 14) (K 15) (K 16) (K 17) (K 18) (K 19) (K 27) (K 28) nC nT nR nD).2.2.1, (mr_M_know (E 26) (K 6) (K 7) (K 8) (K 9) (K 10) (K 11) (K 12) (K 13) (K 14) (K 15) (K 16) (K 17) (K 18) (K 19) (K 27) (K 28) nC nT nR nD).2.2.2) := by unfold mr_M_beats; rw [if_neg c1, if_neg c2, if_pos (by decide), cd, ni, if_neg c3, co, nj, if_pos c4, if_neg (by decide)]
    rw [eX, eS]
    exact ⟨rfl, fun h9 => absurd h9 (by decide), _, _, _, _, _, _, cR_know h⟩
  have eX : mrx_X_beats (G 8) (G 9) (G 10) (G 11) nD d o = 0 := by unfold mrx_X_beats; rw [des_eq hN, if_neg c1, des_eq hN, if_neg c2, cd, if_neg c3, co, if_neg c4]
  have eS : mr_M_beats (E 26) (K 6) (K 7) (K 8) (K 9) (K 10) (K 11) (K 12) (K 13) (K 14) (K 15) (K 16) (K 17) (K 18) (K 19) (K 27) (K 28) nC nT nR nD d o = ((if mr_M_isBeaten (mr_M_know (E 26) (K 6) (K 7) (K 8) (K 9) (K 10) (K 11) (K 12) (K 13) (K 14) (K 15) (K 16) (K 17) (K 18) (K 19) (K 27) (K 28) nC nT nR nD).2.2.2 j i = 0 then 0 else 1 : Int32), 0, (mr_M_know (E 26) (K 6) (K 7) (K 8) (K 9) (K 10) (K 11) (K 12) (K 13) (K 14) (K 15) (K 16) (K 17) (K 18) (K 19) (K 27) (K 28) nC nT nR nD).1, (mr_M_know (E 26) (K 6) (K 7) (K 8) (K 9) (K 10) (K 11) (K 12) (K 13) (K 14) (K 15) (K 16) (K 17) (K 18) (K 19) (K 27) (K 28) nC nT nR nD).2.1, (mr_M_know (E 26) (K 6) (K 7) (K 8) (K 9) (K 10) (K 11) (K 12) (K 13) (K 14) (K 15) (K 16) (K 17) (K 18) (K 19) (K 27) (K 28) nC nT nR nD).2.2.1, (mr_M_know (E 26) (K 6) (K 7) (K 8) (K 9) (K 10) (K 11) (K 12) (K 13) (K 14) (K 15) (K 16) (K 17) (K 18) (K 19) (K 27) (K 28) nC nT nR nD).2.2.2) := by unfold mr_M_beats; rw [if_neg c1, if_neg c2, if_pos (by decide), cd, ni, if_neg c3, co, nj, if_neg c4, if_pos rfl]
  have eT : mr_X_beats (G 8) (G 9) (G 10) (G 11) nD d o = (if mr_Bo_isAtMost (G 10) i j = 0 then 0 else (if mr_Bo_isAtMost (G 10) j i = 0 then 1 else 0) : Int32) := by unfold mr_X_beats; rw [des_eq hN, if_neg c1, des_eq hN, if_neg c2, cd, if_neg c3, co, if_neg c4]
  rw [eX, eS, eT]
  refine ⟨rfl, fun _ => ?_, _, _, _, _, _, _, cR_know h⟩
  dsimp only
  have b1 := beaten_sem (mr_M_know (E 26) (K 6) (K 7) (K 8) (K 9) (K 10) (K 11) (K 12) (K 13) (K 14) (K 15) (K 16) (K 17) (K 18) (K 19) (K 27) (K 28) nC nT nR nD).2.2.2 j i
  have l1 := cR_le h hi hj
  have l2 := cR_le h hj hi
  by_cases a1 : mr_Bo_isAtMost (G 10) i j = 0
  · rw [if_pos a1, if_pos (b1.mpr (fun q => am_no.mp a1 (l1.mpr q.1)))]
  · rw [if_neg a1]
    by_cases a2 : mr_Bo_isAtMost (G 10) j i = 0
    · rw [if_pos a2, if_neg (fun h9 => b1.mp h9 ⟨l1.mp (am_sem.mp a1), fun q => am_no.mp a2 (l2.mpr q)⟩)]
    · rw [if_neg a2, if_pos (b1.mpr (fun q => q.2 (l2.mp (am_sem.mp a2))))]
set_option maxHeartbeats 4000000 in
theorem R_near {F E : Nat → Int32} {G K : Nat → Nat → Int32} {nC nT nR nD sz pl : Nat} (h : cR F G E K nC nT nR nD sz pl) (d : Int32) (k : Int32) : (mr_M_near (K 6) (K 19) nC nD d k).2.1 = (if mrx_X_near (G 0) nC nD d k = 0 then 0 else 1 : Int32) ∧ (mrx_X_near (G 0) nC nD d k = 0 → (mr_X_near (G 0) (G 1) nC nD d k) = (mr_M_near (K 6) (K 19) nC nD d k).1) ∧ cX F G (upd E 0 ((mr_M_near (K 6) (K 19) nC nD d k).2.1)) (va_up K 19 ((mr_M_near (K 6) (K 19) nC nD d k).2.2)) := by
  obtain ⟨h2, hC, h3, hT, h4, hR, h5, hN, h6, h8, h10, h13, h15, h17, h27, h24, hpl, hmp6⟩ := cR_ref h
  obtain ⟨k0, k1, k2, k3, k4, hsz, k13, s0, s1, hmp, mA, mB, mQ, mQT, z8, z11, hD1⟩ := cR_cls h
  have h06 := h.1.2.2.2.2.2.2.1
  have hns := ns_small s0 nC (Nat.le_refl _)
  have e6 : mr_M_nears (K 6) nC = nI (ns (zg (G 0)) nC) := by rw [nears_num h6, ns_zext (zg_06 h06)]
  have e0 : mr_Sh_neighbours (G 0) nC = nI (ns (zg (G 0)) nC) := nb_num s0
  by_cases c1 : mr_M_isDesign nD d = 0
  · have eX : mrx_X_near (G 0) nC nD d k = 1 := by unfold mrx_X_near; rw [des_eq hN, if_pos c1]
    have eS : mr_M_near (K 6) (K 19) nC nD d k = (0, 1, K 19) := by unfold mr_M_near; rw [if_pos c1]; rfl
    rw [eX, eS]
    exact ⟨rfl, fun h9 => absurd h9 (by decide), _, _, _, _, _, _, cR_row h⟩
  obtain ⟨j, hj, ed⟩ := des_ok hN c1
  have cd : d.toNatClampNeg = j := by rw [ed]; exact nI_clamp (by omega)
  have wq := wn_eq (n := ns (zg (G 0)) nC) (by omega) k
  have fail : ∀ _ : mr_M_within k 0 (nI (ns (zg (G 0)) nC) - 1) = 0, mrx_X_near (G 0) nC nD d k = 1 → (mr_M_near (K 6) (K 19) nC nD d k).2.1 = (if mrx_X_near (G 0) nC nD d k = 0 then 0 else 1 : Int32) ∧ (mrx_X_near (G 0) nC nD d k = 0 → (mr_X_near (G 0) (G 1) nC nD d k) = (mr_M_near (K 6) (K 19) nC nD d k).1) ∧ cX F G (upd E 0 ((mr_M_near (K 6) (K 19) nC nD d k).2.1)) (va_up K 19 ((mr_M_near (K 6) (K 19) nC nD d k).2.2)) := fun c2 eX => by
    have eS : mr_M_near (K 6) (K 19) nC nD d k = (0, 1, K 19) := by unfold mr_M_near; rw [if_neg c1, e6, if_pos c2]; rfl
    rw [eX, eS]
    exact ⟨rfl, fun h9 => absurd h9 (by decide), _, _, _, _, _, _, cR_row h⟩
  by_cases c2 : k < 0
  · exact fail (by rw [wq, if_pos c2]) (by unfold mrx_X_near; rw [des_eq hN, if_neg c1, if_pos c2])
  by_cases c3 : nI (ns (zg (G 0)) nC) ≤ k
  · exact fail (by rw [wq, if_neg c2, if_pos c3]) (by unfold mrx_X_near; rw [des_eq hN, if_neg c1, if_neg c2, e0, if_neg (Int32.not_lt.mpr c3)])
  have c4 : ¬ mr_M_within k 0 (nI (ns (zg (G 0)) nC) - 1) = 0 := by rw [wq, if_neg c2, if_neg c3]; decide
  obtain ⟨q, hq, ek⟩ := wn_ok (by omega) c4
  have eX : mrx_X_near (G 0) nC nD d k = 0 := by unfold mrx_X_near; rw [des_eq hN, if_neg c1, if_neg c2, e0, if_pos (Int32.not_le.mp c3)]
  have eS : mr_M_near (K 6) (K 19) nC nD d k = ((mr_M_nearOf (K 6) (K 19) nC j (nI q)).1, 0, (mr_M_nearOf (K 6) (K 19) nC j (nI q)).2) := by unfold mr_M_near; rw [if_neg c1, e6, if_neg c4, cd, ek]
  have eT : mr_X_near (G 0) (G 1) nC nD d k = mr_Sh_neighbour (G 0) (G 1) nC (nI j) (nI q) := by unfold mr_X_near; rw [des_eq hN, if_neg c1, if_neg c2, e0, if_pos (Int32.not_le.mp c3), ed, ek]
  rw [eX, eS, eT]
  exact ⟨rfl, fun _ => (near_eq hC hN s0 s1 h06 h6 hmp hj hq).1, _, _, _, _, _, _, cR_row h⟩
theorem bf_row {c0 c1 : Nat → Int32} {nu st : Nat} {d : Int32} {i0 : Nat → Int32} : ∀ n c, c < n → lf_Se_boundFor_3 c0 c1 nu st d i0 n c = mr_Sh_digit c0 c1 d c := by
  intro n
  induction n with
  | zero => intro c h; exact absurd h (Nat.not_lt_zero _)
  | succ n ih =>
    intro c hc
    rw [lf_Se_boundFor_3]
    by_cases e : c = n
    · rw [e, pk_us]
    · rw [pk_un e]; exact ih c (by omega)
/-- the class's row and the reference's, of one design -/
theorem bf_R {c0 c1 k6 k19 i0 : Nat → Int32} {nC nD nu st j : Nat} (hC : nC ≤ 8) (hN : nD ≤ 4096) (s0 : ∀ c, c < nC → ∃ z : Nat, c0 c = nI z ∧ 2 ≤ z ∧ z ≤ 6) (s1 : ∀ c, c < nC → c1 c = nI (pc_ (zg c0) nC c)) (hmp : mp (zg c0) 0 nC = nD) (h6 : ∀ c, c < nC → ∃ z : Nat, k6 c = nI z ∧ 2 ≤ z ∧ z ≤ 6) (h06 : ∀ c, c < nC → k6 c = c0 c) (hj : j < nD) (hs : st ≤ nC) : rowR c0 (lf_Se_boundFor_3 c0 c1 nu st (nI j) i0 st) (mr_M_open k6 k19 nC j st) nC st := by
  have key : ∀ c, c < st → lf_Se_boundFor_3 c0 c1 nu st (nI j) i0 st c = nI (dg (zg c0) nC j c) := fun c hc => by
    rw [bf_row st c hc, dig_sem s0 s1 hmp hN (by omega) (by omega)]
  refine ⟨fun c hc => ⟨_, key c hc, dg_lt (by have := (zg_ok s0 (c := c) (by omega)).2.1; omega)⟩, fun c hc => ?_, fun c hc hcn => ?_⟩
  · rw [key c hc, open_row hC h6 (by omega) (by omega) c, if_pos (by omega), if_pos hc, dg_zext (zg_06 h06) (by omega)]
  · rw [open_row hC h6 (by omega) (by omega) c, if_pos hcn, if_neg (by omega)]
set_option maxHeartbeats 4000000 in
theorem R_bound {F E : Nat → Int32} {G K : Nat → Nat → Int32} {nC nT nR nD sz pl : Nat} (h : cR F G E K nC nT nR nD sz pl) (nu : Int32) (d : Int32) (sx : Int32) : (mr_M_bound (K 6) (K 7) (K 8) (K 9) (K 10) (K 11) (K 12) (K 19) nC nT nR nD nu d sx).2.1 = (if mrx_X_bound nC nD nu d sx = 0 then 0 else 1 : Int32) ∧ (mrx_X_bound nC nD nu d sx = 0 → (mr_X_bound (G 0) (G 1) (G 2) (G 3) (G 4) (G 5) (G 6) (G 7) (G 14) nC nD nu d sx).1 = (mr_M_bound (K 6) (K 7) (K 8) (K 9) (K 10) (K 11) (K 12) (K 19) nC nT nR nD nu d sx).1) ∧ cX F (va_up G 14 ((mr_X_bound (G 0) (G 1) (G 2) (G 3) (G 4) (G 5) (G 6) (G 7) (G 14) nC nD nu d sx).2)) (upd E 0 ((mr_M_bound (K 6) (K 7) (K 8) (K 9) (K 10) (K 11) (K 12) (K 19) nC nT nR nD nu d sx).2.1)) (va_up K 19 ((mr_M_bound (K 6) (K 7) (K 8) (K 9) (K 10) (K 11) (K 12) (K 19) nC nT nR nD nu d sx).2.2)) := by
  obtain ⟨h2, hC, h3, hT, h4, hR, h5, hN, h6, h8, h10, h13, h15, h17, h27, h24, hpl, hmp6⟩ := cR_ref h
  obtain ⟨k0, k1, k2, k3, k4, hsz, k13, s0, s1, hmp, mA, mB, mQ, mQT, z8, z11, hD1⟩ := cR_cls h
  have h06 := h.1.2.2.2.2.2.2.1
  by_cases c1 : mr_M_within nu 0 3 = 0
  · have eX : mrx_X_bound nC nD nu d sx = 1 := by unfold mrx_X_bound; rw [num_eq, if_pos c1]
    have eS : mr_M_bound (K 6) (K 7) (K 8) (K 9) (K 10) (K 11) (K 12) (K 19) nC nT nR nD nu d sx = (0, 1, K 19) := by unfold mr_M_bound; rw [if_pos c1]; rfl
    have eT : mr_X_bound (G 0) (G 1) (G 2) (G 3) (G 4) (G 5) (G 6) (G 7) (G 14) nC nD nu d sx = (0, G 14) := by unfold mr_X_bound; rw [num_eq, if_pos c1]
    rw [eX, eS, eT]
    refine ⟨rfl, fun h9 => absurd h9 (by decide), nC, nT, nR, nD, sz, pl, ?_⟩
    unfold cR
    simp (config := { decide := true }) only [upd_if, vup_if, ↓reduceIte]
    exact h
  obtain ⟨n, hn, en⟩ := num_ok c1
  have ck : nu.toNatClampNeg = n := by rw [en]; exact nI_clamp (by omega)
  by_cases c2 : mr_M_isDesign nD d = 0
  · have eX : mrx_X_bound nC nD nu d sx = 1 := by unfold mrx_X_bound; rw [num_eq, if_neg c1, des_eq hN, if_pos c2]
    have eS : mr_M_bound (K 6) (K 7) (K 8) (K 9) (K 10) (K 11) (K 12) (K 19) nC nT nR nD nu d sx = (0, 1, K 19) := by unfold mr_M_bound; rw [if_neg c1, if_pos c2]; rfl
    have eT : mr_X_bound (G 0) (G 1) (G 2) (G 3) (G 4) (G 5) (G 6) (G 7) (G 14) nC nD nu d sx = (0, G 14) := by unfold mr_X_bound; rw [num_eq, if_neg c1, des_eq hN, if_pos c2]
    rw [eX, eS, eT]
    refine ⟨rfl, fun h9 => absurd h9 (by decide), nC, nT, nR, nD, sz, pl, ?_⟩
    unfold cR
    simp (config := { decide := true }) only [upd_if, vup_if, ↓reduceIte]
    exact h
  obtain ⟨j, hj, ed⟩ := des_ok hN c2
  have cd : d.toNatClampNeg = j := by rw [ed]; exact nI_clamp (by omega)
  by_cases c3 : sx < 0
  · have eX : mrx_X_bound nC nD nu d sx = 1 := by unfold mrx_X_bound; rw [num_eq, if_neg c1, des_eq hN, if_neg c2, if_pos c3]
    have eS : mr_M_bound (K 6) (K 7) (K 8) (K 9) (K 10) (K 11) (K 12) (K 19) nC nT nR nD nu d sx = (0, 1, K 19) := by unfold mr_M_bound mr_M_within; unfold mr_M_within at c1; rw [if_neg c1, if_neg c2, if_pos c3, if_pos rfl]; rfl
    have eT : mr_X_bound (G 0) (G 1) (G 2) (G 3) (G 4) (G 5) (G 6) (G 7) (G 14) nC nD nu d sx = (0, G 14) := by unfold mr_X_bound; rw [num_eq, if_neg c1, des_eq hN, if_neg c2, if_pos c3]
    rw [eX, eS, eT]
    refine ⟨rfl, fun h9 => absurd h9 (by decide), nC, nT, nR, nD, sz, pl, ?_⟩
    unfold cR
    simp (config := { decide := true }) only [upd_if, vup_if, ↓reduceIte]
    exact h
  by_cases c4 : sx ≤ nI nC
  · obtain ⟨st, hst, es⟩ := wi_le c3 (Int32.not_lt.mpr c4) (by omega)
    have cs : sx.toNatClampNeg = st := by rw [es]; exact nI_clamp (by omega)
    have eX : mrx_X_bound nC nD nu d sx = 0 := by unfold mrx_X_bound; rw [num_eq, if_neg c1, des_eq hN, if_neg c2, if_neg c3, if_pos c4]
    have w4 : ¬ mr_M_within sx 0 (nI nC) = 0 := by unfold mr_M_within; rw [if_neg c3, if_neg (Int32.not_lt.mpr c4)]; decide
    have eS : mr_M_bound (K 6) (K 7) (K 8) (K 9) (K 10) (K 11) (K 12) (K 19) nC nT nR nD nu d sx = (mr_M_boundOf (K 7) (K 8) (K 9) (K 10) (K 11) (K 12) (mr_M_open (K 6) (K 19) nC j st) nC nT (nI n), 0, mr_M_open (K 6) (K 19) nC j st) := by unfold mr_M_bound; rw [if_neg c1, if_neg c2, if_neg w4, cd, cs, en]
    have eT : mr_X_bound (G 0) (G 1) (G 2) (G 3) (G 4) (G 5) (G 6) (G 7) (G 14) nC nD nu d sx = (mr_Bo_boundOf (G 2) (G 3) (G 4) (G 5) (G 6) (G 7) (lf_Se_boundFor_3 (G 0) (G 1) n st (nI j) (G 14) st) n st, lf_Se_boundFor_3 (G 0) (G 1) n st (nI j) (G 14) st) := by unfold mr_X_bound mr_Se_boundFor; rw [num_eq, if_neg c1, des_eq hN, if_neg c2, if_neg c3, if_pos c4, ck, cs, ed]
    rw [eX, eS, eT]
    refine ⟨rfl, fun _ => ?_, nC, nT, nR, nD, sz, pl, ?_⟩
    · exact bound_eq hC (by omega) hn s0 (bf_R hC hN s0 s1 hmp h6 h06 hj (by omega)) h.2.1.1 h.2.1.2.2.1 (h.2.1.2.1 n hn) hT
    · skip
      unfold cR
      simp (config := { decide := true }) only [upd_if, vup_if, ↓reduceIte]
      exact h
  · have eX : mrx_X_bound nC nD nu d sx = 1 := by unfold mrx_X_bound; rw [num_eq, if_neg c1, des_eq hN, if_neg c2, if_neg c3, if_neg c4]
    have w4 : mr_M_within sx 0 (nI nC) = 0 := by unfold mr_M_within; rw [if_neg c3, if_pos (Int32.not_le.mp c4)]
    have eS : mr_M_bound (K 6) (K 7) (K 8) (K 9) (K 10) (K 11) (K 12) (K 19) nC nT nR nD nu d sx = (0, 1, K 19) := by unfold mr_M_bound; rw [if_neg c1, if_neg c2, if_pos w4]; rfl
    have eT : mr_X_bound (G 0) (G 1) (G 2) (G 3) (G 4) (G 5) (G 6) (G 7) (G 14) nC nD nu d sx = (0, G 14) := by unfold mr_X_bound; rw [num_eq, if_neg c1, des_eq hN, if_neg c2, if_neg c3, if_neg c4]
    rw [eX, eS, eT]
    refine ⟨rfl, fun h9 => absurd h9 (by decide), nC, nT, nR, nD, sz, pl, ?_⟩
    unfold cR
    simp (config := { decide := true }) only [upd_if, vup_if, ↓reduceIte]
    exact h
