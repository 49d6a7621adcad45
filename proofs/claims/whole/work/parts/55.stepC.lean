theorem sp01 {nD v : Nat} {i0 i1 : Nat → Int32} (hv : 2 ≤ v) (h1 : ∀ j, i1 j = 0 ∨ i1 j = 1) : ∀ n, n ≤ nD → ∀ x, (lf_Bo_splitDesigns_10 nD v i0 i1 n).2 x = 0 ∨ (lf_Bo_splitDesigns_10 nD v i0 i1 n).2 x = 1 := by
  intro n
  induction n with
  | zero => intro _ x; exact h1 x
  | succ n ih =>
    intro hn x
    have hin := (sp_in (i0 := (lf_Bo_splitDesigns_10 nD v i0 i1 n).1) (i1 := (lf_Bo_splitDesigns_10 nD v i0 i1 n).2) (k10 := n) (nD := nD) (by omega) hv v (Nat.le_refl _) x).2
    rw [lf_Bo_splitDesigns_10, hin]
    split
    · exact ih (by omega) _
    · exact ih (by omega) _
theorem slR_up {nC : Nat} {a va b vb : Int32} (q : slR nC a va b vb) : slR (nC + 1) a va b vb := by
  obtain ⟨⟨x, x1, x2⟩, y, z⟩ := q
  refine ⟨⟨x, by omega, x2⟩, y, z.imp id (fun ⟨⟨x, x1, x2⟩, y⟩ => ⟨⟨x, by omega, x2⟩, y⟩)⟩
theorem ruR_up {nC : Nat} {a va b vb : Int32} (q : ruR nC a va b vb) : ruR (nC + 1) a va b vb := by
  obtain ⟨⟨x, x1, x2⟩, y, ⟨z, z1, z2⟩, w⟩ := q
  exact ⟨⟨x, by omega, x2⟩, y, ⟨z, by omega, z2⟩, w⟩
set_option maxHeartbeats 4000000 in
theorem R_choice {F E : Nat → Int32} {G K : Nat → Nat → Int32} {nC nT nR nD sz pl : Nat} (h : cR F G E K nC nT nR nD sz pl) (v : Int32) : (mr_M_choice (E 2) (E 5) (E 24) (E 25) (E 26) (K 6) nC v).2.1 = (if mrx_X_choice nC nD v = 0 then 0 else if mrx_X_choice nC nD v = 2 then 1 else 2 : Int32) ∧ (mrx_X_choice nC nD v = 0 → (mr_X_choice (F 0) (F 1) (F 5) (F 13) (F 14) (G 0) (G 1) (G 10) (G 11) nC nD v).1 = (mr_M_choice (E 2) (E 5) (E 24) (E 25) (E 26) (K 6) nC v).1) ∧ cX (upd (upd (upd (upd (upd F 0 ((mr_X_choice (F 0) (F 1) (F 5) (F 13) (F 14) (G 0) (G 1) (G 10) (G 11) nC nD v).2.1)) 1 ((mr_X_choice (F 0) (F 1) (F 5) (F 13) (F 14) (G 0) (G 1) (G 10) (G 11) nC nD v).2.2.1)) 5 ((mr_X_choice (F 0) (F 1) (F 5) (F 13) (F 14) (G 0) (G 1) (G 10) (G 11) nC nD v).2.2.2.1)) 13 ((mr_X_choice (F 0) (F 1) (F 5) (F 13) (F 14) (G 0) (G 1) (G 10) (G 11) nC nD v).2.2.2.2.1)) 14 ((mr_X_choice (F 0) (F 1) (F 5) (F 13) (F 14) (G 0) (G 1) (G 10) (G 11) nC nD v).2.2.2.2.2.1)) (va_up (va_up (va_up (va_up G 0 ((mr_X_choice (F 0) (F 1) (F 5) (F 13) (F 14) (G 0) (G 1) (G 10) (G 11) nC nD v).2.2.2.2.2.2.1)) 1 ((mr_X_choice (F 0) (F 1) (F 5) (F 13) (F 14) (G 0) (G 1) (G 10) (G 11) nC nD v).2.2.2.2.2.2.2.1)) 10 ((mr_X_choice (F 0) (F 1) (F 5) (F 13) (F 14) (G 0) (G 1) (G 10) (G 11) nC nD v).2.2.2.2.2.2.2.2.1)) 11 ((mr_X_choice (F 0) (F 1) (F 5) (F 13) (F 14) (G 0) (G 1) (G 10) (G 11) nC nD v).2.2.2.2.2.2.2.2.2)) (upd (upd (upd (upd (upd (upd E 0 ((mr_M_choice (E 2) (E 5) (E 24) (E 25) (E 26) (K 6) nC v).2.1)) 2 ((mr_M_choice (E 2) (E 5) (E 24) (E 25) (E 26) (K 6) nC v).2.2.1)) 5 ((mr_M_choice (E 2) (E 5) (E 24) (E 25) (E 26) (K 6) nC v).2.2.2.1)) 24 ((mr_M_choice (E 2) (E 5) (E 24) (E 25) (E 26) (K 6) nC v).2.2.2.2.1)) 25 ((mr_M_choice (E 2) (E 5) (E 24) (E 25) (E 26) (K 6) nC v).2.2.2.2.2.1)) 26 ((mr_M_choice (E 2) (E 5) (E 24) (E 25) (E 26) (K 6) nC v).2.2.2.2.2.2.1)) (va_up K 6 ((mr_M_choice (E 2) (E 5) (E 24) (E 25) (E 26) (K 6) nC v).2.2.2.2.2.2.2)) := by
  obtain ⟨h2, hC, h3, hT, h4, hR, h5, hN, h6, h8, h10, h13, h15, h17, h27, h24, hpl, hmp6⟩ := cR_ref h
  obtain ⟨k0, k1, k2, k3, k4, hsz, k13, s0, s1, hmp, mA, mB, mQ, mQT, z8, z11, hD1⟩ := cR_cls h
  have h06 := h.1.2.2.2.2.2.2.1
  have fail : ∀ t : Int32, mr_M_choice (E 2) (E 5) (E 24) (E 25) (E 26) (K 6) nC v = (0, t, E 2, E 5, E 24, E 25, E 26, K 6) → mr_X_choice (F 0) (F 1) (F 5) (F 13) (F 14) (G 0) (G 1) (G 10) (G 11) nC nD v = (0, F 0, F 1, F 5, F 13, F 14, G 0, G 1, G 10, G 11) → cX (upd (upd (upd (upd (upd F 0 ((mr_X_choice (F 0) (F 1) (F 5) (F 13) (F 14) (G 0) (G 1) (G 10) (G 11) nC nD v).2.1)) 1 ((mr_X_choice (F 0) (F 1) (F 5) (F 13) (F 14) (G 0) (G 1) (G 10) (G 11) nC nD v).2.2.1)) 5 ((mr_X_choice (F 0) (F 1) (F 5) (F 13) (F 14) (G 0) (G 1) (G 10) (G 11) nC nD v).2.2.2.1)) 13 ((mr_X_choice (F 0) (F 1) (F 5) (F 13) (F 14) (G 0) (G 1) (G 10) (G 11) nC nD v).2.2.2.2.1)) 14 ((mr_X_choice (F 0) (F 1) (F 5) (F 13) (F 14) (G 0) (G 1) (G 10) (G 11) nC nD v).2.2.2.2.2.1)) (va_up (va_up (va_up (va_up G 0 ((mr_X_choice (F 0) (F 1) (F 5) (F 13) (F 14) (G 0) (G 1) (G 10) (G 11) nC nD v).2.2.2.2.2.2.1)) 1 ((mr_X_choice (F 0) (F 1) (F 5) (F 13) (F 14) (G 0) (G 1) (G 10) (G 11) nC nD v).2.2.2.2.2.2.2.1)) 10 ((mr_X_choice (F 0) (F 1) (F 5) (F 13) (F 14) (G 0) (G 1) (G 10) (G 11) nC nD v).2.2.2.2.2.2.2.2.1)) 11 ((mr_X_choice (F 0) (F 1) (F 5) (F 13) (F 14) (G 0) (G 1) (G 10) (G 11) nC nD v).2.2.2.2.2.2.2.2.2)) (upd (upd (upd (upd (upd (upd E 0 ((mr_M_choice (E 2) (E 5) (E 24) (E 25) (E 26) (K 6) nC v).2.1)) 2 ((mr_M_choice (E 2) (E 5) (E 24) (E 25) (E 26) (K 6) nC v).2.2.1)) 5 ((mr_M_choice (E 2) (E 5) (E 24) (E 25) (E 26) (K 6) nC v).2.2.2.1)) 24 ((mr_M_choice (E 2) (E 5) (E 24) (E 25) (E 26) (K 6) nC v).2.2.2.2.1)) 25 ((mr_M_choice (E 2) (E 5) (E 24) (E 25) (E 26) (K 6) nC v).2.2.2.2.2.1)) 26 ((mr_M_choice (E 2) (E 5) (E 24) (E 25) (E 26) (K 6) nC v).2.2.2.2.2.2.1)) (va_up K 6 ((mr_M_choice (E 2) (E 5) (E 24) (E 25) (E 26) (K 6) nC v).2.2.2.2.2.2.2)) := fun t eS eT => by
    rw [eT, eS]
    refine ⟨nC, nT, nR, nD, sz, pl, ?_⟩
    unfold cR
    simp (config := { decide := true }) only [upd_if, vup_if, ↓reduceIte]
    exact h
  by_cases c1 : v < 2
  · have w1 : mr_M_within v 2 6 = 0 := by unfold mr_M_within; rw [if_pos c1]
    have eX : mrx_X_choice nC nD v = 2 := by unfold mrx_X_choice; rw [if_pos c1]
    have eT : mr_X_choice (F 0) (F 1) (F 5) (F 13) (F 14) (G 0) (G 1) (G 10) (G 11) nC nD v = (0, F 0, F 1, F 5, F 13, F 14, G 0, G 1, G 10, G 11) := by unfold mr_X_choice; rw [if_pos c1]
    have eS : mr_M_choice (E 2) (E 5) (E 24) (E 25) (E 26) (K 6) nC v = (0, 1, E 2, E 5, E 24, E 25, E 26, K 6) := by unfold mr_M_choice; rw [if_pos w1]; rfl
    exact ⟨by rw [eX, eS]; rfl, fun h9 => absurd h9 (by rw [eX]; decide), fail 1 eS eT⟩
  by_cases c2 : v ≤ 6
  · have w1 : ¬ mr_M_within v 2 6 = 0 := by unfold mr_M_within; rw [if_neg c1, if_neg (Int32.not_lt.mpr c2)]; decide
    obtain ⟨z, hz6, ev⟩ := nI_of2 (M := 6) (n := 6) rfl (fun h9 : v < 0 => c1 (Int32.lt_trans h9 (by decide))) c2
    have hz2 : 2 ≤ z := Nat.le_of_not_lt (fun h9 => c1 (by rw [ev]; exact nI_lt (b := 2) h9 (by decide)))
    have cz : v.toNatClampNeg = z := by rw [ev]; exact nI_clamp (by omega)
    have hmul : nD * z ≤ 4096 * 6 := Nat.mul_le_mul hN hz6
    have e5 : E 5 * v = nI (nD * z) := by rw [h5, ev]; exact pk_mul _ _
    have eD : nI nD * v = nI (nD * z) := by rw [ev]; exact pk_mul _ _
    by_cases c3 : nC = 8
    · have r0 : mr_Sh_hasRoomFor nC nD v = 0 := by unfold mr_Sh_hasRoomFor; rw [if_pos (show 8 ≤ nI nC by rw [c3]; decide)]
      have eX : mrx_X_choice nC nD v = 3 := by unfold mrx_X_choice; rw [if_neg c1, if_pos c2, r0, if_pos rfl]
      have eT : mr_X_choice (F 0) (F 1) (F 5) (F 13) (F 14) (G 0) (G 1) (G 10) (G 11) nC nD v = (0, F 0, F 1, F 5, F 13, F 14, G 0, G 1, G 10, G 11) := by unfold mr_X_choice; rw [if_neg c1, if_pos c2, r0, if_pos rfl]
      have eS : mr_M_choice (E 2) (E 5) (E 24) (E 25) (E 26) (K 6) nC v = (0, 2, E 2, E 5, E 24, E 25, E 26, K 6) := by unfold mr_M_choice; rw [if_neg w1, if_pos (show nI nC = 8 by rw [c3]; rfl)]; rfl
      exact ⟨by rw [eX, eS]; rfl, fun h9 => absurd h9 (by rw [eX]; decide), fail 2 eS eT⟩
    have n8 : ¬ 8 ≤ nI nC := fun h9 => c3 (by have := (nI_leI (a := 8) (b := nC) (by decide) (by omega)).mp h9; omega)
    have m8 : ¬ nI nC = 8 := fun h9 => n8 (by rw [h9]; decide)
    by_cases c4 : nD * z ≤ 4096
    · have l4 : nI (nD * z) ≤ 4096 := nI_le (b := 4096) c4 (by decide)
      have r1 : mr_Sh_hasRoomFor nC nD v = 1 := by unfold mr_Sh_hasRoomFor; rw [if_neg n8, eD, if_neg (Int32.not_lt.mpr l4)]
      have eX : mrx_X_choice nC nD v = 0 := by unfold mrx_X_choice; rw [if_neg c1, if_pos c2, r1, if_neg (by decide)]
      have eT : mr_X_choice (F 0) (F 1) (F 5) (F 13) (F 14) (G 0) (G 1) (G 10) (G 11) nC nD v = (nI (nC + 1) - 1, nI (nC + 1), nI (nD * z), 0, 0, 0, upd (G 0) nC (nI z), (mr_Sh_addChoice (G 0) (G 1) nC nD z).2.2.2, (mr_Bo_splitDesigns (G 10) (G 11) nD z).1, (mr_Bo_splitDesigns (G 10) (G 11) nD z).2) := by unfold mr_X_choice; rw [if_neg c1, if_pos c2, r1, if_neg (by decide), cz]; rfl
      have eS : mr_M_choice (E 2) (E 5) (E 24) (E 25) (E 26) (K 6) nC v = (nI (nC + 1) - 1, 0, nI (nC + 1), nI (nD * z), 0, 0, 0, upd (K 6) nC (nI z)) := by unfold mr_M_choice; rw [if_neg w1, if_neg m8, e5, if_pos l4, ev]
      rw [eX, eT, eS]
      refine ⟨rfl, fun _ => rfl, nC + 1, nT, nR, nD * z, sz, 0, ?_⟩
      have g1 : ∀ c, c < nC + 1 → ∃ y : Nat, upd (G 0) nC (nI z) c = nI y ∧ 2 ≤ y ∧ y ≤ 6 := fun c hc => by
        by_cases e : c = nC
        · rw [e, pk_us]; exact ⟨z, rfl, hz2, hz6⟩
        · rw [pk_un e]; exact s0 c (by omega)
      have g2 : ∀ c, c < nC + 1 → (mr_Sh_addChoice (G 0) (G 1) nC nD z).2.2.2 c = nI (pc_ (zg (upd (G 0) nC (nI z))) (nC + 1) c) := pl_new (by omega) s1
      have g3 : ∀ c, c < nC + 1 → upd (K 6) nC (nI z) c = upd (G 0) nC (nI z) c := fun c hc => by
        by_cases e : c = nC
        · rw [e, pk_us, pk_us]
        · rw [pk_un e, pk_un e]; exact h06 c (by omega)
      obtain ⟨u1, u2⟩ := zg_upd (g6 := G 0) (n := nC) (v := z) (by omega)
      have g4 : mp (zg (upd (G 0) nC (nI z))) 0 (nC + 1) = nD * z := by
        rw [mp, Nat.zero_add, u2, mp_ext (y := zg (G 0)) (fun i hi => by rw [Nat.zero_add]; exact u1 i hi), hmp]
      have hdz : ∀ d, d < nD * z → d / z < nD := fun d hd => (Nat.div_lt_iff_lt_mul (by omega)).mpr hd
      have g5 : ∀ d k, d < nD * z → k < 4 → (mr_Bo_splitDesigns (G 10) (G 11) nD z).1 (d * 4 + k) = sNum (upd (K 6) nC (nI z)) (K 7) (K 8) (K 9) (K 10) (K 11) (K 12) (nC + 1) nT d k := fun d k hd hk => by
        rw [(sp_sem hz2 hd).1 k hk, cR_num h (hdz d hd) hk, num_choice hC (by omega) h8 h10]
      have g6 : ∀ d, d < nD * z → ((mr_Bo_splitDesigns (G 10) (G 11) nD z).2 d = 0 ↔ mr_M_isBarred (K 13) (K 14) (K 15) (K 16) (rowD (upd (K 6) nC (nI z)) (nC + 1) d (nC + 1)) (nC + 1) nR = 0) := fun d hd => by
        rw [(sp_sem hz2 hd).2, bar_choice hC (by omega) h13 h15]
        exact h.2.2.2.1.2.1 (d / z) (hdz d hd)
      have g7 : ∀ j, (mr_Bo_splitDesigns (G 10) (G 11) nD z).2 j = 0 ∨ (mr_Bo_splitDesigns (G 10) (G 11) nD z).2 j = 1 := sp01 hz2 z11 nD (Nat.le_refl _)
      have g8 : sz ≤ nD * z := Nat.le_trans hsz (Nat.le_mul_of_pos_right _ (by omega))
      generalize (mr_Bo_splitDesigns (G 10) (G 11) nD z) = sp at g5 g6 g7 ⊢
      generalize (mr_Sh_addChoice (G 0) (G 1) nC nD z).2.2.2 = pl1 at g2 ⊢
      generalize upd (G 0) nC (nI z) = a0 at g1 g2 g3 g4 ⊢
      generalize upd (K 6) nC (nI z) = a6 at g3 g5 g6 ⊢
      obtain ⟨q1, q2, q3, q4, q5, q6, q7, q8, q9⟩ := h.2.2.2.2.2.2
      obtain ⟨t1, t2, t3, t4, t5, t6, t7⟩ := h.2.1
      unfold cR
      simp (config := { decide := true }) only [upd_if, vup_if, ↓reduceIte]
      exact ⟨⟨⟨rfl, rfl, by omega⟩, ⟨rfl, rfl, c4⟩, h.1.2.2.1, h.1.2.2.2.1, g1, g2, g3, g4⟩, ⟨t1, t2, fun t ht => slR_up (t3 t ht), t4, fun j hj => ruR_up (t5 j hj), t6, t7⟩, h.2.2.1, ⟨g5, g6, g7⟩, ⟨fun h9 => absurd rfl h9, h27⟩, ⟨k4, g8, fun h9 => absurd rfl h9⟩, q1, q2, q3, q4, q5, rfl, rfl, Nat.zero_le _, rfl⟩
    · have l4 : ¬ nI (nD * z) ≤ 4096 := nI_ge (a := 4096) (by omega) (by omega)
      have r0 : mr_Sh_hasRoomFor nC nD v = 0 := by unfold mr_Sh_hasRoomFor; rw [if_neg n8, eD, if_pos (Int32.not_le.mp l4)]
      have eX : mrx_X_choice nC nD v = 3 := by unfold mrx_X_choice; rw [if_neg c1, if_pos c2, r0, if_pos rfl]
      have eT : mr_X_choice (F 0) (F 1) (F 5) (F 13) (F 14) (G 0) (G 1) (G 10) (G 11) nC nD v = (0, F 0, F 1, F 5, F 13, F 14, G 0, G 1, G 10, G 11) := by unfold mr_X_choice; rw [if_neg c1, if_pos c2, r0, if_pos rfl]
      have eS : mr_M_choice (E 2) (E 5) (E 24) (E 25) (E 26) (K 6) nC v = (0, 2, E 2, E 5, E 24, E 25, E 26, K 6) := by unfold mr_M_choice; rw [if_neg w1, if_neg m8, e5, if_neg l4]; rfl
      exact ⟨by rw [eX, eS]; rfl, fun h9 => absurd h9 (by rw [eX]; decide), fail 2 eS eT⟩
  · have w1 : mr_M_within v 2 6 = 0 := by unfold mr_M_within; rw [if_neg c1, if_pos (Int32.not_le.mp c2)]
    have eX : mrx_X_choice nC nD v = 2 := by unfold mrx_X_choice; rw [if_neg c1, if_neg c2]
    have eT : mr_X_choice (F 0) (F 1) (F 5) (F 13) (F 14) (G 0) (G 1) (G 10) (G 11) nC nD v = (0, F 0, F 1, F 5, F 13, F 14, G 0, G 1, G 10, G 11) := by unfold mr_X_choice; rw [if_neg c1, if_neg c2]
    have eS : mr_M_choice (E 2) (E 5) (E 24) (E 25) (E 26) (K 6) nC v = (0, 1, E 2, E 5, E 24, E 25, E 26, K 6) := by unfold mr_M_choice; rw [if_pos w1]; rfl
    exact ⟨by rw [eX, eS]; rfl, fun h9 => absurd h9 (by rw [eX]; decide), fail 1 eS eT⟩
/-- whether a slot's values are those of a design -/
theorem ft_sem {c0 c1 k6 g2 g3 g4 g5 : Nat → Int32} {nC nD d sl : Nat} {a va b vb : Int32} (hC : nC ≤ 8) (hN : nD ≤ 4096) (s0 : ∀ c, c < nC → ∃ z : Nat, c0 c = nI z ∧ 2 ≤ z ∧ z ≤ 6) (s1 : ∀ c, c < nC → c1 c = nI (pc_ (zg c0) nC c)) (hmp : mp (zg c0) 0 nC = nD) (h06 : ∀ c, c < nC → k6 c = c0 c) (hd : d < nD) (e2 : g2 sl = a) (e3 : g3 sl = va) (e4 : g4 sl = b) (e5 : g5 sl = vb) (ha : ∃ x : Nat, x < nC ∧ a = nI x) (hb : b = -1 ∨ ∃ x : Nat, x < nC ∧ b = nI x) : ¬ mr_Ma_fits c0 c1 g2 g3 g4 g5 sl (nI d) = 0 ↔ sFits k6 nC d a va b vb := by
  have key : ∀ x, x < nC → mr_Sh_digit c0 c1 (nI d) x = rowD k6 nC d nC x := fun x hx => by
    unfold rowD
    rw [if_pos hx, dig_sem s0 s1 hmp hN hx (by omega), dg_zext (zg_06 h06) hx]
  obtain ⟨x, hx, ea⟩ := ha
  have ca : a.toNatClampNeg = x := by rw [ea]; exact nI_clamp (by omega)
  unfold mr_Ma_fits sFits
  rw [e2, e3, e4, e5, ca, key x hx]
  by_cases p1 : rowD k6 nC d nC x = va
  · rw [if_pos p1]
    rcases hb with hb | ⟨y, hy, hb⟩
    · rw [if_pos hb]
      exact ⟨fun _ => ⟨p1, Or.inl (by rw [hb]; decide)⟩, fun _ => by decide⟩
    · have cb : b.toNatClampNeg = y := by rw [hb]; exact nI_clamp (by omega)
      have n1 : ¬ b = -1 := by rw [hb]; exact m1_nle (by omega)
      have n0 : ¬ b < 0 := by rw [hb]; exact nI_pos (by omega)
      rw [if_neg n1, cb, key y hy]
      by_cases p2 : rowD k6 nC d nC y = vb
      · rw [if_pos p2]; exact ⟨fun _ => ⟨p1, Or.inr p2⟩, fun _ => by decide⟩
      · rw [if_neg p2]; exact ⟨fun h9 => absurd rfl h9, fun h9 => (h9.2.elim n0 p2).elim⟩
  · rw [if_neg p1]; exact ⟨fun h9 => absurd rfl h9, fun h9 => absurd h9.1 p1⟩
theorem at_sum {g0 g1 q2 q3 q4 q5 i0 : Nat → Int32} {nD nT nu t a : Nat} {va b vb w : Int32} (hnu : nu < 4) : ∀ m d k, k < 4 → lf_Bo_addTerm_60 g0 g1 nD nT nu t a va b vb w q2 q3 q4 q5 i0 m (d * 4 + k) = if d < m ∧ k = nu ∧ ¬ mr_Ma_fits g0 g1 q2 q3 q4 q5 (nu * 100 + t) (nI d) = 0 then i0 (d * 4 + k) + w else i0 (d * 4 + k) := by
  intro m
  induction m with
  | zero => intro d k hk; rw [lf_Bo_addTerm_60, if_neg (fun h9 => absurd h9.1 (Nat.not_lt_zero _))]
  | succ m ih =>
    intro d k hk
    rw [lf_Bo_addTerm_60]
    by_cases c : mr_Ma_fits g0 g1 q2 q3 q4 q5 (nu * 100 + t) (nI m) = 0
    · rw [if_pos c, ih d k hk]
      by_cases e : d = m
      · rw [if_neg (fun h9 => absurd h9.1 (by omega)), if_neg (fun h9 => h9.2.2 (by rw [e]; exact c))]
      · by_cases q : d < m ∧ k = nu ∧ ¬ mr_Ma_fits g0 g1 q2 q3 q4 q5 (nu * 100 + t) (nI d) = 0
        · rw [if_pos q, if_pos ⟨by omega, q.2⟩]
        · rw [if_neg q, if_neg (fun h9 => q ⟨by omega, h9.2⟩)]
    · rw [if_neg c]
      by_cases e : d = m ∧ k = nu
      · obtain ⟨rfl, rfl⟩ := e
        rw [pk_us, ih d k hk, if_neg (fun h9 => absurd h9.1 (Nat.lt_irrefl _)), if_pos ⟨Nat.lt_succ_self _, rfl, c⟩]
      · rw [pk_un (by omega), ih d k hk]
        by_cases q : d < m ∧ k = nu ∧ ¬ mr_Ma_fits g0 g1 q2 q3 q4 q5 (nu * 100 + t) (nI d) = 0
        · rw [if_pos q, if_pos ⟨by omega, q.2⟩]
        · rw [if_neg q, if_neg (fun h9 => q ⟨by omega, h9.2⟩)]
theorem ar_bar {g0 g1 q2 q3 q4 q5 i0 : Nat → Int32} {nD nR a b : Nat} {va vb : Int32} : ∀ m d, lf_Bo_addRule_37 g0 g1 nD nR a b va vb q2 q3 q4 q5 i0 m d = if d < m ∧ ¬ mr_Ma_fits g0 g1 q2 q3 q4 q5 (400 + nR) (nI d) = 0 then 1 else i0 d := by
  intro m
  induction m with
  | zero => intro d; rw [lf_Bo_addRule_37, if_neg (fun h9 => absurd h9.1 (Nat.not_lt_zero _))]
  | succ m ih =>
    intro d
    rw [lf_Bo_addRule_37]
    by_cases c : mr_Ma_fits g0 g1 q2 q3 q4 q5 (400 + nR) (nI m) = 0
    · rw [if_pos c, ih d]
      by_cases e : d = m
      · rw [if_neg (fun h9 => absurd h9.1 (by omega)), if_neg (fun h9 => h9.2 (by rw [e]; exact c))]
      · by_cases q : d < m ∧ ¬ mr_Ma_fits g0 g1 q2 q3 q4 q5 (400 + nR) (nI d) = 0
        · rw [if_pos q, if_pos ⟨by omega, q.2⟩]
        · rw [if_neg q, if_neg (fun h9 => q ⟨by omega, h9.2⟩)]
    · rw [if_neg c]
      by_cases e : d = m
      · subst e
        rw [pk_us, if_pos ⟨Nat.lt_succ_self _, c⟩]
      · rw [pk_un e, ih d]
        by_cases q : d < m ∧ ¬ mr_Ma_fits g0 g1 q2 q3 q4 q5 (400 + nR) (nI d) = 0
        · rw [if_pos q, if_pos ⟨by omega, q.2⟩]
        · rw [if_neg q, if_neg (fun h9 => q ⟨by omega, h9.2⟩)]
theorem ct_upd {g7 : Nat → Int32} {n nT : Nat} {x : Int32} : ∀ T, T ≤ nT → ct (upd g7 nT x) n T = ct g7 n T := by
  intro T
  induction T with
  | zero => intro _; rfl
  | succ T ih => intro q; rw [ct, ct, ih (by omega), pk_un (by omega)]
theorem ct_mono {g7 : Nat → Int32} {n a b : Nat} (q : a ≤ b) : ct g7 n a ≤ ct g7 n b := by
  induction b with
  | zero => rw [show a = 0 by omega]; exact Nat.le_refl _
  | succ b ih =>
    rcases Nat.lt_or_ge a (b + 1) with r | r
    · have := ih (by omega)
      rw [ct]; split <;> omega
    · rw [show a = b + 1 by omega]; exact Nat.le_refl _
theorem ct_lt {g7 : Nat → Int32} {n t T : Nat} (q : t < T) (e : g7 t = nI n) : ct g7 n t < ct g7 n T := by
  have h1 : ct g7 n (t + 1) ≤ ct g7 n T := ct_mono (by omega)
  rw [ct, if_pos e] at h1
  omega
theorem tm_new {c2 c3 c4 c5 c7 k7 k8 k9 k10 k11 k12 : Nat → Int32} {nT n : Nat} {a va b vb w : Int32} (hT : nT < 100) (hn : n < 4) (hR : tmR c2 c3 c4 c5 c7 k7 k8 k9 k10 k11 k12 nT) :
    tmR (upd c2 (n * 100 + ct k7 n nT) a) (upd c3 (n * 100 + ct k7 n nT) va) (upd c4 (n * 100 + ct k7 n nT) b) (upd c5 (n * 100 + ct k7 n nT) vb) (upd c7 (n * 100 + ct k7 n nT) w) (upd k7 nT (nI n)) (upd k8 nT a) (upd k9 nT va) (upd k10 nT b) (upd k11 nT vb) (upd k12 nT w) (nT + 1) := by
  intro t m ht hm e
  rw [ct_upd t (by omega)]
  by_cases q : t = nT
  · subst q
    rw [pk_us] at e
    have : n = m := (nI_eq (by omega) (by omega)).mp e
    subst this
    rw [pk_us, pk_us, pk_us, pk_us, pk_us, pk_us, pk_us, pk_us, pk_us, pk_us]
    exact ⟨rfl, rfl, rfl, rfl, rfl⟩
  · rw [pk_un q] at e
    have l1 := ct_le k7 m t
    have l2 := ct_le k7 n nT
    have hne : m * 100 + ct k7 m t ≠ n * 100 + ct k7 n nT := fun h9 => by
      have : m = n := by omega
      subst this
      have := ct_lt (T := nT) (by omega) e
      omega
    rw [pk_un hne, pk_un hne, pk_un hne, pk_un hne, pk_un hne, pk_un q, pk_un q, pk_un q, pk_un q, pk_un q]
    exact hR t m (by omega) hm e
set_option maxHeartbeats 4000000 in
theorem R_term {F E : Nat → Int32} {G K : Nat → Nat → Int32} {nC nT nR nD sz pl : Nat} (h : cR F G E K nC nT nR nD sz pl) (nu : Int32) (a : Int32) (va : Int32) (b : Int32) (vb : Int32) (w : Int32) : (mr_M_term (E 3) (E 26) (K 6) (K 7) (K 8) (K 9) (K 10) (K 11) (K 12) nC nT nu a va b vb w).2.1 = (if mrx_X_term (G 0) nC nD nT nu a va b vb w = 0 then 0 else if mrx_X_term (G 0) nC nD nT nu a va b vb w = 1 then 1 else if mrx_X_term (G 0) nC nD nT nu a va b vb w = 2 then 2 else 3 : Int32) ∧ (mrx_X_term (G 0) nC nD nT nu a va b vb w = 0 → (mr_X_term (F 2) (F 5) (G 0) (G 1) (G 2) (G 3) (G 4) (G 5) (G 6) (G 7) (G 10) nC nD nT nu a va b vb w).1 = (mr_M_term (E 3) (E 26) (K 6) (K 7) (K 8) (K 9) (K 10) (K 11) (K 12) nC nT nu a va b vb w).1) ∧ cX (upd (upd F 2 ((mr_X_term (F 2) (F 5) (G 0) (G 1) (G 2) (G 3) (G 4) (G 5) (G 6) (G 7) (G 10) nC nD nT nu a va b vb w).2.1)) 5 ((mr_X_term (F 2) (F 5) (G 0) (G 1) (G 2) (G 3) (G 4) (G 5) (G 6) (G 7) (G 10) nC nD nT nu a va b vb w).2.2.1)) (va_up (va_up (va_up (va_up (va_up (va_up (va_up G 2 ((mr_X_term (F 2) (F 5) (G 0) (G 1) (G 2) (G 3) (G 4) (G 5) (G 6) (G 7) (G 10) nC nD nT nu a va b vb w).2.2.2.1)) 3 ((mr_X_term (F 2) (F 5) (G 0) (G 1) (G 2) (G 3) (G 4) (G 5) (G 6) (G 7) (G 10) nC nD nT nu a va b vb w).2.2.2.2.1)) 4 ((mr_X_term (F 2) (F 5) (G 0) (G 1) (G 2) (G 3) (G 4) (G 5) (G 6) (G 7) (G 10) nC nD nT nu a va b vb w).2.2.2.2.2.1)) 5 ((mr_X_term (F 2) (F 5) (G 0) (G 1) (G 2) (G 3) (G 4) (G 5) (G 6) (G 7) (G 10) nC nD nT nu a va b vb w).2.2.2.2.2.2.1)) 6 ((mr_X_term (F 2) (F 5) (G 0) (G 1) (G 2) (G 3) (G 4) (G 5) (G 6) (G 7) (G 10) nC nD nT nu a va b vb w).2.2.2.2.2.2.2.1)) 7 ((mr_X_term (F 2) (F 5) (G 0) (G 1) (G 2) (G 3) (G 4) (G 5) (G 6) (G 7) (G 10) nC nD nT nu a va b vb w).2.2.2.2.2.2.2.2.1)) 10 ((mr_X_term (F 2) (F 5) (G 0) (G 1) (G 2) (G 3) (G 4) (G 5) (G 6) (G 7) (G 10) nC nD nT nu a va b vb w).2.2.2.2.2.2.2.2.2)) (upd (upd (upd E 0 ((mr_M_term (E 3) (E 26) (K 6) (K 7) (K 8) (K 9) (K 10) (K 11) (K 12) nC nT nu a va b vb w).2.1)) 3 ((mr_M_term (E 3) (E 26) (K 6) (K 7) (K 8) (K 9) (K 10) (K 11) (K 12) nC nT nu a va b vb w).2.2.1)) 26 ((mr_M_term (E 3) (E 26) (K 6) (K 7) (K 8) (K 9) (K 10) (K 11) (K 12) nC nT nu a va b vb w).2.2.2.1)) (va_up (va_up (va_up (va_up (va_up (va_up K 7 ((mr_M_term (E 3) (E 26) (K 6) (K 7) (K 8) (K 9) (K 10) (K 11) (K 12) nC nT nu a va b vb w).2.2.2.2.1)) 8 ((mr_M_term (E 3) (E 26) (K 6) (K 7) (K 8) (K 9) (K 10) (K 11) (K 12) nC nT nu a va b vb w).2.2.2.2.2.1)) 9 ((mr_M_term (E 3) (E 26) (K 6) (K 7) (K 8) (K 9) (K 10) (K 11) (K 12) nC nT nu a va b vb w).2.2.2.2.2.2.1)) 10 ((mr_M_term (E 3) (E 26) (K 6) (K 7) (K 8) (K 9) (K 10) (K 11) (K 12) nC nT nu a va b vb w).2.2.2.2.2.2.2.1)) 11 ((mr_M_term (E 3) (E 26) (K 6) (K 7) (K 8) (K 9) (K 10) (K 11) (K 12) nC nT nu a va b vb w).2.2.2.2.2.2.2.2.1)) 12 ((mr_M_term (E 3) (E 26) (K 6) (K 7) (K 8) (K 9) (K 10) (K 11) (K 12) nC nT nu a va b vb w).2.2.2.2.2.2.2.2.2)) := by
  obtain ⟨h2, hC, h3, hT, h4, hR, h5, hN, h6, h8, h10, h13, h15, h17, h27, h24, hpl, hmp6⟩ := cR_ref h
  obtain ⟨k0, k1, k2, k3, k4, hsz, k13, s0, s1, hmp, mA, mB, mQ, mQT, z8, z11, hD1⟩ := cR_cls h
  have h06 := h.1.2.2.2.2.2.2.1
  have fail : ∀ t : Int32, mr_M_term (E 3) (E 26) (K 6) (K 7) (K 8) (K 9) (K 10) (K 11) (K 12) nC nT nu a va b vb w = (0, t, E 3, E 26, K 7, K 8, K 9, K 10, K 11, K 12) → mr_X_term (F 2) (F 5) (G 0) (G 1) (G 2) (G 3) (G 4) (G 5) (G 6) (G 7) (G 10) nC nD nT nu a va b vb w = (0, F 2, F 5, G 2, G 3, G 4, G 5, G 6, G 7, G 10) → cX (upd (upd F 2 ((mr_X_term (F 2) (F 5) (G 0) (G 1) (G 2) (G 3) (G 4) (G 5) (G 6) (G 7) (G 10) nC nD nT nu a va b vb w).2.1)) 5 ((mr_X_term (F 2) (F 5) (G 0) (G 1) (G 2) (G 3) (G 4) (G 5) (G 6) (G 7) (G 10) nC nD nT nu a va b vb w).2.2.1)) (va_up (va_up (va_up (va_up (va_up (va_up (va_up G 2 ((mr_X_term (F 2) (F 5) (G 0) (G 1) (G 2) (G 3) (G 4) (G 5) (G 6) (G 7) (G 10) nC nD nT nu a va b vb w).2.2.2.1)) 3 ((mr_X_term (F 2) (F 5) (G 0) (G 1) (G 2) (G 3) (G 4) (G 5) (G 6) (G 7) (G 10) nC nD nT nu a va b vb w).2.2.2.2.1)) 4 ((mr_X_term (F 2) (F 5) (G 0) (G 1) (G 2) (G 3) (G 4) (G 5) (G 6) (G 7) (G 10) nC nD nT nu a va b vb w).2.2.2.2.2.1)) 5 ((mr_X_term (F 2) (F 5) (G 0) (G 1) (G 2) (G 3) (G 4) (G 5) (G 6) (G 7) (G 10) nC nD nT nu a va b vb w).2.2.2.2.2.2.1)) 6 ((mr_X_term (F 2) (F 5) (G 0) (G 1) (G 2) (G 3) (G 4) (G 5) (G 6) (G 7) (G 10) nC nD nT nu a va b vb w).2.2.2.2.2.2.2.1)) 7 ((mr_X_term (F 2) (F 5) (G 0) (G 1) (G 2) (G 3) (G 4) (G 5) (G 6) (G 7) (G 10) nC nD nT nu a va b vb w).2.2.2.2.2.2.2.2.1)) 10 ((mr_X_term (F 2) (F 5) (G 0) (G 1) (G 2) (G 3) (G 4) (G 5) (G 6) (G 7) (G 10) nC nD nT nu a va b vb w).2.2.2.2.2.2.2.2.2)) (upd (upd (upd E 0 ((mr_M_term (E 3) (E 26) (K 6) (K 7) (K 8) (K 9) (K 10) (K 11) (K 12) nC nT nu a va b vb w).2.1)) 3 ((mr_M_term (E 3) (E 26) (K 6) (K 7) (K 8) (K 9) (K 10) (K 11) (K 12) nC nT nu a va b vb w).2.2.1)) 26 ((mr_M_term (E 3) (E 26) (K 6) (K 7) (K 8) (K 9) (K 10) (K 11) (K 12) nC nT nu a va b vb w).2.2.2.1)) (va_up (va_up (va_up (va_up (va_up (va_up K 7 ((mr_M_term (E 3) (E 26) (K 6) (K 7) (K 8) (K 9) (K 10) (K 11) (K 12) nC nT nu a va b vb w).2.2.2.2.1)) 8 ((mr_M_term (E 3) (E 26) (K 6) (K 7) (K 8) (K 9) (K 10) (K 11) (K 12) nC nT nu a va b vb w).2.2.2.2.2.1)) 9 ((mr_M_term (E 3) (E 26) (K 6) (K 7) (K 8) (K 9) (K 10) (K 11) (K 12) nC nT nu a va b vb w).2.2.2.2.2.2.1)) 10 ((mr_M_term (E 3) (E 26) (K 6) (K 7) (K 8) (K 9) (K 10) (K 11) (K 12) nC nT nu a va b vb w).2.2.2.2.2.2.2.1)) 11 ((mr_M_term (E 3) (E 26) (K 6) (K 7) (K 8) (K 9) (K 10) (K 11) (K 12) nC nT nu a va b vb w).2.2.2.2.2.2.2.2.1)) 12 ((mr_M_term (E 3) (E 26) (K 6) (K 7) (K 8) (K 9) (K 10) (K 11) (K 12) nC nT nu a va b vb w).2.2.2.2.2.2.2.2.2)) := fun t eS eT => by
    rw [eT, eS]
    refine ⟨nC, nT, nR, nD, sz, pl, ?_⟩
    unfold cR
    simp (config := { decide := true }) only [upd_if, vup_if, ↓reduceIte]
    exact h
  have vq := val_eq (k6 := K 6) hC s0 h06
  by_cases c1 : mr_M_within nu 0 3 = 0
  · have eX : mrx_X_term (G 0) nC nD nT nu a va b vb w = 1 := by unfold mrx_X_term; rw [num_eq, if_pos c1]
    have eT : mr_X_term (F 2) (F 5) (G 0) (G 1) (G 2) (G 3) (G 4) (G 5) (G 6) (G 7) (G 10) nC nD nT nu a va b vb w = (0, F 2, F 5, G 2, G 3, G 4, G 5, G 6, G 7, G 10) := by unfold mr_X_term; rw [num_eq, if_pos c1]
    have eS : mr_M_term (E 3) (E 26) (K 6) (K 7) (K 8) (K 9) (K 10) (K 11) (K 12) nC nT nu a va b vb w = (0, 1, E 3, E 26, K 7, K 8, K 9, K 10, K 11, K 12) := by unfold mr_M_term; rw [if_pos c1]; rfl
    exact ⟨by rw [eX, eS]; rfl, fun h9 => absurd h9 (by rw [eX]; decide), fail 1 eS eT⟩
  obtain ⟨n, hn, en⟩ := num_ok c1
  have cn_ : nu.toNatClampNeg = n := by rw [en]; exact nI_clamp (by omega)
  by_cases c2 : mr_M_isValue (K 6) nC a va = 0
  · have eX : mrx_X_term (G 0) nC nD nT nu a va b vb w = 1 := by unfold mrx_X_term; rw [num_eq, if_neg c1, vq, if_pos c2]
    have eT : mr_X_term (F 2) (F 5) (G 0) (G 1) (G 2) (G 3) (G 4) (G 5) (G 6) (G 7) (G 10) nC nD nT nu a va b vb w = (0, F 2, F 5, G 2, G 3, G 4, G 5, G 6, G 7, G 10) := by unfold mr_X_term; rw [num_eq, if_neg c1, vq, if_pos c2]
    have eS : mr_M_term (E 3) (E 26) (K 6) (K 7) (K 8) (K 9) (K 10) (K 11) (K 12) nC nT nu a va b vb w = (0, 1, E 3, E 26, K 7, K 8, K 9, K 10, K 11, K 12) := by unfold mr_M_term; rw [if_neg c1, if_pos c2]; rfl
    exact ⟨by rw [eX, eS]; rfl, fun h9 => absurd h9 (by rw [eX]; decide), fail 1 eS eT⟩
  obtain ⟨⟨xa, hxa, ea⟩, hva⟩ := val_ok hC h6 c2
  have ca : a.toNatClampNeg = xa := by rw [ea]; exact nI_clamp (by omega)
  have ct6 : (G 6 n).toNatClampNeg = ct (K 7) n nT := by rw [h.2.1.2.1 n hn]; exact nI_clamp (by have := ct_le (K 7) n nT; omega)
  -- behind the tests of the choices both go the same way
  have gate : (b = -1 ∨ ¬ b = -1 ∧ ¬ mr_M_isValue (K 6) nC b vb = 0) →
      mrx_X_term (G 0) nC nD nT nu a va b vb w = (if a = b then 2 else (if w < -1000000 then 2 else (if w ≤ 1000000 then (if nI nT < 100 then 0 else 3) else 2)) : Int32) ∧
      mr_X_term (F 2) (F 5) (G 0) (G 1) (G 2) (G 3) (G 4) (G 5) (G 6) (G 7) (G 10) nC nD nT nu a va b vb w = (if a = b then (0, F 2, F 5, G 2, G 3, G 4, G 5, G 6, G 7, G 10) else (if w < -1000000 then (0, F 2, F 5, G 2, G 3, G 4, G 5, G 6, G 7, G 10) else (if w ≤ 1000000 then (if nI nT < 100 then (nI (nT + 1), nI (nT + 1), 0, upd (G 2) (n * 100 + ct (K 7) n nT) a, upd (G 3) (n * 100 + ct (K 7) n nT) va, upd (G 4) (n * 100 + ct (K 7) n nT) b, upd (G 5) (n * 100 + ct (K 7) n nT) vb, upd (G 6) n (nI (ct (K 7) n nT + 1)), upd (G 7) (n * 100 + ct (K 7) n nT) w, lf_Bo_addTerm_60 (G 0) (G 1) nD nT n (ct (K 7) n nT) xa va b vb w (upd (G 2) (n * 100 + ct (K 7) n nT) a) (upd (G 3) (n * 100 + ct (K 7) n nT) va) (upd (G 4) (n * 100 + ct (K 7) n nT) b) (upd (G 5) (n * 100 + ct (K 7) n nT) vb) (G 10) nD) else (0, F 2, F 5, G 2, G 3, G 4, G 5, G 6, G 7, G 10)) else (0, F 2, F 5, G 2, G 3, G 4, G 5, G 6, G 7, G 10)))) ∧
      mr_M_term (E 3) (E 26) (K 6) (K 7) (K 8) (K 9) (K 10) (K 11) (K 12) nC nT nu a va b vb w = (if a = b then (0, 2, E 3, E 26, K 7, K 8, K 9, K 10, K 11, K 12) else (if mr_M_within w (-1000000) 1000000 = 0 then (0, 2, E 3, E 26, K 7, K 8, K 9, K 10, K 11, K 12) else (if nI nT = 100 then (0, 3, E 3, E 26, K 7, K 8, K 9, K 10, K 11, K 12) else (nI (nT + 1), 0, nI (nT + 1), 0, upd (K 7) nT nu, upd (K 8) nT a, upd (K 9) nT va, upd (K 10) nT b, upd (K 11) nT vb, upd (K 12) nT w)))) := by
    rintro (hb | ⟨hb, hvb⟩)
    · refine ⟨?_, ?_, ?_⟩
      · unfold mrx_X_term; rw [num_eq, if_neg c1, vq, if_neg c2, if_pos hb, if_neg (by decide)]
      · unfold mr_X_term; rw [num_eq, if_neg c1, vq, if_neg c2, if_pos hb, if_neg (by decide), cn_, ct6, ca]; unfold mr_Bo_addTerm mr_Ma_put mr_Fr_forget; rw [← ea]
      · unfold mr_M_term; rw [if_neg c1, if_neg c2, if_pos hb]; rfl
    · refine ⟨?_, ?_, ?_⟩
      · unfold mrx_X_term; rw [num_eq, if_neg c1, vq, if_neg c2, if_neg hb, if_pos rfl, vq, if_neg hvb]
      · unfold mr_X_term; rw [num_eq, if_neg c1, vq, if_neg c2, if_neg hb, if_pos rfl, vq, if_neg hvb, cn_, ct6, ca]; unfold mr_Bo_addTerm mr_Ma_put mr_Fr_forget; rw [← ea]
      · unfold mr_M_term; rw [if_neg c1, if_neg c2, if_neg hb, if_neg hvb]; rfl
  have rest : (b = -1 ∨ ¬ b = -1 ∧ ¬ mr_M_isValue (K 6) nC b vb = 0) → (mr_M_term (E 3) (E 26) (K 6) (K 7) (K 8) (K 9) (K 10) (K 11) (K 12) nC nT nu a va b vb w).2.1 = (if mrx_X_term (G 0) nC nD nT nu a va b vb w = 0 then 0 else if mrx_X_term (G 0) nC nD nT nu a va b vb w = 1 then 1 else if mrx_X_term (G 0) nC nD nT nu a va b vb w = 2 then 2 else 3 : Int32) ∧ (mrx_X_term (G 0) nC nD nT nu a va b vb w = 0 → (mr_X_term (F 2) (F 5) (G 0) (G 1) (G 2) (G 3) (G 4) (G 5) (G 6) (G 7) (G 10) nC nD nT nu a va b vb w).1 = (mr_M_term (E 3) (E 26) (K 6) (K 7) (K 8) (K 9) (K 10) (K 11) (K 12) nC nT nu a va b vb w).1) ∧ cX (upd (upd F 2 ((mr_X_term (F 2) (F 5) (G 0) (G 1) (G 2) (G 3) (G 4) (G 5) (G 6) (G 7) (G 10) nC nD nT nu a va b vb w).2.1)) 5 ((mr_X_term (F 2) (F 5) (G 0) (G 1) (G 2) (G 3) (G 4) (G 5) (G 6) (G 7) (G 10) nC nD nT nu a va b vb w).2.2.1)) (va_up (va_up (va_up (va_up (va_up (va_up (va_up G 2 ((mr_X_term (F 2) (F 5) (G 0) (G 1) (G 2) (G 3) (G 4) (G 5) (G 6) (G 7) (G 10) nC nD nT nu a va b vb w).2.2.2.1)) 3 ((mr_X_term (F 2) (F 5) (G 0) (G 1) (G 2) (G 3) (G 4) (G 5) (G 6) (G 7) (G 10) nC nD nT nu a va b vb w).2.2.2.2.1)) 4 ((mr_X_term (F 2) (F 5) (G 0) (G 1) (G 2) (G 3) (G 4) (G 5) (G 6) (G 7) (G 10) nC nD nT nu a va b vb w).2.2.2.2.2.1)) 5 ((mr_X_term (F 2) (F 5) (G 0) (G 1) (G 2) (G 3) (G 4) (G 5) (G 6) (G 7) (G 10) nC nD nT nu a va b vb w).2.2.2.2.2.2.1)) 6 ((mr_X_term (F 2) (F 5) (G 0) (G 1) (G 2) (G 3) (G 4) (G 5) (G 6) (G 7) (G 10) nC nD nT nu a va b vb w).2.2.2.2.2.2.2.1)) 7 ((mr_X_term (F 2) (F 5) (G 0) (G 1) (G 2) (G 3) (G 4) (G 5) (G 6) (G 7) (G 10) nC nD nT nu a va b vb w).2.2.2.2.2.2.2.2.1)) 10 ((mr_X_term (F 2) (F 5) (G 0) (G 1) (G 2) (G 3) (G 4) (G 5) (G 6) (G 7) (G 10) nC nD nT nu a va b vb w).2.2.2.2.2.2.2.2.2)) (upd (upd (upd E 0 ((mr_M_term (E 3) (E 26) (K 6) (K 7) (K 8) (K 9) (K 10) (K 11) (K 12) nC nT nu a va b vb w).2.1)) 3 ((mr_M_term (E 3) (E 26) (K 6) (K 7) (K 8) (K 9) (K 10) (K 11) (K 12) nC nT nu a va b vb w).2.2.1)) 26 ((mr_M_term (E 3) (E 26) (K 6) (K 7) (K 8) (K 9) (K 10) (K 11) (K 12) nC nT nu a va b vb w).2.2.2.1)) (va_up (va_up (va_up (va_up (va_up (va_up K 7 ((mr_M_term (E 3) (E 26) (K 6) (K 7) (K 8) (K 9) (K 10) (K 11) (K 12) nC nT nu a va b vb w).2.2.2.2.1)) 8 ((mr_M_term (E 3) (E 26) (K 6) (K 7) (K 8) (K 9) (K 10) (K 11) (K 12) nC nT nu a va b vb w).2.2.2.2.2.1)) 9 ((mr_M_term (E 3) (E 26) (K 6) (K 7) (K 8) (K 9) (K 10) (K 11) (K 12) nC nT nu a va b vb w).2.2.2.2.2.2.1)) 10 ((mr_M_term (E 3) (E 26) (K 6) (K 7) (K 8) (K 9) (K 10) (K 11) (K 12) nC nT nu a va b vb w).2.2.2.2.2.2.2.1)) 11 ((mr_M_term (E 3) (E 26) (K 6) (K 7) (K 8) (K 9) (K 10) (K 11) (K 12) nC nT nu a va b vb w).2.2.2.2.2.2.2.2.1)) 12 ((mr_M_term (E 3) (E 26) (K 6) (K 7) (K 8) (K 9) (K 10) (K 11) (K 12) nC nT nu a va b vb w).2.2.2.2.2.2.2.2.2)) := fun hb => by
    obtain ⟨eX, eT, eS⟩ := gate hb
    by_cases c3 : a = b
    · rw [if_pos c3] at eX eT eS
      exact ⟨by rw [eX, eS]; rfl, fun h9 => absurd h9 (by rw [eX]; decide), fail 2 eS eT⟩
    rw [if_neg c3] at eX eT eS
    by_cases c4 : w < -1000000
    · have w4 : mr_M_within w (-1000000) 1000000 = 0 := by unfold mr_M_within; rw [if_pos c4]
      rw [if_pos c4] at eX eT
      rw [if_pos w4] at eS
      exact ⟨by rw [eX, eS]; rfl, fun h9 => absurd h9 (by rw [eX]; decide), fail 2 eS eT⟩
    rw [if_neg c4] at eX eT
    by_cases c5 : w ≤ 1000000
    · have w5 : ¬ mr_M_within w (-1000000) 1000000 = 0 := by unfold mr_M_within; rw [if_neg c4, if_neg (Int32.not_lt.mpr c5)]; decide
      rw [if_pos c5] at eX eT
      rw [if_neg w5] at eS
      by_cases c6 : nT = 100
      · rw [if_neg (show ¬ nI nT < 100 by rw [c6]; decide)] at eX eT
        rw [if_pos (show nI nT = 100 by rw [c6]; rfl)] at eS
        exact ⟨by rw [eX, eS]; rfl, fun h9 => absurd h9 (by rw [eX]; decide), fail 3 eS eT⟩
      · have l6 : nI nT < 100 := nI_lt (b := 100) (by omega) (by decide)
        rw [if_pos l6] at eX eT
        rw [if_neg (show ¬ nI nT = 100 from fun h9 => c6 ((nI_eq (a := nT) (b := 100) (by omega) (by decide)).mp h9))] at eS
        rw [eX, eT, eS]
        refine ⟨rfl, fun _ => rfl, nC, nT + 1, nR, nD, sz, pl, ?_⟩
        obtain ⟨t1, t2, t3, t4, t5, t6, t7⟩ := h.2.1
        have hctn := ct_le (K 7) n nT
        have hb' : b = -1 ∨ ∃ x : Nat, x < nC ∧ b = nI x := by
          rcases hb with hb | ⟨-, hb⟩
          · exact Or.inl hb
          · exact Or.inr (val_ok hC h6 hb).1
        have g1 := tm_new (a := a) (va := va) (b := b) (vb := vb) (w := w) (by omega) hn t1
        rw [← en] at g1
        have g2 : ∀ m, m < 4 → upd (G 6) n (nI (ct (K 7) n nT + 1)) m = nI (ct (upd (K 7) nT nu) m (nT + 1)) := fun m hm => by
          rw [ct, ct_upd nT (Nat.le_refl _), pk_us, en]
          by_cases e : m = n
          · rw [e, pk_us, if_pos rfl]
          · rw [pk_un e, if_neg (fun h9 => e ((nI_eq (by omega) (by omega)).mp h9).symm)]; exact t2 m hm
        have g3 : ∀ t, t < nT + 1 → slR nC (upd (K 8) nT a t) (upd (K 9) nT va t) (upd (K 10) nT b t) (upd (K 11) nT vb t) := fun t ht => by
          by_cases e : t = nT
          · rw [e, pk_us, pk_us, pk_us, pk_us]
            refine ⟨⟨xa, hxa, ea⟩, hva, ?_⟩
            rcases hb with hb | ⟨-, hb⟩
            · exact Or.inl hb
            · exact Or.inr (val_ok hC h6 hb)
          · rw [pk_un e, pk_un e, pk_un e, pk_un e]; exact t3 t (by omega)
        have g4 : rlR (upd (G 2) (n * 100 + ct (K 7) n nT) a) (upd (G 3) (n * 100 + ct (K 7) n nT) va) (upd (G 4) (n * 100 + ct (K 7) n nT) b) (upd (G 5) (n * 100 + ct (K 7) n nT) vb) (K 13) (K 14) (K 15) (K 16) nR := fun j hj => by
          rw [pk_un (by omega), pk_un (by omega), pk_un (by omega), pk_un (by omega)]; exact t4 j hj
        have g5 : ∀ s, s < 440 → ∃ x : Nat, x < 8 ∧ upd (G 2) (n * 100 + ct (K 7) n nT) a s = nI x := fun s hs => by
          by_cases e : s = n * 100 + ct (K 7) n nT
          · rw [e, pk_us]; exact ⟨xa, by omega, ea⟩
          · rw [pk_un e]; exact t6 s hs
        have g6 : ∀ s, s < 440 → upd (G 4) (n * 100 + ct (K 7) n nT) b s = -1 ∨ ∃ x : Nat, x < 8 ∧ upd (G 4) (n * 100 + ct (K 7) n nT) b s = nI x := fun s hs => by
          by_cases e : s = n * 100 + ct (K 7) n nT
          · rw [e, pk_us]; exact hb'.imp id (fun ⟨x, x1, x2⟩ => ⟨x, by omega, x2⟩)
          · rw [pk_un e]; exact t7 s hs
        have g7 : ∀ d k, d < nD → k < 4 → lf_Bo_addTerm_60 (G 0) (G 1) nD nT n (ct (K 7) n nT) xa va b vb w (upd (G 2) (n * 100 + ct (K 7) n nT) a) (upd (G 3) (n * 100 + ct (K 7) n nT) va) (upd (G 4) (n * 100 + ct (K 7) n nT) b) (upd (G 5) (n * 100 + ct (K 7) n nT) vb) (G 10) nD (d * 4 + k) = sNum (K 6) (upd (K 7) nT nu) (upd (K 8) nT a) (upd (K 9) nT va) (upd (K 10) nT b) (upd (K 11) nT vb) (upd (K 12) nT w) nC (nT + 1) d k := fun d k hd hk => by
          obtain ⟨n1, n2⟩ := num_term (g7 := K 7) (g8 := K 8) (g9 := K 9) (g10 := K 10) (g11 := K 11) (g12 := K 12) (nT := nT) (d := d) (k := k) (nu := nu) (va := va) (vb := vb) (w := w) hC h6 ⟨xa, hxa, ea⟩ hb'
          have ft := ft_sem (vb := vb) (va := va) (g2 := upd (G 2) (n * 100 + ct (K 7) n nT) a) (g3 := upd (G 3) (n * 100 + ct (K 7) n nT) va) (g4 := upd (G 4) (n * 100 + ct (K 7) n nT) b) (g5 := upd (G 5) (n * 100 + ct (K 7) n nT) vb) hC hN s0 s1 hmp h06 hd pk_us pk_us pk_us pk_us ⟨xa, hxa, ea⟩ hb'
          rw [at_sum hn nD d k hk, cR_num h hd hk]
          by_cases q : k = n ∧ sFits (K 6) nC d a va b vb
          · rw [if_pos ⟨hd, q.1, ft.mpr q.2⟩, n1 (by rw [en, q.1]) q.2]
          · rw [if_neg (fun h9 => q ⟨h9.2.1, ft.mp h9.2.2⟩), n2 (fun h9 => q ⟨((nI_eq (by omega) (by omega)).mp (en.symm.trans h9.1)).symm, h9.2⟩)]
        generalize lf_Bo_addTerm_60 (G 0) (G 1) nD nT n (ct (K 7) n nT) xa va b vb w (upd (G 2) (n * 100 + ct (K 7) n nT) a) (upd (G 3) (n * 100 + ct (K 7) n nT) va) (upd (G 4) (n * 100 + ct (K 7) n nT) b) (upd (G 5) (n * 100 + ct (K 7) n nT) vb) (G 10) nD = a10 at g7 ⊢
        generalize upd (G 2) (n * 100 + ct (K 7) n nT) a = a2 at g1 g4 g5 ⊢
        generalize upd (G 3) (n * 100 + ct (K 7) n nT) va = a3 at g1 g4 ⊢
        generalize upd (G 4) (n * 100 + ct (K 7) n nT) b = a4 at g1 g4 g6 ⊢
        generalize upd (G 5) (n * 100 + ct (K 7) n nT) vb = a5 at g1 g4 ⊢
        generalize upd (G 7) (n * 100 + ct (K 7) n nT) w = a7 at g1 ⊢
        generalize upd (G 6) n (nI (ct (K 7) n nT + 1)) = a6 at g2 ⊢
        generalize upd (K 7) nT nu = m7 at g1 g2 g7 ⊢
        generalize upd (K 8) nT a = m8 at g1 g3 g7 ⊢
        generalize upd (K 9) nT va = m9 at g1 g3 g7 ⊢
        generalize upd (K 10) nT b = m10 at g1 g3 g7 ⊢
        generalize upd (K 11) nT vb = m11 at g1 g3 g7 ⊢
        generalize upd (K 12) nT w = m12 at g1 g7 ⊢
        unfold cR
        simp (config := { decide := true }) only [upd_if, vup_if, ↓reduceIte]
        exact ⟨⟨h.1.1, h.1.2.1, ⟨rfl, rfl, by omega⟩, h.1.2.2.2⟩, ⟨g1, g2, g3, g4, t5, g5, g6⟩, h.2.2.1, ⟨g7, h.2.2.2.1.2⟩, ⟨fun h9 => absurd rfl h9, h27⟩, ⟨k4, hsz, fun h9 => absurd rfl h9⟩, h.2.2.2.2.2.2⟩
    · have w5 : mr_M_within w (-1000000) 1000000 = 0 := by unfold mr_M_within; rw [if_neg c4, if_pos (Int32.not_le.mp c5)]
      rw [if_neg c5] at eX eT
      rw [if_pos w5] at eS
      exact ⟨by rw [eX, eS]; rfl, fun h9 => absurd h9 (by rw [eX]; decide), fail 2 eS eT⟩
  by_cases cb : b = -1
  · exact rest (Or.inl cb)
  by_cases cv : mr_M_isValue (K 6) nC b vb = 0
  · have eX : mrx_X_term (G 0) nC nD nT nu a va b vb w = 1 := by unfold mrx_X_term; rw [num_eq, if_neg c1, vq, if_neg c2, if_neg cb, if_pos rfl, vq, if_pos cv]
    have eT : mr_X_term (F 2) (F 5) (G 0) (G 1) (G 2) (G 3) (G 4) (G 5) (G 6) (G 7) (G 10) nC nD nT nu a va b vb w = (0, F 2, F 5, G 2, G 3, G 4, G 5, G 6, G 7, G 10) := by unfold mr_X_term; rw [num_eq, if_neg c1, vq, if_neg c2, if_neg cb, if_pos rfl, vq, if_pos cv]
    have eS : mr_M_term (E 3) (E 26) (K 6) (K 7) (K 8) (K 9) (K 10) (K 11) (K 12) nC nT nu a va b vb w = (0, 1, E 3, E 26, K 7, K 8, K 9, K 10, K 11, K 12) := by unfold mr_M_term; rw [if_neg c1, if_neg c2, if_neg cb, if_pos cv]; rfl
    exact ⟨by rw [eX, eS]; rfl, fun h9 => absurd h9 (by rw [eX]; decide), fail 1 eS eT⟩
  · exact rest (Or.inr ⟨cb, cv⟩)
set_option maxHeartbeats 4000000 in
theorem R_rule {F E : Nat → Int32} {G K : Nat → Nat → Int32} {nC nT nR nD sz pl : Nat} (h : cR F G E K nC nT nR nD sz pl) (a : Int32) (va : Int32) (b : Int32) (vb : Int32) : (mr_M_rule (E 4) (E 26) (K 6) (K 13) (K 14) (K 15) (K 16) nC nR a va b vb).2.1 = (if mrx_X_rule (G 0) nC nD nR a va b vb = 0 then 0 else if mrx_X_rule (G 0) nC nD nR a va b vb = 1 then 1 else if mrx_X_rule (G 0) nC nD nR a va b vb = 2 then 2 else 3 : Int32) ∧ (mrx_X_rule (G 0) nC nD nR a va b vb = 0 → (mr_X_rule (F 3) (F 5) (G 0) (G 1) (G 2) (G 3) (G 4) (G 5) (G 11) nC nD nR a va b vb).1 = (mr_M_rule (E 4) (E 26) (K 6) (K 13) (K 14) (K 15) (K 16) nC nR a va b vb).1) ∧ cX (upd (upd F 3 ((mr_X_rule (F 3) (F 5) (G 0) (G 1) (G 2) (G 3) (G 4) (G 5) (G 11) nC nD nR a va b vb).2.1)) 5 ((mr_X_rule (F 3) (F 5) (G 0) (G 1) (G 2) (G 3) (G 4) (G 5) (G 11) nC nD nR a va b vb).2.2.1)) (va_up (va_up (va_up (va_up (va_up G 2 ((mr_X_rule (F 3) (F 5) (G 0) (G 1) (G 2) (G 3) (G 4) (G 5) (G 11) nC nD nR a va b vb).2.2.2.1)) 3 ((mr_X_rule (F 3) (F 5) (G 0) (G 1) (G 2) (G 3) (G 4) (G 5) (G 11) nC nD nR a va b vb).2.2.2.2.1)) 4 ((mr_X_rule (F 3) (F 5) (G 0) (G 1) (G 2) (G 3) (G 4) (G 5) (G 11) nC nD nR a va b vb).2.2.2.2.2.1)) 5 ((mr_X_rule (F 3) (F 5) (G 0) (G 1) (G 2) (G 3) (G 4) (G 5) (G 11) nC nD nR a va b vb).2.2.2.2.2.2.1)) 11 ((mr_X_rule (F 3) (F 5) (G 0) (G 1) (G 2) (G 3) (G 4) (G 5) (G 11) nC nD nR a va b vb).2.2.2.2.2.2.2)) (upd (upd (upd E 0 ((mr_M_rule (E 4) (E 26) (K 6) (K 13) (K 14) (K 15) (K 16) nC nR a va b vb).2.1)) 4 ((mr_M_rule (E 4) (E 26) (K 6) (K 13) (K 14) (K 15) (K 16) nC nR a va b vb).2.2.1)) 26 ((mr_M_rule (E 4) (E 26) (K 6) (K 13) (K 14) (K 15) (K 16) nC nR a va b vb).2.2.2.1)) (va_up (va_up (va_up (va_up K 13 ((mr_M_rule (E 4) (E 26) (K 6) (K 13) (K 14) (K 15) (K 16) nC nR a va b vb).2.2.2.2.1)) 14 ((mr_M_rule (E 4) (E 26) (K 6) (K 13) (K 14) (K 15) (K 16) nC nR a va b vb).2.2.2.2.2.1)) 15 ((mr_M_rule (E 4) (E 26) (K 6) (K 13) (K 14) (K 15) (K 16) nC nR a va b vb).2.2.2.2.2.2.1)) 16 ((mr_M_rule (E 4) (E 26) (K 6) (K 13) (K 14) (K 15) (K 16) nC nR a va b vb).2.2.2.2.2.2.2)) := by
  obtain ⟨h2, hC, h3, hT, h4, hR, h5, hN, h6, h8, h10, h13, h15, h17, h27, h24, hpl, hmp6⟩ := cR_ref h
  obtain ⟨k0, k1, k2, k3, k4, hsz, k13, s0, s1, hmp, mA, mB, mQ, mQT, z8, z11, hD1⟩ := cR_cls h
  have h06 := h.1.2.2.2.2.2.2.1
  have fail : ∀ t : Int32, mr_M_rule (E 4) (E 26) (K 6) (K 13) (K 14) (K 15) (K 16) nC nR a va b vb = (0, t, E 4, E 26, K 13, K 14, K 15, K 16) → mr_X_rule (F 3) (F 5) (G 0) (G 1) (G 2) (G 3) (G 4) (G 5) (G 11) nC nD nR a va b vb = (0, F 3, F 5, G 2, G 3, G 4, G 5, G 11) → cX (upd (upd F 3 ((mr_X_rule (F 3) (F 5) (G 0) (G 1) (G 2) (G 3) (G 4) (G 5) (G 11) nC nD nR a va b vb).2.1)) 5 ((mr_X_rule (F 3) (F 5) (G 0) (G 1) (G 2) (G 3) (G 4) (G 5) (G 11) nC nD nR a va b vb).2.2.1)) (va_up (va_up (va_up (va_up (va_up G 2 ((mr_X_rule (F 3) (F 5) (G 0) (G 1) (G 2) (G 3) (G 4) (G 5) (G 11) nC nD nR a va b vb).2.2.2.1)) 3 ((mr_X_rule (F 3) (F 5) (G 0) (G 1) (G 2) (G 3) (G 4) (G 5) (G 11) nC nD nR a va b vb).2.2.2.2.1)) 4 ((mr_X_rule (F 3) (F 5) (G 0) (G 1) (G 2) (G 3) (G 4) (G 5) (G 11) nC nD nR a va b vb).2.2.2.2.2.1)) 5 ((mr_X_rule (F 3) (F 5) (G 0) (G 1) (G 2) (G 3) (G 4) (G 5) (G 11) nC nD nR a va b vb).2.2.2.2.2.2.1)) 11 ((mr_X_rule (F 3) (F 5) (G 0) (G 1) (G 2) (G 3) (G 4) (G 5) (G 11) nC nD nR a va b vb).2.2.2.2.2.2.2)) (upd (upd (upd E 0 ((mr_M_rule (E 4) (E 26) (K 6) (K 13) (K 14) (K 15) (K 16) nC nR a va b vb).2.1)) 4 ((mr_M_rule (E 4) (E 26) (K 6) (K 13) (K 14) (K 15) (K 16) nC nR a va b vb).2.2.1)) 26 ((mr_M_rule (E 4) (E 26) (K 6) (K 13) (K 14) (K 15) (K 16) nC nR a va b vb).2.2.2.1)) (va_up (va_up (va_up (va_up K 13 ((mr_M_rule (E 4) (E 26) (K 6) (K 13) (K 14) (K 15) (K 16) nC nR a va b vb).2.2.2.2.1)) 14 ((mr_M_rule (E 4) (E 26) (K 6) (K 13) (K 14) (K 15) (K 16) nC nR a va b vb).2.2.2.2.2.1)) 15 ((mr_M_rule (E 4) (E 26) (K 6) (K 13) (K 14) (K 15) (K 16) nC nR a va b vb).2.2.2.2.2.2.1)) 16 ((mr_M_rule (E 4) (E 26) (K 6) (K 13) (K 14) (K 15) (K 16) nC nR a va b vb).2.2.2.2.2.2.2)) := fun t eS eT => by
    rw [eT, eS]
    refine ⟨nC, nT, nR, nD, sz, pl, ?_⟩
    unfold cR
    simp (config := { decide := true }) only [upd_if, vup_if, ↓reduceIte]
    exact h
  have vq := val_eq (k6 := K 6) hC s0 h06
  by_cases c1 : mr_M_isValue (K 6) nC a va = 0
  · have eX : mrx_X_rule (G 0) nC nD nR a va b vb = 1 := by unfold mrx_X_rule; rw [vq, if_pos c1]
    have eT : mr_X_rule (F 3) (F 5) (G 0) (G 1) (G 2) (G 3) (G 4) (G 5) (G 11) nC nD nR a va b vb = (0, F 3, F 5, G 2, G 3, G 4, G 5, G 11) := by unfold mr_X_rule; rw [vq, if_pos c1]
    have eS : mr_M_rule (E 4) (E 26) (K 6) (K 13) (K 14) (K 15) (K 16) nC nR a va b vb = (0, 1, E 4, E 26, K 13, K 14, K 15, K 16) := by unfold mr_M_rule; rw [if_pos c1]; rfl
    exact ⟨by rw [eX, eS]; rfl, fun h9 => absurd h9 (by rw [eX]; decide), fail 1 eS eT⟩
  obtain ⟨⟨xa, hxa, ea⟩, hva⟩ := val_ok hC h6 c1
  have ca : a.toNatClampNeg = xa := by rw [ea]; exact nI_clamp (by omega)
  by_cases c2 : mr_M_isValue (K 6) nC b vb = 0
  · have eX : mrx_X_rule (G 0) nC nD nR a va b vb = 1 := by unfold mrx_X_rule; rw [vq, if_neg c1, vq, if_pos c2]
    have eT : mr_X_rule (F 3) (F 5) (G 0) (G 1) (G 2) (G 3) (G 4) (G 5) (G 11) nC nD nR a va b vb = (0, F 3, F 5, G 2, G 3, G 4, G 5, G 11) := by unfold mr_X_rule; rw [vq, if_neg c1, vq, if_pos c2]
    have eS : mr_M_rule (E 4) (E 26) (K 6) (K 13) (K 14) (K 15) (K 16) nC nR a va b vb = (0, 1, E 4, E 26, K 13, K 14, K 15, K 16) := by unfold mr_M_rule; rw [if_neg c1, if_pos c2]; rfl
    exact ⟨by rw [eX, eS]; rfl, fun h9 => absurd h9 (by rw [eX]; decide), fail 1 eS eT⟩
  obtain ⟨⟨xb, hxb, eb⟩, hvb⟩ := val_ok hC h6 c2
  have cb : b.toNatClampNeg = xb := by rw [eb]; exact nI_clamp (by omega)
  by_cases c3 : a = b
  · have eX : mrx_X_rule (G 0) nC nD nR a va b vb = 2 := by unfold mrx_X_rule; rw [vq, if_neg c1, vq, if_neg c2, if_pos c3]
    have eT : mr_X_rule (F 3) (F 5) (G 0) (G 1) (G 2) (G 3) (G 4) (G 5) (G 11) nC nD nR a va b vb = (0, F 3, F 5, G 2, G 3, G 4, G 5, G 11) := by unfold mr_X_rule; rw [vq, if_neg c1, vq, if_neg c2, if_pos c3]
    have eS : mr_M_rule (E 4) (E 26) (K 6) (K 13) (K 14) (K 15) (K 16) nC nR a va b vb = (0, 2, E 4, E 26, K 13, K 14, K 15, K 16) := by unfold mr_M_rule; rw [if_neg c1, if_neg c2, if_pos c3]; rfl
    exact ⟨by rw [eX, eS]; rfl, fun h9 => absurd h9 (by rw [eX]; decide), fail 2 eS eT⟩
  by_cases c4 : nR = 40
  · have l4 : ¬ nI nR < 40 := by rw [c4]; decide
    have eX : mrx_X_rule (G 0) nC nD nR a va b vb = 3 := by unfold mrx_X_rule; rw [vq, if_neg c1, vq, if_neg c2, if_neg c3, if_neg l4]
    have eT : mr_X_rule (F 3) (F 5) (G 0) (G 1) (G 2) (G 3) (G 4) (G 5) (G 11) nC nD nR a va b vb = (0, F 3, F 5, G 2, G 3, G 4, G 5, G 11) := by unfold mr_X_rule; rw [vq, if_neg c1, vq, if_neg c2, if_neg c3, if_neg l4]
    have eS : mr_M_rule (E 4) (E 26) (K 6) (K 13) (K 14) (K 15) (K 16) nC nR a va b vb = (0, 3, E 4, E 26, K 13, K 14, K 15, K 16) := by unfold mr_M_rule; rw [if_neg c1, if_neg c2, if_neg c3, if_pos (show nI nR = 40 by rw [c4]; rfl)]; rfl
    exact ⟨by rw [eX, eS]; rfl, fun h9 => absurd h9 (by rw [eX]; decide), fail 3 eS eT⟩
  have l4 : nI nR < 40 := nI_lt (b := 40) (by omega) (by decide)
  have eX : mrx_X_rule (G 0) nC nD nR a va b vb = 0 := by unfold mrx_X_rule; rw [vq, if_neg c1, vq, if_neg c2, if_neg c3, if_pos l4]
  have eT : mr_X_rule (F 3) (F 5) (G 0) (G 1) (G 2) (G 3) (G 4) (G 5) (G 11) nC nD nR a va b vb = (nI (nR + 1), nI (nR + 1), 0, upd (G 2) (400 + nR) a, upd (G 3) (400 + nR) va, upd (G 4) (400 + nR) b, upd (G 5) (400 + nR) vb, lf_Bo_addRule_37 (G 0) (G 1) nD nR xa xb va vb (upd (G 2) (400 + nR) a) (upd (G 3) (400 + nR) va) (upd (G 4) (400 + nR) b) (upd (G 5) (400 + nR) vb) (G 11) nD) := by unfold mr_X_rule; rw [vq, if_neg c1, vq, if_neg c2, if_neg c3, if_pos l4, ca, cb]; unfold mr_Bo_addRule mr_Ma_put mr_Fr_forget; rw [← ea, ← eb]
  have eS : mr_M_rule (E 4) (E 26) (K 6) (K 13) (K 14) (K 15) (K 16) nC nR a va b vb = (nI (nR + 1), 0, nI (nR + 1), 0, upd (K 13) nR a, upd (K 14) nR va, upd (K 15) nR b, upd (K 16) nR vb) := by unfold mr_M_rule; rw [if_neg c1, if_neg c2, if_neg c3, if_neg (show ¬ nI nR = 40 from fun h9 => c4 ((nI_eq (a := nR) (b := 40) (by omega) (by decide)).mp h9))]
  rw [eX, eT, eS]
  refine ⟨rfl, fun _ => rfl, nC, nT, nR + 1, nD, sz, pl, ?_⟩
  obtain ⟨t1, t2, t3, t4, t5, t6, t7⟩ := h.2.1
  have g1 : tmR (upd (G 2) (400 + nR) a) (upd (G 3) (400 + nR) va) (upd (G 4) (400 + nR) b) (upd (G 5) (400 + nR) vb) (G 7) (K 7) (K 8) (K 9) (K 10) (K 11) (K 12) nT := fun t m ht hm e => by
    have := ct_le (K 7) m t
    rw [pk_un (by omega), pk_un (by omega), pk_un (by omega), pk_un (by omega)]
    exact t1 t m ht hm e
  have g2 : rlR (upd (G 2) (400 + nR) a) (upd (G 3) (400 + nR) va) (upd (G 4) (400 + nR) b) (upd (G 5) (400 + nR) vb) (upd (K 13) nR a) (upd (K 14) nR va) (upd (K 15) nR b) (upd (K 16) nR vb) (nR + 1) := fun j hj => by
    by_cases e : j = nR
    · subst e
      rw [pk_us, pk_us, pk_us, pk_us, pk_us, pk_us, pk_us, pk_us]; exact ⟨rfl, rfl, rfl, rfl⟩
    · have e' : 400 + j ≠ 400 + nR := by omega
      rw [pk_un e', pk_un e', pk_un e', pk_un e', pk_un e, pk_un e, pk_un e, pk_un e]; exact t4 j (by omega)
  have g3 : ∀ j, j < nR + 1 → ruR nC (upd (K 13) nR a j) (upd (K 14) nR va j) (upd (K 15) nR b j) (upd (K 16) nR vb j) := fun j hj => by
    by_cases e : j = nR
    · rw [e, pk_us, pk_us, pk_us, pk_us]; exact ⟨⟨xa, hxa, ea⟩, hva, ⟨xb, hxb, eb⟩, hvb⟩
    · rw [pk_un e, pk_un e, pk_un e, pk_un e]; exact t5 j (by omega)
  have g5 : ∀ s, s < 440 → ∃ x : Nat, x < 8 ∧ upd (G 2) (400 + nR) a s = nI x := fun s hs => by
    by_cases e : s = 400 + nR
    · rw [e, pk_us]; exact ⟨xa, by omega, ea⟩
    · rw [pk_un e]; exact t6 s hs
  have g6 : ∀ s, s < 440 → upd (G 4) (400 + nR) b s = -1 ∨ ∃ x : Nat, x < 8 ∧ upd (G 4) (400 + nR) b s = nI x := fun s hs => by
    by_cases e : s = 400 + nR
    · rw [e, pk_us]; exact Or.inr ⟨xb, by omega, eb⟩
    · rw [pk_un e]; exact t7 s hs
  have ftd : ∀ d, d < nD → (¬ mr_Ma_fits (G 0) (G 1) (upd (G 2) (400 + nR) a) (upd (G 3) (400 + nR) va) (upd (G 4) (400 + nR) b) (upd (G 5) (400 + nR) vb) (400 + nR) (nI d) = 0 ↔ rowD (K 6) nC d nC a.toNatClampNeg = va ∧ rowD (K 6) nC d nC b.toNatClampNeg = vb) := fun d hd => by
    have ft := ft_sem (vb := vb) (va := va) (g2 := upd (G 2) (400 + nR) a) (g3 := upd (G 3) (400 + nR) va) (g4 := upd (G 4) (400 + nR) b) (g5 := upd (G 5) (400 + nR) vb) hC hN s0 s1 hmp h06 hd pk_us pk_us pk_us pk_us ⟨xa, hxa, ea⟩ (Or.inr ⟨xb, hxb, eb⟩)
    rw [ft]
    unfold sFits
    have nb : ¬ b < 0 := by rw [eb]; exact nI_pos (by omega)
    exact ⟨fun q => ⟨q.1, q.2.resolve_left nb⟩, fun q => ⟨q.1, Or.inr q.2⟩⟩
  have g7 : ∀ d, d < nD → (lf_Bo_addRule_37 (G 0) (G 1) nD nR xa xb va vb (upd (G 2) (400 + nR) a) (upd (G 3) (400 + nR) va) (upd (G 4) (400 + nR) b) (upd (G 5) (400 + nR) vb) (G 11) nD d = 0 ↔ mr_M_isBarred (upd (K 13) nR a) (upd (K 14) nR va) (upd (K 15) nR b) (upd (K 16) nR vb) (rowD (K 6) nC d nC) nC (nR + 1) = 0) := fun d hd => by
    have old := (h.2.2.2.1.2.1 d hd).trans (bar_lf (nC := nC) (nR := nR) nR)
    have new := bar_lf (g13 := upd (K 13) nR a) (g14 := upd (K 14) nR va) (g15 := upd (K 15) nR b) (g16 := upd (K 16) nR vb) (q := rowD (K 6) nC d nC) (nC := nC) (nR := nR + 1) (nR + 1)
    refine Iff.trans ?_ new.symm
    rw [ar_bar nD d]
    by_cases q : rowD (K 6) nC d nC a.toNatClampNeg = va ∧ rowD (K 6) nC d nC b.toNatClampNeg = vb
    · rw [if_pos ⟨hd, (ftd d hd).mpr q⟩]
      refine ⟨fun h9 => absurd h9 (by decide), fun h9 => absurd ?_ (h9 nR (Nat.lt_succ_self _))⟩
      rw [pk_us, pk_us, pk_us, pk_us]; exact q
    · rw [if_neg (fun h9 => q ((ftd d hd).mp h9.2))]
      refine old.trans ⟨fun h9 j hj => ?_, fun h9 j hj => ?_⟩
      · by_cases e : j = nR
        · rw [e, pk_us, pk_us, pk_us, pk_us]; exact q
        · rw [pk_un e, pk_un e, pk_un e, pk_un e]; exact h9 j (by omega)
      · have := h9 j (by omega)
        rw [pk_un (by omega), pk_un (by omega), pk_un (by omega), pk_un (by omega)] at this
        exact this
  have g8 : ∀ j, lf_Bo_addRule_37 (G 0) (G 1) nD nR xa xb va vb (upd (G 2) (400 + nR) a) (upd (G 3) (400 + nR) va) (upd (G 4) (400 + nR) b) (upd (G 5) (400 + nR) vb) (G 11) nD j = 0 ∨ lf_Bo_addRule_37 (G 0) (G 1) nD nR xa xb va vb (upd (G 2) (400 + nR) a) (upd (G 3) (400 + nR) va) (upd (G 4) (400 + nR) b) (upd (G 5) (400 + nR) vb) (G 11) nD j = 1 := fun j => by
    rw [ar_bar nD j]
    split
    · exact Or.inr rfl
    · exact z11 j
  generalize lf_Bo_addRule_37 (G 0) (G 1) nD nR xa xb va vb (upd (G 2) (400 + nR) a) (upd (G 3) (400 + nR) va) (upd (G 4) (400 + nR) b) (upd (G 5) (400 + nR) vb) (G 11) nD = a11 at g7 g8 ⊢
  clear ftd
  generalize upd (G 2) (400 + nR) a = a2 at g1 g2 g5 ⊢
  generalize upd (G 3) (400 + nR) va = a3 at g1 g2 ⊢
  generalize upd (G 4) (400 + nR) b = a4 at g1 g2 g6 ⊢
  generalize upd (G 5) (400 + nR) vb = a5 at g1 g2 ⊢
  generalize upd (K 13) nR a = m13 at g2 g3 g7 ⊢
  generalize upd (K 14) nR va = m14 at g2 g3 g7 ⊢
  generalize upd (K 15) nR b = m15 at g2 g3 g7 ⊢
  generalize upd (K 16) nR vb = m16 at g2 g3 g7 ⊢
  unfold cR
  simp (config := { decide := true }) only [upd_if, vup_if, ↓reduceIte]
  exact ⟨⟨h.1.1, h.1.2.1, h.1.2.2.1, ⟨rfl, rfl, by omega⟩, h.1.2.2.2.2⟩, ⟨g1, t2, t3, g2, g3, g5, g6⟩, h.2.2.1, ⟨h.2.2.2.1.1, g7, g8⟩, ⟨fun h9 => absurd rfl h9, h27⟩, ⟨k4, hsz, fun h9 => absurd rfl h9⟩, h.2.2.2.2.2.2⟩
