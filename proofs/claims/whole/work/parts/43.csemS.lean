/-! the search for the best: both loops side by side -/
theorem dg_cn {z r : Nat → Nat} : ∀ n, (∀ c, c < n → r c < z c) → ∀ c, c < n → dg z n (cn z r n) c = r c := by
  intro n
  induction n with
  | zero => intro _ c h; exact absurd h (Nat.not_lt_zero _)
  | succ n ih =>
    intro hr c hc
    have hz : r n < z n := hr n (by omega)
    rw [cn]
    by_cases e : c = n
    · rw [e, dg_last (v := z n) rfl, Nat.mul_comm, Nat.mul_add_mod]
      exact Nat.mod_eq_of_lt hz
    · rw [dg_split (z := z) (v := z n) (fun j _ => rfl) rfl (by omega), Nat.mul_comm (cn z r n), Nat.mul_add_div (by omega), Nat.div_eq_of_lt hz, Nat.add_zero]
      exact ih (fun j hj => hr j (by omega)) c (by omega)
/-- the rows behind -/
theorem nx_sim {g0 g6 r : Nat → Int32} {nC s : Nat} (hC : nC ≤ 8) (hs : s ≤ nC) (s0 : ∀ c, c < nC → ∃ z : Nat, g0 c = nI z ∧ 2 ≤ z ∧ z ≤ 6) (h06 : ∀ c, c < nC → g6 c = g0 c) (hr : ∀ c, c < s → ∃ v : Nat, r c = nI v ∧ v < zg g0 c) : ∀ (N j : Nat) (q : Nat → Int32), j < N → j ≤ s → (∀ c, c < j → q c = r c) → (∀ c, j ≤ c → c < nC → q c = -1) →
    ((lf_M_nextRow_4 g6 nC s N j q).1 = 0 ∧ (lf_Se_goBehind_4 g0 r s N j).1 = -1) ∨
    (∃ t, (lf_M_nextRow_4 g6 nC s N j q).1 = t + 1 ∧ t < s ∧ (lf_Se_goBehind_4 g0 r s N j) = (nI (t + 1), upd r t (r t + 1)) ∧ (∀ c, c < t + 1 → (lf_M_nextRow_4 g6 nC s N j q).2 c = r c) ∧ ∀ c, t + 1 ≤ c → c < nC → (lf_M_nextRow_4 g6 nC s N j q).2 c = -1) := by
  intro N
  induction N with
  | zero => intro j q h; exact absurd h (Nat.not_lt_zero _)
  | succ N ih =>
    intro j q hj hjs h1 h2
    rw [lf_M_nextRow_4, lf_Se_goBehind_4]
    by_cases c1 : nI j - 1 < 0
    · have n1 : j ≤ 0 := dn_neg (n := j) (k := 0) c1 (by omega)
      rw [if_pos c1, if_pos c1]
      exact Or.inl ⟨by show j = 0; omega, rfl⟩
    · have n1 : ¬ j ≤ 0 := dn_nneg (n := j) (k := 0) c1 (by omega)
      obtain ⟨v, ev, hv⟩ := hr (j - 1) (by omega)
      obtain ⟨z1, z2, z3⟩ := zg_ok s0 (c := j - 1) (by omega)
      have e0 := zpred z1 (by omega)
      have e6 : g6 (j - 1) = g0 (j - 1) := h06 _ (by omega)
      have eq : q (j - 1) = r (j - 1) := h1 _ (by omega)
      rw [if_neg c1, if_neg c1, eq, e6, e0, ev]
      by_cases c2 : v = zg g0 (j - 1) - 1
      · rw [if_pos (by rw [c2]), if_pos (by rw [c2]; exact Int32.le_refl _)]
        refine ih (j - 1) (upd q (j - 1) (-1)) (by omega) (by omega) (fun c hc => ?_) (fun c hc hcn => ?_)
        · rw [pk_un (by omega)]; exact h1 c (by omega)
        · by_cases e : c = j - 1
          · rw [e, pk_us]
          · rw [pk_un e]; exact h2 c (by omega) hcn
      · rw [if_neg (fun h9 => c2 ((nI_eq (by omega) (by omega)).mp h9)), if_neg (nI_ge (by omega) (by omega))]
        refine Or.inr ⟨j - 1, by show j = j - 1 + 1; omega, by omega, ?_, fun c hc => h1 c (by omega), fun c hc hcn => h2 c (by omega) hcn⟩
        rw [show j - 1 + 1 = j by omega, ev]
theorem nx_step {g0 g6 r q : Nat → Int32} {nC s : Nat} (hC : nC ≤ 8) (hs : s ≤ nC) (s0 : ∀ c, c < nC → ∃ z : Nat, g0 c = nI z ∧ 2 ≤ z ∧ z ≤ 6) (h06 : ∀ c, c < nC → g6 c = g0 c) (hR : rowR g0 r q nC s) :
    (mr_M_nextRow g6 q nC s).1 = (mr_Se_goBehind g0 r s).1 ∧ ((mr_Se_goBehind g0 r s).1 = -1 ∨ ∃ t, t < s ∧ (mr_Se_goBehind g0 r s).1 = nI (t + 1) ∧ rowR g0 (mr_Se_goBehind g0 r s).2 (mr_M_nextRow g6 q nC s).2 nC (t + 1)) := by
  have hgb := gb_ok s0 hC hs hR.1
  rcases nx_sim hC hs s0 h06 hR.1 (s + 1) s q (by omega) (Nat.le_refl _) hR.2.1 hR.2.2 with ⟨a1, a2⟩ | ⟨t, a1, a2, a3, a4, a5⟩
  · have e2 : (mr_Se_goBehind g0 r s).1 = -1 := a2
    unfold mr_M_nextRow
    rw [a1, e2, if_neg (by decide)]
    exact ⟨rfl, Or.inl rfl⟩
  · have e2 : mr_Se_goBehind g0 r s = (nI (t + 1), upd r t (r t + 1)) := a3
    have hp : 0 ≤ nI (t + 1) - 1 := by rw [nI_pred]; exact nI_pos' (by omega)
    rw [e2] at hgb ⊢
    have e3 : mr_M_nextRow g6 q nC s = (nI (t + 1), upd (lf_M_nextRow_4 g6 nC s (s + 1) s q).2 t ((lf_M_nextRow_4 g6 nC s (s + 1) s q).2 t + 1)) := by
      unfold mr_M_nextRow
      rw [a1, if_pos hp, Nat.add_sub_cancel]
    rw [e3]
    refine ⟨rfl, Or.inr ⟨t, a2, rfl, fun c hc => ?_, fun c hc => ?_, fun c hc hcn => ?_⟩⟩
    · rcases hgb with h9 | ⟨s', p1, p2, p3⟩
      · exact absurd h9 (m1_nle (by omega))
      · have : t + 1 = s' := (nI_eq (by omega) (by omega)).mp p2
        exact p3 c (by omega)
    · show upd _ t _ c = upd r t (r t + 1) c
      by_cases e : c = t
      · rw [e, pk_us, pk_us, a4 t (by omega)]
      · rw [pk_un e, pk_un e]; exact a4 c hc
    · show upd _ t _ c = -1
      rw [pk_un (by omega)]; exact a5 c hc hcn
/-- one row deeper -/
theorem dn_step {g0 r q : Nat → Int32} {nC s : Nat} (hs : s < nC) (s0 : ∀ c, c < nC → ∃ z : Nat, g0 c = nI z ∧ 2 ≤ z ∧ z ≤ 6) (hR : rowR g0 r q nC s) : rowR g0 (upd r s 0) (upd q s 0) nC (s + 1) := by
  have hz := (zg_ok s0 hs).2.1
  refine ⟨fun c hc => ?_, fun c hc => ?_, fun c hc hcn => ?_⟩
  · by_cases e : c = s
    · rw [e, pk_us]; exact ⟨0, rfl, by omega⟩
    · rw [pk_un e]; exact hR.1 c (by omega)
  · by_cases e : c = s
    · rw [e, pk_us, pk_us]
    · rw [pk_un e, pk_un e]; exact hR.2.1 c (by omega)
  · rw [pk_un (by omega)]; exact hR.2.2 c (by omega) hcn
section CSS
variable {c0 c1 c2 c3 c4 c5 c6 c7 c8 c9 c10 g6 g7 g8 g9 g10 g11 g12 g13 g14 g15 g16 g17 g18 : Nat → Int32} {nC nT nR nD : Nat}
theorem best_sim {nu : Nat} (hC : nC ≤ 8) (hN : nD ≤ 4096) (hnu : nu < 4) (s0 : ∀ c, c < nC → ∃ z : Nat, c0 c = nI z ∧ 2 ≤ z ∧ z ≤ 6) (s1 : ∀ c, c < nC → c1 c = nI (pc_ (zg c0) nC c)) (h06 : ∀ c, c < nC → g6 c = c0 c) (h6 : ∀ c, c < nC → ∃ z : Nat, g6 c = nI z ∧ 2 ≤ z ∧ z ≤ 6) (hmp : mp (zg c0) 0 nC = nD) (hmp6 : mp (zg g6) 0 nC = nD)
    (h8 : ∀ t, t < nT → ∃ x : Nat, x < nC ∧ g8 t = nI x) (h10 : ∀ t, t < nT → g10 t = -1 ∨ ∃ x : Nat, x < nC ∧ g10 t = nI x)
    (hP : ∀ (be le : Int32) (r q : Nat → Int32) (s : Nat), s ≤ nC → rowR c0 r q nC s → (mr_Bo_barsRow c2 c3 c4 c5 r nR s = 0 ↔ mr_M_isBarred g13 g14 g15 g16 q nC nR = 0) ∧ (mr_Bo_limitsRow c2 c3 c4 c5 c6 c7 c8 c9 r s = 0 ↔ mr_M_passesLimits g7 g8 g9 g10 g11 g12 g17 g18 q nC nT = 0) ∧ mr_Bo_boundOf c2 c3 c4 c5 c6 c7 r nu s = mr_M_boundOf g7 g8 g9 g10 g11 g12 q nC nT (nI nu))
    (hSum : ∀ d, d < nD → c10 (d * 4 + nu) = sNum g6 g7 g8 g9 g10 g11 g12 nC nT d nu) :
    ∀ (N1 N2 sn : Nat) (lk be le le' sx rs : Int32) (r q : Nat → Int32), bm g6 nC q sx < N1 → bm g6 nC q sx < N2 → bm g6 nC q sx + sn ≤ 8192 → 1 ≤ sn → (sx = -1 ∨ ∃ s, s ≤ nC ∧ sx = nI s ∧ rowR c0 r q nC s) → lk = nI (sn - 1) → (rs = lk ∨ (sn = 1 ∧ ¬ sx = -1)) → (be = -1 ∨ (∃ d : Nat, d < nD ∧ be = nI d) ∧ le = le') →
      (lf_Se_leastOf_9 c0 c1 c2 c3 c4 c5 c6 c7 c8 c9 c10 nC nD nR nu N2 sx sn rs be le' r).2.2.2.1 = (lf_M_best_58 g6 g7 g8 g9 g10 g11 g12 g13 g14 g15 g16 g17 g18 nC nT nR nD (nI nu) N1 lk be le sx q).2.1 ∧
      (lf_Se_leastOf_9 c0 c1 c2 c3 c4 c5 c6 c7 c8 c9 c10 nC nD nR nu N2 sx sn rs be le' r).2.2.1 = (lf_M_best_58 g6 g7 g8 g9 g10 g11 g12 g13 g14 g15 g16 g17 g18 nC nT nR nD (nI nu) N1 lk be le sx q).1 := by
  intro N1
  induction N1 with
  | zero => intro N2 sn lk be le le' sx rs r q h; exact absurd h (Nat.not_lt_zero _)
  | succ N1 ih =>
    intro N2 sn lk be le le' sx rs r q hm1 hm2 hm3 hsn hx hlk hrs hbe
    obtain ⟨N2, rfl⟩ : ∃ n, N2 = n + 1 := ⟨N2 - 1, by omega⟩
    rw [lf_Se_leastOf_9, lf_M_best_58]
    rcases hx with hx | ⟨s, hs, rfl, hR⟩
    · rw [if_pos hx, if_pos (by rw [hx]; decide)]
      exact ⟨rfl, hrs.resolve_right (fun h9 => h9.2 hx)⟩
    · have hxn : ¬ nI s = -1 := m1_nle (by omega)
      have hx0 : ¬ nI s < 0 := nI_pos (by omega)
      have cx : (nI s).toNatClampNeg = s := nI_clamp (by omega)
      have hbm : bm g6 nC q (nI s) = tr (zg g6) nC (rn q) s := bm_at (by omega)
      have hpos := tr_pos (zg g6) nC (rn q) s
      rw [if_neg hxn, if_neg hx0, if_neg (show ¬ (8192 : Int32) < nI sn from fun h9 => absurd ((nI_ltI (a := 8192) (by omega) (by omega)).mp h9) (by omega)), cx]
      obtain ⟨p1, p2, p3⟩ := hP be le r q s hs hR
      -- both pass the row by, or neither does
      have hpass : mr_Se_isPassedBy be le' c2 c3 c4 c5 c6 c7 c8 c9 r nR nu s = 0 ↔ ((if mr_M_isBarred g13 g14 g15 g16 q nC nR = 0 then (if mr_M_passesLimits g7 g8 g9 g10 g11 g12 g17 g18 q nC nT = 0 then (if be < 0 then 0 else (if mr_M_boundOf g7 g8 g9 g10 g11 g12 q nC nT (nI nu) < le then 0 else 1)) else 1) else 1 : Int32)) = 0 := by
        unfold mr_Se_isPassedBy
        by_cases q1 : mr_M_isBarred g13 g14 g15 g16 q nC nR = 0
        · rw [if_pos q1, if_pos (p1.mpr q1)]
          by_cases q2 : mr_M_passesLimits g7 g8 g9 g10 g11 g12 g17 g18 q nC nT = 0
          · rw [if_pos q2, if_pos (p2.mpr q2)]
            rcases hbe with hb | ⟨⟨d, hd, hb⟩, hl⟩
            · rw [if_pos hb, if_pos (by rw [hb]; decide)]
            · rw [if_neg (show ¬ be = -1 by rw [hb]; exact m1_nle (by omega)), if_neg (show ¬ be < 0 by rw [hb]; exact nI_pos (by omega)), p3, hl]
          · rw [if_neg q2, if_neg (fun h9 => q2 (p2.mp h9))]
        · rw [if_neg q1, if_neg (fun h9 => q1 (p1.mp h9))]
      have hsn1 : nI sn = lk + 1 := by rw [hlk, nI_1, show sn - 1 + 1 = sn by omega]
      -- the row behind
      have behind : ∀ (be1 le1 le1' : Int32), (be1 = -1 ∨ (∃ d : Nat, d < nD ∧ be1 = nI d) ∧ le1 = le1') →
          (lf_Se_leastOf_9 c0 c1 c2 c3 c4 c5 c6 c7 c8 c9 c10 nC nD nR nu N2 (mr_Se_goBehind c0 r s).1 (sn + 1) (nI sn) be1 le1' (mr_Se_goBehind c0 r s).2).2.2.2.1 = (lf_M_best_58 g6 g7 g8 g9 g10 g11 g12 g13 g14 g15 g16 g17 g18 nC nT nR nD (nI nu) N1 (lk + 1) be1 le1 (mr_M_nextRow g6 q nC s).1 (mr_M_nextRow g6 q nC s).2).2.1 ∧
          (lf_Se_leastOf_9 c0 c1 c2 c3 c4 c5 c6 c7 c8 c9 c10 nC nD nR nu N2 (mr_Se_goBehind c0 r s).1 (sn + 1) (nI sn) be1 le1' (mr_Se_goBehind c0 r s).2).2.2.1 = (lf_M_best_58 g6 g7 g8 g9 g10 g11 g12 g13 g14 g15 g16 g17 g18 nC nT nR nD (nI nu) N1 (lk + 1) be1 le1 (mr_M_nextRow g6 q nC s).1 (mr_M_nextRow g6 q nC s).2).1 := by
        intro be1 le1 le1' hb1
        obtain ⟨n1, n2⟩ := nx_step hC hs s0 h06 hR
        have hq : ∀ c, c < s → ∃ v : Nat, q c = nI v ∧ v < zg g6 c := fun c hc => by
          obtain ⟨v, ev, hv⟩ := hR.1 c hc
          exact ⟨v, by rw [hR.2.1 c hc]; exact ev, by unfold zg; rw [h06 c (by omega)]; exact hv⟩
        have hdec := (b_next hC h6 hs hq).2
        rw [← n1]
        refine ih N2 (sn + 1) (lk + 1) be1 le1 le1' _ (nI sn) _ _ (by omega) (by omega) (by omega) (by omega) ?_ (by rw [← hsn1, Nat.add_sub_cancel]) (Or.inl hsn1) hb1
        rw [n1]
        rcases n2 with n2 | ⟨t, t1, t2, t3⟩
        · exact Or.inl n2
        · exact Or.inr ⟨t + 1, by omega, t2, t3⟩
      by_cases hp : mr_Se_isPassedBy be le' c2 c3 c4 c5 c6 c7 c8 c9 r nR nu s = 0
      · rw [if_pos hp, if_pos (hpass.mp hp)]
        by_cases hl : nC ≤ s
        · have hsC : s = nC := by omega
          rw [if_pos (nI_le hl (by omega)), if_pos (by rw [hsC]), if_pos (nI_le hl (by omega))]
          -- the whole row's design, and its number
          have hrow := rn_ok s0 hs hR.1
          have hd : cn (zg c0) (rn r) nC < nD := by
            rw [← hmp]; exact cn_lt (fun c hc => (hrow c (by omega)).2)
          have ed : mr_Sh_designOf c1 r nC = nI (cn (zg c0) (rn r) nC) := do_num s1 (fun c hc => (hrow c (by omega)).1)
          have ez : ∀ c, c < nC → zg g6 c = zg c0 c := fun c hc => by unfold zg; rw [h06 c hc]
          have eq' : ∀ c, c < nC → q c = nI (rn r c) := fun c hc => by rw [hR.2.1 c (by omega)]; exact (hrow c (by omega)).1
          have ecl : mr_M_closed g6 q nC = nI (cn (zg c0) (rn r) nC) := by
            rw [closed_num h6 eq']
            congr 1
            exact cn_zext ez
          have edg : ∀ c, c < nC → dg (zg g6) nC (cn (zg c0) (rn r) nC) c = rn r c := fun c hc => by
            rw [dg_zext ez hc]
            exact dg_cn nC (fun j hj => (hrow j (by omega)).2) c hc
          have els : mr_M_boundOf g7 g8 g9 g10 g11 g12 q nC nT (nI nu) = c10 (cn (zg c0) (rn r) nC * 4 + nu) := by
            rw [hSum _ hd]
            unfold sNum
            refine boundOf_ext hC h8 h10 (fun c hc => ?_)
            unfold rowD
            rw [if_pos hc, edg c hc]; exact eq' c hc
          have ek : mr_Se_keepRow c1 c10 r nC nu = (nI (cn (zg c0) (rn r) nC), c10 (cn (zg c0) (rn r) nC * 4 + nu)) := by
            unfold mr_Se_keepRow mr_Bo_sumOf
            rw [ed, nI_clamp (by omega)]
          rw [ek, ecl, els]
          exact behind _ _ _ (Or.inr ⟨⟨_, hd, rfl⟩, rfl⟩)
        · have hl' : s < nC := by omega
          rw [if_neg (nI_ge hl' (by omega)), if_neg (show ¬ nI s = nI nC from fun h9 => hl (by have := (nI_eq (by omega) (by omega)).mp h9; omega)), if_neg (show ¬ nI nC ≤ nI s from nI_ge hl' (by omega))]
          have hq : ∀ c, c < s → ∃ v : Nat, q c = nI v ∧ v < zg g6 c := fun c hc => by
            obtain ⟨v, ev, hv⟩ := hR.1 c hc
            exact ⟨v, by rw [hR.2.1 c hc]; exact ev, by unfold zg; rw [h06 c (by omega)]; exact hv⟩
          have hdec := (b_down hC h6 hl' hq).2
          have e1 : nI s + 1 = nI (s + 1) := nI_1 s
          refine ih N2 (sn + 1) (lk + 1) be le le' (nI s + 1) (nI sn) (upd r s 0) (upd q s 0) (by omega) (by omega) (by omega) (by omega) (Or.inr ⟨s + 1, by omega, e1, dn_step hl' s0 hR⟩) (by rw [← hsn1, Nat.add_sub_cancel]) (Or.inl hsn1) hbe
      · rw [if_neg hp, if_neg (fun h9 => hp (hpass.mpr h9))]
        exact behind _ _ _ hbe
end CSS
