/-! near designs, walks, sweeps, what a choice matters: both sides -/
theorem ns_zext {z y : Nat → Nat} : ∀ {n}, (∀ c, c < n → z c = y c) → ns z n = ns y n := by
  intro n
  induction n with
  | zero => intro _; rfl
  | succ n ih => intro h; rw [ns, ns, ih (fun c hc => h c (by omega)), h n (by omega)]
theorem nbr_zext {z y : Nat → Nat} {n d : Nat} (h : ∀ c, c < n → z c = y c) : ∀ (N c k : Nat), nbr z n d N c k = nbr y n d N c k := by
  intro N
  induction N with
  | zero => intro c k; rfl
  | succ N ih =>
    intro c k
    rw [nbr, nbr]
    by_cases h1 : n ≤ c
    · rw [if_pos h1, if_pos h1]
    · rw [if_neg h1, if_neg h1, h c (by omega), dg_zext h (by omega), ih]
theorem near_eq {c0 c1 g6 g19 : Nat → Int32} {nC nD d k : Nat} (hC : nC ≤ 8) (hN : nD ≤ 4096) (s0 : ∀ c, c < nC → ∃ z : Nat, c0 c = nI z ∧ 2 ≤ z ∧ z ≤ 6) (s1 : ∀ c, c < nC → c1 c = nI (pc_ (zg c0) nC c)) (h06 : ∀ c, c < nC → g6 c = c0 c) (h6 : ∀ c, c < nC → ∃ z : Nat, g6 c = nI z ∧ 2 ≤ z ∧ z ≤ 6) (hmp : mp (zg c0) 0 nC = nD) (hd : d < nD) (hk : k < ns (zg c0) nC) :
    mr_Sh_neighbour c0 c1 nC (nI d) (nI k) = (mr_M_nearOf g6 g19 nC d (nI k)).1 ∧ ∃ j : Nat, j < nD ∧ mr_Sh_neighbour c0 c1 nC (nI d) (nI k) = nI j := by
  have ez : ∀ c, c < nC → zg g6 c = zg c0 c := fun c hc => by unfold zg; rw [h06 c hc]
  obtain ⟨c, w, e, hc, hw, en⟩ := nb_eq hC s0 s1 hmp hN hd hk
  obtain ⟨c', w', e', hc', hw', en'⟩ := near_num (g19 := g19) hC h6 (d := d) (by omega) (k := k) (by rw [ns_zext ez]; exact hk)
  rw [nbr_zext ez, e] at e'
  cases e'
  have hx : cn (zg g6) (fun j => if j = c then w else dg (zg g6) nC d j) nC = cn (zg c0) (fun j => if j = c then w else dg (zg c0) nC d j) nC := by
    rw [cn_zext ez]
    exact cn_ext (fun j hj => by rw [dg_zext ez hj])
  refine ⟨by rw [en, en', hx], _, ?_, en⟩
  rw [← hmp]
  refine cn_lt (fun j hj => ?_)
  have := (zg_ok s0 hj).2.1
  by_cases h : j = c
  · rw [if_pos h, h]; exact hw
  · rw [if_neg h]; exact dg_lt (by omega)
theorem cost_eq {c10 g28 : Nat → Int32} {d : Nat} (h : ∀ k, k < 4 → c10 (d * 4 + k) = g28 (4 * d + k)) : mr_Bo_costOf c10 d = mr_M_cost g28 d := by
  unfold mr_Bo_costOf mr_M_cost
  rw [lf_Bo_costOf_5, lf_Bo_costOf_5, lf_Bo_costOf_5, lf_Bo_costOf_5, lf_Bo_costOf_5]
  unfold mr_Bo_sumOf
  rw [h 0 (by omega), h 1 (by omega), h 2 (by omega), h 3 (by omega), Int64.zero_add]
  rfl
section CSW
variable {c0 c1 c8 c9 c10 c11 g6 g27 g28 : Nat → Int32} {nC nD : Nat}
theorem walk_sim {f10 dI spI : Int32} {nT nR d sp : Nat} (hC : nC ≤ 8) (hC1 : 0 < nC) (hN : nD ≤ 4096) (hsp : sp ≤ 1000) (esp : spI.toNatClampNeg = sp) (s0 : ∀ c, c < nC → ∃ z : Nat, c0 c = nI z ∧ 2 ≤ z ∧ z ≤ 6) (s1 : ∀ c, c < nC → c1 c = nI (pc_ (zg c0) nC c)) (h06 : ∀ c, c < nC → g6 c = c0 c) (h6 : ∀ c, c < nC → ∃ z : Nat, g6 c = nI z ∧ 2 ≤ z ∧ z ≤ 6) (hmp : mp (zg c0) 0 nC = nD)
    (hleg : ∀ d, d < nD → (mr_Bo_allows c8 c9 c10 c11 d = 0 ↔ g27 d = 0)) (hnum : ∀ d k, d < nD → k < 4 → c10 (d * 4 + k) = g28 (4 * d + k)) :
    ∀ (N1 N2 j a b : Nat) (wa : Int32) (x lo mo : Int32) (r : Nat → Int32), sp - j < N1 → sp - j < N2 → j ≤ sp → a < nD → b < nD → wa = nI a → lo = nI b →
      (lf_Wa_go_29 f10 c0 c1 c8 c9 c10 c11 nC nD d sp N2 j wa (mr_Bo_costOf c10 a) (mr_Bo_costOf c10 b) x lo mo).2.1 = (lf_M_walk_77 f10 g6 nC nT nR nD dI spI g27 g28 N1 wa j x lo mo r).1 ∧
      (lf_Wa_go_29 f10 c0 c1 c8 c9 c10 c11 nC nD d sp N2 j wa (mr_Bo_costOf c10 a) (mr_Bo_costOf c10 b) x lo mo).2.2.2.2.1 = (lf_M_walk_77 f10 g6 nC nT nR nD dI spI g27 g28 N1 wa j x lo mo r).2.2.1 ∧
      (lf_Wa_go_29 f10 c0 c1 c8 c9 c10 c11 nC nD d sp N2 j wa (mr_Bo_costOf c10 a) (mr_Bo_costOf c10 b) x lo mo).2.2.2.2.2.1 = (lf_M_walk_77 f10 g6 nC nT nR nD dI spI g27 g28 N1 wa j x lo mo r).2.2.2.1 ∧
      (lf_Wa_go_29 f10 c0 c1 c8 c9 c10 c11 nC nD d sp N2 j wa (mr_Bo_costOf c10 a) (mr_Bo_costOf c10 b) x lo mo).2.2.2.2.2.2 = (lf_M_walk_77 f10 g6 nC nT nR nD dI spI g27 g28 N1 wa j x lo mo r).2.2.2.2.1 := by
  have ez : ∀ c, c < nC → zg g6 c = zg c0 c := fun c hc => by unfold zg; rw [h06 c hc]
  have hns := (ns_small s0 nC (Nat.le_refl _))
  have edw : ∀ x, dw g6 nC x = dw c0 nC x := fun x => by unfold dw; rw [ns_zext ez]
  intro N1
  induction N1 with
  | zero => intro N2 j a b wa x lo mo r h; exact absurd h (Nat.not_lt_zero _)
  | succ N1 ih =>
    intro N2 j a b wa x lo mo r h1 h2 hj ha hb ewa elo
    subst ewa; subst elo
    obtain ⟨N2, rfl⟩ : ∃ n, N2 = n + 1 := ⟨N2 - 1, by omega⟩
    rw [lf_Wa_go_29, lf_M_walk_77, esp]
    by_cases c1' : nI sp ≤ nI j
    · rw [if_pos c1', if_pos c1']
      exact ⟨rfl, rfl, rfl, rfl⟩
    · have n1 : j < sp := nI_nle2 c1' (by omega)
      rw [if_neg c1', if_neg c1']
      have hk : dw c0 nC (wx x) < ns (zg c0) nC := dw_lt (by omega)
      obtain ⟨q1, t, q2, q3⟩ := near_eq (g19 := r) hC hN s0 s1 h06 h6 hmp ha hk
      have ed : mr_Wa_drawNear x c0 c1 nC (nI a) = (nI t, wx x) := by
        unfold mr_Wa_drawNear
        rw [if_neg (nI_nle (by omega) (by omega)), q3]
      rw [q3] at q1
      have ca : (nI a).toNatClampNeg = a := nI_clamp (by omega)
      have cb : (nI b).toNatClampNeg = b := nI_clamp (by omega)
      have ct' : (nI t).toNatClampNeg = t := nI_clamp (by omega)
      rw [ed, ca, cb, edw, ← q1]
      show _ ∧ _ ∧ _ ∧ _
      simp only []
      rw [ct']
      have e1 : mr_M_cost g28 t = mr_Bo_costOf c10 t := (cost_eq (fun k hk => hnum t k q2 hk)).symm
      have e2 : mr_M_cost g28 a = mr_Bo_costOf c10 a := (cost_eq (fun k hk => hnum a k ha hk)).symm
      have e3 : mr_M_cost g28 b = mr_Bo_costOf c10 b := (cost_eq (fun k hk => hnum b k hb hk)).symm
      rw [e1, e2, e3]
      by_cases cL : g27 t = 0
      · rw [if_pos cL, if_pos ((hleg t q2).mpr cL)]
        exact ih N2 (j + 1) a b (nI a) (wx x) (nI b) mo _ (by omega) (by omega) (by omega) ha hb rfl rfl
      · rw [if_neg cL, if_neg (fun h9 => cL ((hleg t q2).mp h9))]
        by_cases cC : 0 < lg_cmp (mr_Bo_costOf c10 t) (mr_Bo_costOf c10 a + f10.toInt64)
        · rw [if_pos cC, if_pos cC]
          exact ih N2 (j + 1) a b (nI a) (wx x) (nI b) mo _ (by omega) (by omega) (by omega) ha hb rfl rfl
        · rw [if_neg cC, if_neg cC]
          by_cases cD : 0 ≤ lg_cmp (mr_Bo_costOf c10 t) (mr_Bo_costOf c10 b)
          · rw [if_pos cD, if_pos cD]
            exact ih N2 (j + 1) t b (nI t) (wx x) (nI b) (mo + 1) _ (by omega) (by omega) (by omega) q2 hb rfl rfl
          · rw [if_neg cD, if_neg cD]
            exact ih N2 (j + 1) t t (nI t) (wx x) (nI t) (mo + 1) _ (by omega) (by omega) (by omega) q2 q2 rfl rfl
/-- the sweep: the reference goes on while it may; the class counts up to its end -/
theorem sweep_sim {g27' : Nat → Int32} {nT nR pl n : Nat} {nI' : Int32} (hN : nD ≤ 4096) (hn : n ≤ 5000) (en : nI' = nI n) (hleg : ∀ d, d < nD → (mr_Bo_allows c8 c9 c10 c11 d = 0 ↔ g27 d = 0)) :
    ∀ (N j : Nat) (fo : Int32), nD - (pl + j) < N → j ≤ n → pl + j ≤ nD → fo = lf_Sw_goOn_25 c8 c9 c10 c11 nD pl n 0 j →
      (lf_M_sweep_47 nC nT nR nD pl nI' g27 N fo j (pl + j)).1 = lf_Sw_goOn_25 c8 c9 c10 c11 nD pl n 0 (min (pl + n) nD - pl) ∧ (lf_M_sweep_47 nC nT nR nD pl nI' g27 N fo j (pl + j)).2.2 = min (pl + n) nD := by
  intro N
  induction N with
  | zero => intro j fo h; exact absurd h (Nat.not_lt_zero _)
  | succ N ih =>
    intro j fo h1 h2 h3 hfo
    rw [lf_M_sweep_47, en]
    by_cases c1' : nI n ≤ nI j
    · have n1 : n ≤ j := (nI_leI (by omega) (by omega)).mp c1'
      have e : min (pl + n) nD = pl + j := by omega
      rw [if_pos c1', e, Nat.add_sub_cancel_left]
      exact ⟨hfo, rfl⟩
    · have n1 : j < n := nI_nle2 c1' (by omega)
      rw [if_neg c1']
      by_cases c2' : nI nD ≤ nI (pl + j)
      · have n2 : nD ≤ pl + j := (nI_leI (by omega) (by omega)).mp c2'
        have e : min (pl + n) nD = pl + j := by omega
        rw [if_pos c2', e, Nat.add_sub_cancel_left]
        exact ⟨hfo, rfl⟩
      · have n2 : pl + j < nD := nI_nle2 c2' (by omega)
        rw [if_neg c2', ← en]
        refine ih (j + 1) _ (by omega) (by omega) (by omega) ?_
        rw [lf_Sw_goOn_25, ← hfo]
        by_cases cL : g27 (pl + j) = 0
        · rw [if_pos cL, if_pos ((hleg _ n2).mpr cL), Int32.add_zero]
        · rw [if_neg cL, if_neg (fun h9 => cL ((hleg _ n2).mp h9))]
end CSW
