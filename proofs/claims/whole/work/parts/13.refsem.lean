/-! what the reference's small methods mean: rows of digits and their numbers (M is its tag) -/
theorem open_sem {g6 g19 : Nat → Int32} {nC d st : Nat} (hC : nC ≤ 8) (h6 : ∀ c, c < nC → ∃ z : Nat, g6 c = nI z ∧ 2 ≤ z ∧ z ≤ 6) (hd : d < 2 ^ 31) (hst : st ≤ 8) : ∀ k, k ≤ nC →
    (lf_M_open_10 g6 nC d st (nI d) g19 k).1 = nI (d / mp (zg g6) (nC - k) k) ∧ ∀ c, (lf_M_open_10 g6 nC d st (nI d) g19 k).2 c = if nC - k ≤ c ∧ c < nC then (if c < st then nI (dg (zg g6) nC d c) else -1) else g19 c := by
  intro k
  induction k with
  | zero =>
    intro _
    rw [lf_M_open_10]
    refine ⟨?_, fun c => ?_⟩
    · rw [mp, Nat.div_one]
    · rw [if_neg (by omega)]
  | succ k ih =>
    intro hk
    obtain ⟨i1, i2⟩ := ih (by omega)
    obtain ⟨z1, z2, z3⟩ := zg_ok h6 (c := nC - 1 - k) (by omega)
    have hm := mp_small h6 (a := nC - k) (n := k) (by omega)
    have hlt : d / mp (zg g6) (nC - k) k < 2 ^ 31 := Nat.lt_of_le_of_lt (Nat.div_le_self _ _) hd
    have e1 : nC - (k + 1) = nC - 1 - k := by omega
    have e2 : nC - 1 - k + 1 = nC - k := by omega
    rw [lf_M_open_10]
    refine ⟨?_, fun c => ?_⟩
    · show (lf_M_open_10 g6 nC d st (nI d) g19 k).1 / g6 (nC - 1 - k) = _
      rw [i1, z1, pk_div hlt (by omega) (by omega), mp_first, e1, e2, Nat.mul_comm, Nat.div_div_eq_div_mul]
    · show upd _ (nC - 1 - k) _ c = _
      unfold upd
      by_cases hc : c = nC - 1 - k
      · rw [if_pos hc, if_pos (show nC - (k + 1) ≤ c ∧ c < nC by omega)]
        have ec : nI (nC - k) - 1 = nI (nC - 1 - k) := dn_ix (by omega)
        rw [ec]
        by_cases hs : st ≤ nC - 1 - k
        · rw [if_pos ((nI_leI (by omega) (by omega)).mpr hs), if_neg (by omega)]
        · rw [if_neg (fun h => hs ((nI_leI (by omega) (by omega)).mp h)), if_pos (by omega), i1, z1, pk_rem hlt (by omega) (by omega)]
          unfold dg pc_
          rw [hc, e2, show nC - (nC - k) = k by omega]
      · rw [if_neg hc, i2]
        by_cases h1 : nC - k ≤ c ∧ c < nC
        · rw [if_pos h1, if_pos (show nC - (k + 1) ≤ c ∧ c < nC by omega)]
        · rw [if_neg h1, if_neg (show ¬ (nC - (k + 1) ≤ c ∧ c < nC) by omega)]
/-- a design's row, with the first st choices set -/
theorem open_row {g6 g19 : Nat → Int32} {nC d st : Nat} (hC : nC ≤ 8) (h6 : ∀ c, c < nC → ∃ z : Nat, g6 c = nI z ∧ 2 ≤ z ∧ z ≤ 6) (hd : d < 2 ^ 31) (hst : st ≤ 8) (c : Nat) : mr_M_open g6 g19 nC d st c = if c < nC then (if c < st then nI (dg (zg g6) nC d c) else -1) else g19 c := by
  unfold mr_M_open
  rw [(open_sem hC h6 hd hst nC (Nat.le_refl _)).2 c, Nat.sub_self]
  by_cases h : c < nC
  · rw [if_pos h, if_pos ⟨Nat.zero_le _, h⟩]
  · rw [if_neg h, if_neg (fun q => h q.2)]
theorem closed_sem {g6 g19 : Nat → Int32} {nC : Nat} {r : Nat → Nat} (h6 : ∀ c, c < nC → ∃ z : Nat, g6 c = nI z ∧ 2 ≤ z ∧ z ≤ 6) (hr : ∀ c, c < nC → g19 c = nI (r c)) : ∀ k, k ≤ nC → lf_M_closed_4 g6 g19 nC 0 k = nI (cn (zg g6) r k) := by
  intro k
  induction k with
  | zero => intro _; rfl
  | succ k ih =>
    intro hk
    rw [lf_M_closed_4, ih (by omega), (zg_ok h6 (c := k) (by omega)).1, hr k (by omega), pk_mul, nI_add]
    rfl
theorem closed_num {g6 g19 : Nat → Int32} {nC : Nat} {r : Nat → Nat} (h6 : ∀ c, c < nC → ∃ z : Nat, g6 c = nI z ∧ 2 ≤ z ∧ z ≤ 6) (hr : ∀ c, c < nC → g19 c = nI (r c)) : mr_M_closed g6 g19 nC = nI (cn (zg g6) r nC) := closed_sem h6 hr nC (Nat.le_refl _)
theorem nears_sem {g6 : Nat → Int32} {nC : Nat} (h6 : ∀ c, c < nC → ∃ z : Nat, g6 c = nI z ∧ 2 ≤ z ∧ z ≤ 6) : ∀ k, k ≤ nC → lf_M_nears_4 g6 nC 0 k = nI (ns (zg g6) k) := by
  intro k
  induction k with
  | zero => intro _; rfl
  | succ k ih =>
    intro hk
    obtain ⟨z1, z2, z3⟩ := zg_ok h6 (c := k) (by omega)
    have e : g6 k - 1 = nI (zg g6 k - 1) := by
      rw [z1, show zg g6 k = (zg g6 k - 1) + 1 by omega, nI_pred]
      rfl
    rw [lf_M_nears_4, ih (by omega), e, nI_add]
    rfl
theorem nears_num {g6 : Nat → Int32} {nC : Nat} (h6 : ∀ c, c < nC → ∃ z : Nat, g6 c = nI z ∧ 2 ≤ z ∧ z ≤ 6) : mr_M_nears g6 nC = nI (ns (zg g6) nC) := nears_sem h6 nC (Nat.le_refl _)
theorem ns_small {g6 : Nat → Int32} {nC : Nat} (h6 : ∀ c, c < nC → ∃ z : Nat, g6 c = nI z ∧ 2 ≤ z ∧ z ≤ 6) : ∀ k, k ≤ nC → k ≤ ns (zg g6) k ∧ ns (zg g6) k ≤ 5 * k := by
  intro k
  induction k with
  | zero => intro _; exact ⟨Nat.le_refl _, Nat.le_refl _⟩
  | succ k ih =>
    intro hk
    have h := ih (by omega)
    obtain ⟨z1, z2, z3⟩ := zg_ok h6 (c := k) (by omega)
    rw [ns]
    omega
/-- the inner loop of nearOf: at the choice c, whose own value is o -/
theorem near_in {g6 g19 rr : Nat → Int32} {nC d c o : Nat} {q : Int32} {K : Nat → Int32 → Int32 × (Nat → Int32)} (hz : g6 c = nI (zg g6 c)) (hz6 : zg g6 c ≤ 6) (ho : o < zg g6 c) (hr : rr c = nI o) : ∀ (N v L : Nat), zg g6 c - v < N → v ≤ zg g6 c → L < 2 ^ 31 →
    lf_M_nearOf_26 g6 g19 nC d q c rr K N v (nI L) = if L < (zg g6 c - v) - (if v ≤ o then 1 else 0) then (mr_M_closed g6 (upd rr c (nI (if o < v ∨ v + L < o then v + L else v + L + 1))) nC, upd rr c (nI (if o < v ∨ v + L < o then v + L else v + L + 1))) else K (c + 1) (nI (L - ((zg g6 c - v) - (if v ≤ o then 1 else 0)))) := by
  intro N
  induction N with
  | zero => intro v L h; exact absurd h (Nat.not_lt_zero _)
  | succ N ih =>
    intro v L h hv hL
    have hzz : (nI (zg g6 c) : Int32) = nI (g6 c).toNatClampNeg := rfl
    rw [lf_M_nearOf_26, ← hzz]
    by_cases h1 : zg g6 c ≤ v
    · have e1 : v = zg g6 c := by omega
      rw [if_pos ((nI_leI (by omega) (by omega)).mpr h1), if_neg (show ¬ v ≤ o by omega), if_neg (by omega), show L - (zg g6 c - v - 0) = L by omega]
    · rw [if_neg (fun h9 => h1 ((nI_leI (by omega) (by omega)).mp h9)), hr]
      by_cases h2 : v = o
      · rw [if_pos (by rw [h2]), ih (v + 1) L (by omega) (by omega) hL, if_neg (show ¬ v + 1 ≤ o by omega), if_pos (show v ≤ o by omega)]
        rw [show zg g6 c - (v + 1) - 0 = zg g6 c - v - 1 by omega]
        by_cases h3 : L < zg g6 c - v - 1
        · rw [if_pos h3, if_pos h3, if_pos (show o < v + 1 ∨ v + 1 + L < o by omega), if_neg (show ¬ (o < v ∨ v + L < o) by omega), show v + 1 + L = v + L + 1 by omega]
        · rw [if_neg h3, if_neg h3]
      · rw [if_neg (fun h9 => h2 ((nI_eq (by omega) (by omega)).mp h9))]
        by_cases h4 : L = 0
        · subst h4
          rw [if_pos (show nI 0 = 0 from rfl)]
          have hlt : 0 < (zg g6 c - v) - (if v ≤ o then 1 else 0) := by split <;> omega
          have hw : (o < v ∨ v + 0 < o) := by omega
          rw [if_pos hlt, if_pos hw, Nat.add_zero]
        · have e5 : nI L + (-1) = nI (L - 1) := sb_m1 (by omega)
          rw [if_neg (nI_ne0 (by omega) hL), e5, ih (v + 1) (L - 1) (by omega) (by omega) (by omega)]
          have ei : (zg g6 c - (v + 1)) - (if v + 1 ≤ o then 1 else 0) + 1 = (zg g6 c - v) - (if v ≤ o then 1 else 0) := by split <;> split <;> omega
          by_cases h3 : L < (zg g6 c - v) - (if v ≤ o then 1 else 0)
          · rw [if_pos h3, if_pos (show L - 1 < (zg g6 c - (v + 1)) - (if v + 1 ≤ o then 1 else 0) by omega)]
            have ew : (if o < v + 1 ∨ v + 1 + (L - 1) < o then v + 1 + (L - 1) else v + 1 + (L - 1) + 1) = (if o < v ∨ v + L < o then v + L else v + L + 1) := by split <;> split <;> omega
            rw [ew]
          · rw [if_neg h3, if_neg (show ¬ L - 1 < (zg g6 c - (v + 1)) - (if v + 1 ≤ o then 1 else 0) by omega), show L - 1 - ((zg g6 c - (v + 1)) - (if v + 1 ≤ o then 1 else 0)) = L - ((zg g6 c - v) - (if v ≤ o then 1 else 0)) by omega]
theorem near_out {g6 g19 rr : Nat → Int32} {nC d : Nat} {q : Int32} (hC : nC ≤ 8) (h6 : ∀ c, c < nC → ∃ z : Nat, g6 c = nI z ∧ 2 ≤ z ∧ z ≤ 6) (hr : ∀ c, c < nC → rr c = nI (dg (zg g6) nC d c)) : ∀ (N c L : Nat), nC - c < N → c ≤ nC → L < 2 ^ 31 →
    lf_M_nearOf_14 g6 g19 nC d q rr N c (nI L) = match nbr (zg g6) nC d N c L with
      | none => (-1, rr)
      | some (c', w) => (mr_M_closed g6 (upd rr c' (nI w)) nC, upd rr c' (nI w)) := by
  intro N
  induction N with
  | zero => intro c L h; exact absurd h (Nat.not_lt_zero _)
  | succ N ih =>
    intro c L h hc hL
    rw [lf_M_nearOf_14, nbr]
    by_cases h1 : nC ≤ c
    · rw [if_pos ((nI_leI (by omega) (by omega)).mpr h1), if_pos h1]
    · obtain ⟨z1, z2, z3⟩ := zg_ok h6 (c := c) (by omega)
      have ho : dg (zg g6) nC d c < zg g6 c := dg_lt (by omega)
      rw [if_neg (fun h9 => h1 ((nI_leI (by omega) (by omega)).mp h9)), if_neg h1, near_in z1 z3 ho (hr c (by omega)) 7 0 L (by omega) (by omega) hL]
      rw [if_pos (Nat.zero_le _), show zg g6 c - 0 - 1 = zg g6 c - 1 by omega]
      by_cases h2 : L < zg g6 c - 1
      · rw [if_pos h2, if_pos h2]
        have ew : (if dg (zg g6) nC d c < 0 ∨ 0 + L < dg (zg g6) nC d c then 0 + L else 0 + L + 1) = (if L < dg (zg g6) nC d c then L else L + 1) := by
          rw [Nat.zero_add]
          by_cases h3 : L < dg (zg g6) nC d c
          · rw [if_pos h3, if_pos (Or.inr h3)]
          · rw [if_neg h3, if_neg (by omega)]
        rw [ew]
      · rw [if_neg h2, if_neg h2]
        exact ih (c + 1) (L - (zg g6 c - 1)) (by omega) (by omega) (by omega)
/-- the near design as a number, and the row that is left -/
theorem near_num {g6 g19 : Nat → Int32} {nC d k : Nat} (hC : nC ≤ 8) (h6 : ∀ c, c < nC → ∃ z : Nat, g6 c = nI z ∧ 2 ≤ z ∧ z ≤ 6) (hd : d < 2 ^ 31) (hk : k < ns (zg g6) nC) : ∃ c w : Nat, nbr (zg g6) nC d (nC + 1) 0 k = some (c, w) ∧ c < nC ∧ w < zg g6 c ∧ (mr_M_nearOf g6 g19 nC d (nI k)).1 = nI (cn (zg g6) (fun j => if j = c then w else dg (zg g6) nC d j) nC) := by
  obtain ⟨c, w, e, hc, hw⟩ := nbr_some (z := zg g6) (n := nC) (d := d) (fun c hc => (zg_ok h6 hc).2.1) (nC + 1) 0 k (by omega) (Nat.zero_le _) hk
  have hks := (ns_small h6 nC (Nat.le_refl _)).2
  have hrow : ∀ c, c < nC → mr_M_open g6 g19 nC d nC c = nI (dg (zg g6) nC d c) := fun c hc => by
    rw [open_row hC h6 hd hC c, if_pos hc, if_pos hc]
  refine ⟨c, w, e, hc, hw, ?_⟩
  unfold mr_M_nearOf
  rw [near_out hC h6 hrow (nC + 1) 0 k (by omega) (Nat.zero_le _) (by omega), e]
  show mr_M_closed g6 (upd (mr_M_open g6 g19 nC d nC) c (nI w)) nC = _
  refine closed_num h6 (fun j hj => ?_)
  by_cases h : j = c
  · rw [h, pk_us, if_pos rfl]
  · rw [pk_un h, if_neg h, hrow j hj]
theorem near_lt {g6 g19 : Nat → Int32} {nC d k : Nat} (hC : nC ≤ 8) (h6 : ∀ c, c < nC → ∃ z : Nat, g6 c = nI z ∧ 2 ≤ z ∧ z ≤ 6) (hd : d < 2 ^ 31) (hk : k < ns (zg g6) nC) : ∃ j : Nat, j < mp (zg g6) 0 nC ∧ (mr_M_nearOf g6 g19 nC d (nI k)).1 = nI j := by
  obtain ⟨c, w, e, hc, hw, en⟩ := near_num (g19 := g19) hC h6 hd hk
  refine ⟨_, cn_lt (fun j hj => ?_), en⟩
  have := (zg_ok h6 hj).2.1
  by_cases h : j = c
  · rw [if_pos h, h]; exact hw
  · rw [if_neg h]; exact dg_lt (by omega)
