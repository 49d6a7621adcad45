/-! terms and rules by slots: what a slot says of a row that has its first st choices set -/
/-- row r of the class (its first st entries count) and row q of the reference (-1 where nothing is set) -/
def rowR (g0 r q : Nat → Int32) (nC st : Nat) : Prop := (∀ c, c < st → ∃ v : Nat, r c = nI v ∧ v < zg g0 c) ∧ (∀ c, c < st → q c = r c) ∧ ∀ c, st ≤ c → c < nC → q c = -1
theorem rowR_nn {g0 r q : Nat → Int32} {nC st c : Nat} (s0 : ∀ c, c < nC → ∃ z : Nat, g0 c = nI z ∧ 2 ≤ z ∧ z ≤ 6) (hs : st ≤ nC) (h : rowR g0 r q nC st) (hc : c < st) : 0 ≤ q c := by
  obtain ⟨v, e, hv⟩ := h.1 c hc
  have := (zg_ok s0 (c := c) (by omega)).2
  rw [h.2.1 c hc, e]
  exact nI_pos' (by omega)
/-- what a slot has: choices that are there, a value that is no mark -/
def slR (nC : Nat) (a va b vb : Int32) : Prop := (∃ x : Nat, x < nC ∧ a = nI x) ∧ 0 ≤ va ∧ (b = -1 ∨ (∃ x : Nat, x < nC ∧ b = nI x) ∧ 0 ≤ vb)
theorem m1_ne {x : Int32} (h : 0 ≤ x) : ¬ x = -1 := fun e => absurd (by rw [e] at h; exact h) (by decide)
theorem m1_nle {x : Nat} (h : x < 2 ^ 31) : ¬ nI x = -1 := m1_ne (nI_pos' h)
theorem m1_neg : ((-1 : Int32) < 0) := by decide
theorem m1_nn : ¬ (0 : Int32) ≤ -1 := by decide
/-- open: no choice of the slot is set with another value; settled: all its choices are set -/
def slOpen (r : Nat → Int32) (st : Nat) (a va b vb : Int32) : Prop := (nI st ≤ a ∨ r a.toNatClampNeg = va) ∧ (b = -1 ∨ nI st ≤ b ∨ r b.toNatClampNeg = vb)
def slSet (st : Nat) (a b : Int32) : Prop := ¬ nI st ≤ a ∧ ¬ nI st ≤ b
theorem open_sl {g2 g3 g4 g5 r : Nat → Int32} {sl st : Nat} : (mr_Ma_isOpen g2 g3 g4 g5 r sl st = 0 ∨ mr_Ma_isOpen g2 g3 g4 g5 r sl st = 1) ∧ (¬ mr_Ma_isOpen g2 g3 g4 g5 r sl st = 0 ↔ slOpen r st (g2 sl) (g3 sl) (g4 sl) (g5 sl)) := by
  unfold mr_Ma_isOpen slOpen
  by_cases h1 : nI st ≤ g2 sl <;> by_cases h2 : r (g2 sl).toNatClampNeg = g3 sl <;> by_cases h3 : g4 sl = -1 <;> by_cases h4 : nI st ≤ g4 sl <;> by_cases h5 : r (g4 sl).toNatClampNeg = g5 sl <;> simp [h1, h2, h3, h4, h5]
theorem set_sl {g2 g4 : Nat → Int32} {sl st : Nat} : (mr_Ma_isSettled g2 g4 sl st = 0 ∨ mr_Ma_isSettled g2 g4 sl st = 1) ∧ (¬ mr_Ma_isSettled g2 g4 sl st = 0 ↔ slSet st (g2 sl) (g4 sl)) := by
  unfold mr_Ma_isSettled slSet
  by_cases h1 : nI st ≤ g2 sl <;> by_cases h4 : nI st ≤ g4 sl <;> simp [h1, h4]
/-- the reference's word on a term: -1 excluded, 1 counts, 0 open -/
theorem counts_sl {g0 r q : Nat → Int32} {g8 g9 g10 g11 : Nat → Int32} {nC nT st t : Nat} (hC : nC ≤ 8) (hs : st ≤ nC) (s0 : ∀ c, c < nC → ∃ z : Nat, g0 c = nI z ∧ 2 ≤ z ∧ z ≤ 6) (hR : rowR g0 r q nC st) (hS : slR nC (g8 t) (g9 t) (g10 t) (g11 t)) :
    (mr_M_counts g8 g9 g10 g11 q nC nT t = -1 ↔ ¬ slOpen r st (g8 t) (g9 t) (g10 t) (g11 t)) ∧ (mr_M_counts g8 g9 g10 g11 q nC nT t = 1 ↔ slOpen r st (g8 t) (g9 t) (g10 t) (g11 t) ∧ slSet st (g8 t) (g10 t)) ∧ (mr_M_counts g8 g9 g10 g11 q nC nT t = 0 ∨ mr_M_counts g8 g9 g10 g11 q nC nT t = 1 ∨ mr_M_counts g8 g9 g10 g11 q nC nT t = -1) := by
  obtain ⟨⟨xa, hxa, ea⟩, hva, hb⟩ := hS
  have ca : (g8 t).toNatClampNeg = xa := by rw [ea]; exact nI_clamp (by omega)
  have lea : nI st ≤ g8 t ↔ st ≤ xa := by rw [ea]; exact nI_leI (by omega) (by omega)
  -- the first choice: set, or not
  have fa : (st ≤ xa → q xa = -1) ∧ (xa < st → 0 ≤ q xa ∧ q xa = r xa) := ⟨fun h => hR.2.2 xa h hxa, fun h => ⟨rowR_nn s0 hs hR h, hR.2.1 xa h⟩⟩
  unfold mr_M_counts slOpen slSet
  rw [ca, lea]
  rcases hb with eb | ⟨⟨xb, hxb, eb⟩, hvb⟩
  · rw [eb]
    have h3 : (-1 : Int32) < 0 := by decide
    have h4 : ¬ nI st ≤ (-1 : Int32) := fun h => absurd (Int32.le_trans (nI_pos' (by omega)) h) (by decide)
    rcases Nat.lt_or_ge xa st with h | h
    · obtain ⟨f1, f2⟩ := fa.2 h
      rw [f2] at f1 ⊢
      by_cases h5 : r xa = g9 t <;> simp [h3, h4, h5, f1, show ¬ st ≤ xa by omega]
    · have f1 := fa.1 h
      rw [f1]
      have h5 : ¬ (-1 : Int32) = g9 t := fun h9 => m1_ne hva h9.symm
      simp [h3, h4, h5, h, m1_nn]
  · have cb : (g10 t).toNatClampNeg = xb := by rw [eb]; exact nI_clamp (by omega)
    have leb : nI st ≤ g10 t ↔ st ≤ xb := by rw [eb]; exact nI_leI (by omega) (by omega)
    have hb0 : ¬ g10 t < 0 := by rw [eb]; exact nI_pos (by omega)
    have hb1 : ¬ g10 t = -1 := by rw [eb]; exact m1_nle (by omega)
    have fb : (st ≤ xb → q xb = -1) ∧ (xb < st → 0 ≤ q xb ∧ q xb = r xb) := ⟨fun h => hR.2.2 xb h hxb, fun h => ⟨rowR_nn s0 hs hR h, hR.2.1 xb h⟩⟩
    rw [cb, leb]
    rcases Nat.lt_or_ge xa st with h | h <;> rcases Nat.lt_or_ge xb st with h' | h'
    · obtain ⟨f1, f2⟩ := fa.2 h
      obtain ⟨p1, p2⟩ := fb.2 h'
      rw [f2] at f1 ⊢
      rw [p2] at p1 ⊢
      have p3 : ¬ r xb < 0 := Int32.not_lt.mpr p1
      by_cases h5 : r xa = g9 t <;> by_cases h6 : r xb = g11 t <;> simp [hb0, hb1, h5, h6, f1, p1, p3, show ¬ st ≤ xa by omega, show ¬ st ≤ xb by omega] <;> simp_all
    · obtain ⟨f1, f2⟩ := fa.2 h
      have p1 := fb.1 h'
      rw [f2] at f1 ⊢
      rw [p1]
      have h6 : ¬ (-1 : Int32) = g11 t := fun h9 => m1_ne hvb h9.symm
      by_cases h5 : r xa = g9 t <;> simp [hb0, hb1, h5, h6, f1, m1_nn, m1_neg, h', show ¬ st ≤ xa by omega] <;> simp_all
    · have f1 := fa.1 h
      obtain ⟨p1, p2⟩ := fb.2 h'
      rw [f1]
      rw [p2] at p1 ⊢
      have p3 : ¬ r xb < 0 := Int32.not_lt.mpr p1
      have h5 : ¬ (-1 : Int32) = g9 t := fun h9 => m1_ne hva h9.symm
      by_cases h6 : r xb = g11 t <;> simp [hb0, hb1, h5, h6, m1_nn, m1_neg, p1, p3, h, show ¬ st ≤ xb by omega] <;> simp_all
    · have f1 := fa.1 h
      have p1 := fb.1 h'
      rw [f1, p1]
      have h5 : ¬ (-1 : Int32) = g9 t := fun h9 => m1_ne hva h9.symm
      have h6 : ¬ (-1 : Int32) = g11 t := fun h9 => m1_ne hvb h9.symm
      simp [hb0, hb1, h5, h6, m1_nn, m1_neg, h, h']
/-- how many terms of number n there are among the first T -/
def ct (g7 : Nat → Int32) (n : Nat) : Nat → Nat
  | 0 => 0
  | T + 1 => if g7 T = nI n then ct g7 n T + 1 else ct g7 n T
theorem ct_le (g7 : Nat → Int32) (n : Nat) : ∀ T, ct g7 n T ≤ T := by
  intro T
  induction T with
  | zero => exact Nat.le_refl _
  | succ T ih => rw [ct]; split <;> omega
/-- the class's slots hold the reference's terms: the i-th term of number n stands in slot n * 100 + i -/
def tmR (c2 c3 c4 c5 c7 g7 g8 g9 g10 g11 g12 : Nat → Int32) (nT : Nat) : Prop := ∀ t n, t < nT → n < 4 → g7 t = nI n → c2 (n * 100 + ct g7 n t) = g8 t ∧ c3 (n * 100 + ct g7 n t) = g9 t ∧ c4 (n * 100 + ct g7 n t) = g10 t ∧ c5 (n * 100 + ct g7 n t) = g11 t ∧ c7 (n * 100 + ct g7 n t) = g12 t
theorem bound_lf {g0 r q c2 c3 c4 c5 c7 g7 g8 g9 g10 g11 g12 : Nat → Int32} {nC nT st n : Nat} (hC : nC ≤ 8) (hs : st ≤ nC) (hn : n < 4) (s0 : ∀ c, c < nC → ∃ z : Nat, g0 c = nI z ∧ 2 ≤ z ∧ z ≤ 6) (hR : rowR g0 r q nC st) (hT : tmR c2 c3 c4 c5 c7 g7 g8 g9 g10 g11 g12 nT) (hS : ∀ t, t < nT → slR nC (g8 t) (g9 t) (g10 t) (g11 t)) :
    ∀ T, T ≤ nT → lf_Bo_boundOf_24 c2 c3 c4 c5 c7 r n st 0 (ct g7 n T) = lf_M_boundOf_4 g7 g8 g9 g10 g11 g12 q nC nT (nI n) 0 T := by
  intro T
  induction T with
  | zero => intro _; rfl
  | succ T ih =>
    intro hT1
    rw [lf_M_boundOf_4, ct]
    by_cases e : g7 T = nI n
    · rw [if_pos e, if_pos e, lf_Bo_boundOf_24, ih (by omega)]
      obtain ⟨e2, e3, e4, e5, e7⟩ := hT T n (by omega) hn e
      obtain ⟨k1, k2, k3⟩ := counts_sl (nT := nT) hC hs s0 hR (hS T (by omega))
      have o1 := (open_sl (g2 := c2) (g3 := c3) (g4 := c4) (g5 := c5) (r := r) (sl := n * 100 + ct g7 n T) (st := st)).2
      have o2 := (set_sl (g2 := c2) (g4 := c4) (sl := n * 100 + ct g7 n T) (st := st)).2
      rw [e2, e3, e4, e5] at o1
      rw [e2, e4] at o2
      rw [e7]
      by_cases p1 : slOpen r st (g8 T) (g9 T) (g10 T) (g11 T)
      · rw [if_neg (o1.mpr p1)]
        by_cases p2 : slSet st (g8 T) (g10 T)
        · have c1 := k2.mpr ⟨p1, p2⟩
          rw [if_pos c1, if_neg (o2.mpr p2)]
          split <;> rfl
        · have c1 : ¬ mr_M_counts g8 g9 g10 g11 q nC nT T = 1 := fun h9 => p2 (k2.mp h9).2
          have c2' : ¬ mr_M_counts g8 g9 g10 g11 q nC nT T = -1 := fun h9 => k1.mp h9 p1
          have c0 : mr_M_counts g8 g9 g10 g11 q nC nT T = 0 := k3.resolve_right (fun h9 => h9.elim c1 c2')
          have z2 : mr_Ma_isSettled c2 c4 (n * 100 + ct g7 n T) st = 0 := Classical.byContradiction (fun h9 => p2 (o2.mp h9))
          rw [if_neg c1, if_pos c0, if_pos z2]
          by_cases h9 : g12 T < 0
          · rw [if_pos h9, if_neg (Int32.not_le.mpr h9)]
          · rw [if_neg h9, if_pos (Int32.not_lt.mp h9), Int32.add_zero]
      · have z1 : mr_Ma_isOpen c2 c3 c4 c5 r (n * 100 + ct g7 n T) st = 0 := Classical.byContradiction (fun h9 => p1 (o1.mp h9))
        have c1 := k1.mpr p1
        rw [if_pos z1, c1, if_neg (by decide), if_neg (by decide), Int32.add_zero]
    · rw [if_neg e, if_neg e, ih (by omega)]
theorem bound_eq {g0 r q c2 c3 c4 c5 c6 c7 g7 g8 g9 g10 g11 g12 : Nat → Int32} {nC nT st n : Nat} (hC : nC ≤ 8) (hs : st ≤ nC) (hn : n < 4) (s0 : ∀ c, c < nC → ∃ z : Nat, g0 c = nI z ∧ 2 ≤ z ∧ z ≤ 6) (hR : rowR g0 r q nC st) (hT : tmR c2 c3 c4 c5 c7 g7 g8 g9 g10 g11 g12 nT) (hS : ∀ t, t < nT → slR nC (g8 t) (g9 t) (g10 t) (g11 t)) (h6 : c6 n = nI (ct g7 n nT)) (hnT : nT ≤ 100) :
    mr_Bo_boundOf c2 c3 c4 c5 c6 c7 r n st = mr_M_boundOf g7 g8 g9 g10 g11 g12 q nC nT (nI n) := by
  have := ct_le g7 n nT
  unfold mr_Bo_boundOf mr_M_boundOf
  rw [h6, nI_clamp (by omega)]
  exact bound_lf hC hs hn s0 hR hT hS nT (Nat.le_refl _)
/-! limits of a row -/
theorem lr_lf {c2 c3 c4 c5 c6 c7 c8 c9 r : Nat → Int32} {st : Nat} : ∀ (N n : Nat), 4 - n < N → n ≤ 4 → (lf_Bo_limitsRow_2 c2 c3 c4 c5 c6 c7 c8 c9 r st N n = 0 ↔ ∀ k, n ≤ k → k < 4 → c8 k = 0 ∨ mr_Bo_boundOf c2 c3 c4 c5 c6 c7 r k st ≤ c9 k) := by
  intro N
  induction N with
  | zero => intro n h; exact absurd h (Nat.not_lt_zero _)
  | succ N ih =>
    intro n h hn
    rw [lf_Bo_limitsRow_2]
    by_cases c1 : 4 ≤ nI n
    · have n1 : 4 ≤ n := (nI_leI (a := 4) (b := n) (by omega) (by omega)).mp c1
      rw [if_pos c1]
      exact ⟨fun _ k h1 h2 => absurd h2 (by omega), fun _ => rfl⟩
    · have n1 : n < 4 := nI_nle2 (a := 4) c1 (by omega)
      rw [if_neg c1]
      have key : (c8 n = 0 ∨ mr_Bo_boundOf c2 c3 c4 c5 c6 c7 r n st ≤ c9 n) → (lf_Bo_limitsRow_2 c2 c3 c4 c5 c6 c7 c8 c9 r st N (n + 1) = 0 ↔ ∀ k, n ≤ k → k < 4 → c8 k = 0 ∨ mr_Bo_boundOf c2 c3 c4 c5 c6 c7 r k st ≤ c9 k) := by
        intro h0
        refine (ih (n + 1) (by omega) (by omega)).trans ⟨fun q k h1 h2 => ?_, fun q k h1 h2 => q k (by omega) h2⟩
        by_cases e : k = n
        · rw [e]; exact h0
        · exact q k (by omega) h2
      by_cases c0 : c8 n = 0
      · rw [if_pos c0]; exact key (Or.inl c0)
      · rw [if_neg c0]
        by_cases c2 : mr_Bo_boundOf c2 c3 c4 c5 c6 c7 r n st ≤ c9 n
        · rw [if_pos c2]; exact key (Or.inr c2)
        · rw [if_neg c2]
          exact ⟨fun h9 => absurd h9 (by decide), fun q => ((q n (Nat.le_refl _) n1).elim (fun h9 => absurd h9 c0) (fun h9 => absurd h9 c2))⟩
theorem lr_sem {c2 c3 c4 c5 c6 c7 c8 c9 r : Nat → Int32} {st : Nat} : mr_Bo_limitsRow c2 c3 c4 c5 c6 c7 c8 c9 r st = 0 ↔ ∀ k, k < 4 → c8 k = 0 ∨ mr_Bo_boundOf c2 c3 c4 c5 c6 c7 r k st ≤ c9 k :=
  (lr_lf 5 0 (by omega) (by omega)).trans ⟨fun q k h => q k (Nat.zero_le _) h, fun q k _ h => q k h⟩
theorem pl_lf4 {g7 g8 g9 g10 g11 g12 g17 g18 q : Nat → Int32} {nC nT : Nat} : ∀ n, (lf_M_passesLimits_4 g7 g8 g9 g10 g11 g12 g17 g18 q nC nT 0 n = 0 ↔ ∀ k, k < n → g17 k = 0 ∨ mr_M_boundOf g7 g8 g9 g10 g11 g12 q nC nT (nI k) ≤ g18 k) := by
  intro n
  induction n with
  | zero => exact ⟨fun _ k h => absurd h (Nat.not_lt_zero _), fun _ => rfl⟩
  | succ n ih =>
    rw [lf_M_passesLimits_4]
    by_cases h : lf_M_passesLimits_4 g7 g8 g9 g10 g11 g12 g17 g18 q nC nT 0 n = 0
    · rw [if_pos h]
      have h' := ih.mp h
      by_cases c0 : g17 n = 0
      · rw [if_pos c0]
        refine ⟨fun _ k hk => ?_, fun _ => rfl⟩
        by_cases e : k = n
        · rw [e]; exact Or.inl c0
        · exact h' k (by omega)
      · rw [if_neg c0]
        by_cases c1 : mr_M_boundOf g7 g8 g9 g10 g11 g12 q nC nT (nI n) ≤ g18 n
        · rw [if_pos c1]
          refine ⟨fun _ k hk => ?_, fun _ => rfl⟩
          by_cases e : k = n
          · rw [e]; exact Or.inr c1
          · exact h' k (by omega)
        · rw [if_neg c1]
          exact ⟨fun h9 => absurd h9 (by decide), fun p => ((p n (by omega)).elim (fun h9 => absurd h9 c0) (fun h9 => absurd h9 c1))⟩
    · rw [if_neg h]
      exact ⟨fun h9 => absurd h9 (by decide), fun p => absurd (ih.mpr (fun k hk => p k (by omega))) h⟩
theorem limits_eq {c2 c3 c4 c5 c6 c7 c8 c9 r g7 g8 g9 g10 g11 g12 g17 g18 q : Nat → Int32} {nC nT st : Nat} (hB : ∀ k, k < 4 → mr_Bo_boundOf c2 c3 c4 c5 c6 c7 r k st = mr_M_boundOf g7 g8 g9 g10 g11 g12 q nC nT (nI k)) (h8 : ∀ k, k < 4 → c8 k = g17 k) (h9 : ∀ k, k < 4 → c9 k = g18 k) :
    mr_Bo_limitsRow c2 c3 c4 c5 c6 c7 c8 c9 r st = 0 ↔ mr_M_passesLimits g7 g8 g9 g10 g11 g12 g17 g18 q nC nT = 0 := by
  refine lr_sem.trans (Iff.trans ?_ (pl_lf4 4).symm)
  refine ⟨fun p k hk => ?_, fun p k hk => ?_⟩
  · rw [← h8 k hk, ← hB k hk, ← h9 k hk]; exact p k hk
  · rw [h8 k hk, hB k hk, h9 k hk]; exact p k hk
/-! rules of a row -/
def rlR (c2 c3 c4 c5 g13 g14 g15 g16 : Nat → Int32) (nR : Nat) : Prop := ∀ j, j < nR → c2 (400 + j) = g13 j ∧ c3 (400 + j) = g14 j ∧ c4 (400 + j) = g15 j ∧ c5 (400 + j) = g16 j
theorem br_lf {c2 c3 c4 c5 r : Nat → Int32} {nR st : Nat} (hR : nR ≤ 40) : ∀ (N j : Nat), 400 + nR - j < N → 400 ≤ j → j ≤ 400 + nR → (lf_Bo_barsRow_14 c2 c3 c4 c5 r nR st (nI (400 + nR)) N j = 0 ↔ ∀ i, j ≤ i → i < 400 + nR → ¬ (slSet st (c2 i) (c4 i) ∧ slOpen r st (c2 i) (c3 i) (c4 i) (c5 i))) := by
  intro N
  induction N with
  | zero => intro j h; exact absurd h (Nat.not_lt_zero _)
  | succ N ih =>
    intro j h h4 hj
    rw [lf_Bo_barsRow_14]
    by_cases c1 : nI (400 + nR) ≤ nI j
    · have n1 : 400 + nR ≤ j := (nI_leI (by omega) (by omega)).mp c1
      rw [if_pos c1]
      exact ⟨fun _ i h1 h2 => absurd h2 (by omega), fun _ => rfl⟩
    · have n1 : j < 400 + nR := nI_nle2 c1 (by omega)
      rw [if_neg c1]
      have o1 := (open_sl (g2 := c2) (g3 := c3) (g4 := c4) (g5 := c5) (r := r) (sl := j) (st := st)).2
      have o2 := (set_sl (g2 := c2) (g4 := c4) (sl := j) (st := st)).2
      have key : ¬ (slSet st (c2 j) (c4 j) ∧ slOpen r st (c2 j) (c3 j) (c4 j) (c5 j)) → (lf_Bo_barsRow_14 c2 c3 c4 c5 r nR st (nI (400 + nR)) N (j + 1) = 0 ↔ ∀ i, j ≤ i → i < 400 + nR → ¬ (slSet st (c2 i) (c4 i) ∧ slOpen r st (c2 i) (c3 i) (c4 i) (c5 i))) := by
        intro h0
        refine (ih (j + 1) (by omega) (by omega) (by omega)).trans ⟨fun q i h1 h2 => ?_, fun q i h1 h2 => q i (by omega) h2⟩
        by_cases e : i = j
        · rw [e]; exact h0
        · exact q i (by omega) h2
      by_cases c2' : mr_Ma_isSettled c2 c4 j st = 0
      · rw [if_pos c2']; exact key (fun h9 => o2.mpr h9.1 c2')
      · rw [if_neg c2']
        by_cases c3' : mr_Ma_isOpen c2 c3 c4 c5 r j st = 0
        · rw [if_pos c3']; exact key (fun h9 => o1.mpr h9.2 c3')
        · rw [if_neg c3']
          exact ⟨fun h9 => absurd h9 (by decide), fun q => absurd ⟨o2.mp c2', o1.mp c3'⟩ (q j (Nat.le_refl _) n1)⟩
theorem bar_lf {g13 g14 g15 g16 q : Nat → Int32} {nC nR : Nat} : ∀ n, (lf_M_isBarred_4 g13 g14 g15 g16 q nC nR 0 n = 0 ↔ ∀ j, j < n → ¬ (q (g13 j).toNatClampNeg = g14 j ∧ q (g15 j).toNatClampNeg = g16 j)) := by
  intro n
  induction n with
  | zero => exact ⟨fun _ k h => absurd h (Nat.not_lt_zero _), fun _ => rfl⟩
  | succ n ih =>
    rw [lf_M_isBarred_4]
    by_cases h : lf_M_isBarred_4 g13 g14 g15 g16 q nC nR 0 n = 0
    · rw [if_pos h]
      have h' := ih.mp h
      by_cases a1 : q (g13 n).toNatClampNeg = g14 n
      · rw [if_pos a1]
        by_cases a2 : q (g15 n).toNatClampNeg = g16 n
        · rw [if_pos a2]
          exact ⟨fun h9 => absurd h9 (by decide), fun p => absurd ⟨a1, a2⟩ (p n (by omega))⟩
        · rw [if_neg a2]
          refine ⟨fun _ k hk => ?_, fun _ => rfl⟩
          by_cases e : k = n
          · rw [e]; exact fun h9 => a2 h9.2
          · exact h' k (by omega)
      · rw [if_neg a1]
        refine ⟨fun _ k hk => ?_, fun _ => rfl⟩
        by_cases e : k = n
        · rw [e]; exact fun h9 => a1 h9.1
        · exact h' k (by omega)
    · rw [if_neg h]
      exact ⟨fun h9 => absurd h9 (by decide), fun p => absurd (ih.mpr (fun k hk => p k (by omega))) h⟩
/-- a rule: both choices there, their values no marks -/
def ruR (nC : Nat) (a va b vb : Int32) : Prop := (∃ x : Nat, x < nC ∧ a = nI x) ∧ 0 ≤ va ∧ (∃ x : Nat, x < nC ∧ b = nI x) ∧ 0 ≤ vb
theorem rule_sl {g0 r q : Nat → Int32} {nC st : Nat} {a va b vb : Int32} (hC : nC ≤ 8) (hs : st ≤ nC) (s0 : ∀ c, c < nC → ∃ z : Nat, g0 c = nI z ∧ 2 ≤ z ∧ z ≤ 6) (hR : rowR g0 r q nC st) (hS : ruR nC a va b vb) : (slSet st a b ∧ slOpen r st a va b vb) ↔ (q a.toNatClampNeg = va ∧ q b.toNatClampNeg = vb) := by
  obtain ⟨⟨xa, hxa, ea⟩, hva, ⟨xb, hxb, eb⟩, hvb⟩ := hS
  have ca : a.toNatClampNeg = xa := by rw [ea]; exact nI_clamp (by omega)
  have cb : b.toNatClampNeg = xb := by rw [eb]; exact nI_clamp (by omega)
  have lea : nI st ≤ a ↔ st ≤ xa := by rw [ea]; exact nI_leI (by omega) (by omega)
  have leb : nI st ≤ b ↔ st ≤ xb := by rw [eb]; exact nI_leI (by omega) (by omega)
  have hb1 : ¬ b = -1 := by rw [eb]; exact m1_nle (by omega)
  unfold slSet slOpen
  rw [ca, cb, lea, leb]
  constructor
  · rintro ⟨⟨h1, h2⟩, h3, h4⟩
    refine ⟨?_, ?_⟩
    · rw [hR.2.1 xa (by omega)]; exact h3.resolve_left h1
    · rw [hR.2.1 xb (by omega)]; exact (h4.resolve_left hb1).resolve_left h2
  · rintro ⟨h1, h2⟩
    have k1 : ¬ st ≤ xa := fun h => by rw [hR.2.2 xa h hxa] at h1; exact m1_ne hva h1.symm
    have k2 : ¬ st ≤ xb := fun h => by rw [hR.2.2 xb h hxb] at h2; exact m1_ne hvb h2.symm
    rw [hR.2.1 xa (by omega)] at h1
    rw [hR.2.1 xb (by omega)] at h2
    exact ⟨⟨k1, k2⟩, Or.inr h1, Or.inr (Or.inr h2)⟩
theorem bars_eq {g0 r q c2 c3 c4 c5 g13 g14 g15 g16 : Nat → Int32} {nC nR st : Nat} (hC : nC ≤ 8) (hs : st ≤ nC) (hR40 : nR ≤ 40) (s0 : ∀ c, c < nC → ∃ z : Nat, g0 c = nI z ∧ 2 ≤ z ∧ z ≤ 6) (hR : rowR g0 r q nC st) (hL : rlR c2 c3 c4 c5 g13 g14 g15 g16 nR) (hS : ∀ j, j < nR → ruR nC (g13 j) (g14 j) (g15 j) (g16 j)) :
    mr_Bo_barsRow c2 c3 c4 c5 r nR st = 0 ↔ mr_M_isBarred g13 g14 g15 g16 q nC nR = 0 := by
  refine (br_lf hR40 (nR + 1) 400 (by omega) (Nat.le_refl _) (by omega)).trans (Iff.trans ?_ (bar_lf nR).symm)
  refine ⟨fun p j hj h => ?_, fun p i h1 h2 h => ?_⟩
  · obtain ⟨e2, e3, e4, e5⟩ := hL j hj
    refine p (400 + j) (by omega) (by omega) ?_
    rw [e2, e3, e4, e5]
    exact (rule_sl hC hs s0 hR (hS j hj)).mpr h
  · obtain ⟨e2, e3, e4, e5⟩ := hL (i - 400) (by omega)
    rw [show 400 + (i - 400) = i by omega] at e2 e3 e4 e5
    rw [e2, e3, e4, e5] at h
    exact p (i - 400) (by omega) ((rule_sl hC hs s0 hR (hS (i - 400) (by omega))).mp h)
