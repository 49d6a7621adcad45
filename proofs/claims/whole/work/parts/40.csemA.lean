/-! what the class's small methods mean -/
theorem i01 {x : Int32} (h : x = 0 ∨ x = 1) (hn : ¬ x = 0) : x = 1 := h.resolve_left hn
/-- all numbers of one design are at most those of another -/
def cLe (g10 : Nat → Int32) (d e : Nat) : Prop := ∀ k, k < 4 → g10 (d * 4 + k) ≤ g10 (e * 4 + k)
theorem am_lf {g10 : Nat → Int32} {d o : Nat} : ∀ (N n : Nat), 4 - n < N → n ≤ 4 → (lf_Bo_isAtMost_12 g10 d o N n = 0 ∨ lf_Bo_isAtMost_12 g10 d o N n = 1) ∧ (¬ lf_Bo_isAtMost_12 g10 d o N n = 0 ↔ ∀ k, n ≤ k → k < 4 → g10 (d * 4 + k) ≤ g10 (o * 4 + k)) := by
  intro N
  induction N with
  | zero => intro n h; exact absurd h (Nat.not_lt_zero _)
  | succ N ih =>
    intro n h hn
    rw [lf_Bo_isAtMost_12]
    by_cases c1 : 4 ≤ nI n
    · have n1 : 4 ≤ n := (nI_leI (a := 4) (b := n) (by omega) (by omega)).mp c1
      rw [if_pos c1]
      exact ⟨Or.inr rfl, fun _ k h1 h2 => absurd h2 (by omega), fun _ h9 => absurd h9 (by decide)⟩
    · have n1 : n < 4 := nI_nle2 (a := 4) c1 (by omega)
      rw [if_neg c1]
      by_cases c2 : g10 (d * 4 + n) ≤ g10 (o * 4 + n)
      · rw [if_pos c2]
        obtain ⟨i1, i2⟩ := ih (n + 1) (by omega) (by omega)
        refine ⟨i1, i2.trans ⟨fun q k h1 h2 => ?_, fun q k h1 h2 => q k (by omega) h2⟩⟩
        by_cases e : k = n
        · rw [e]; exact c2
        · exact q k (by omega) h2
      · rw [if_neg c2]
        exact ⟨Or.inl rfl, fun h9 => absurd rfl h9, fun q => absurd (q n (Nat.le_refl _) n1) c2⟩
theorem am_01 {g10 : Nat → Int32} {d o : Nat} : mr_Bo_isAtMost g10 d o = 0 ∨ mr_Bo_isAtMost g10 d o = 1 := (am_lf 5 0 (by omega) (by omega)).1
theorem am_sem {g10 : Nat → Int32} {d o : Nat} : ¬ mr_Bo_isAtMost g10 d o = 0 ↔ cLe g10 d o :=
  (am_lf 5 0 (by omega) (by omega)).2.trans ⟨fun q k h => q k (Nat.zero_le _) h, fun q k _ h => q k h⟩
theorem am_no {g10 : Nat → Int32} {d o : Nat} : mr_Bo_isAtMost g10 d o = 0 ↔ ¬ cLe g10 d o :=
  ⟨fun h q => am_sem.mpr q h, fun h => Classical.byContradiction (fun q => h (am_sem.mp q))⟩
theorem cLe_refl (g10 : Nat → Int32) (d : Nat) : cLe g10 d d := fun _ _ => Int32.le_refl _
theorem cLe_trans {g10 : Nat → Int32} {a b c : Nat} (h1 : cLe g10 a b) (h2 : cLe g10 b c) : cLe g10 a c := fun k hk => Int32.le_trans (h1 k hk) (h2 k hk)
/-- a design that is not barred and keeps the limits -/
def cLeg (g8 g9 g10 g11 : Nat → Int32) (d : Nat) : Prop := g11 d = 0 ∧ ∀ k, k < 4 → g8 k = 0 ∨ g10 (d * 4 + k) ≤ g9 k
theorem al_lf {g8 g9 g10 : Nat → Int32} {d : Nat} : ∀ (N n : Nat), 4 - n < N → n ≤ 4 → (lf_Bo_allows_13 g8 g9 g10 d N n = 0 ∨ lf_Bo_allows_13 g8 g9 g10 d N n = 1) ∧ (¬ lf_Bo_allows_13 g8 g9 g10 d N n = 0 ↔ ∀ k, n ≤ k → k < 4 → g8 k = 0 ∨ g10 (d * 4 + k) ≤ g9 k) := by
  intro N
  induction N with
  | zero => intro n h; exact absurd h (Nat.not_lt_zero _)
  | succ N ih =>
    intro n h hn
    rw [lf_Bo_allows_13]
    by_cases c1 : 4 ≤ nI n
    · have n1 : 4 ≤ n := (nI_leI (a := 4) (b := n) (by omega) (by omega)).mp c1
      rw [if_pos c1]
      exact ⟨Or.inr rfl, fun _ k h1 h2 => absurd h2 (by omega), fun _ h9 => absurd h9 (by decide)⟩
    · have n1 : n < 4 := nI_nle2 (a := 4) c1 (by omega)
      rw [if_neg c1]
      by_cases c0 : g8 n = 0
      · rw [if_pos c0]
        obtain ⟨i1, i2⟩ := ih (n + 1) (by omega) (by omega)
        refine ⟨i1, i2.trans ⟨fun q k h1 h2 => ?_, fun q k h1 h2 => q k (by omega) h2⟩⟩
        by_cases e : k = n
        · rw [e]; exact Or.inl c0
        · exact q k (by omega) h2
      · rw [if_neg c0]
        by_cases c2 : mr_Bo_sumOf g10 d n ≤ g9 n
        · rw [if_pos c2]
          obtain ⟨i1, i2⟩ := ih (n + 1) (by omega) (by omega)
          refine ⟨i1, i2.trans ⟨fun q k h1 h2 => ?_, fun q k h1 h2 => q k (by omega) h2⟩⟩
          by_cases e : k = n
          · rw [e]; exact Or.inr c2
          · exact q k (by omega) h2
        · rw [if_neg c2]
          exact ⟨Or.inl rfl, fun h9 => absurd rfl h9, fun q => ((q n (Nat.le_refl _) n1).elim (fun h9 => absurd h9 c0) (fun h9 => absurd h9 c2))⟩
theorem al_01 {g8 g9 g10 g11 : Nat → Int32} {d : Nat} : mr_Bo_allows g8 g9 g10 g11 d = 0 ∨ mr_Bo_allows g8 g9 g10 g11 d = 1 := by
  unfold mr_Bo_allows
  by_cases h : g11 d = 0
  · rw [if_pos h]; exact (al_lf 5 0 (by omega) (by omega)).1
  · rw [if_neg h]; exact Or.inl rfl
theorem al_sem {g8 g9 g10 g11 : Nat → Int32} {d : Nat} : ¬ mr_Bo_allows g8 g9 g10 g11 d = 0 ↔ cLeg g8 g9 g10 g11 d := by
  unfold mr_Bo_allows cLeg
  by_cases h : g11 d = 0
  · rw [if_pos h]
    exact (al_lf 5 0 (by omega) (by omega)).2.trans ⟨fun q => ⟨h, fun k hk => q k (Nat.zero_le _) hk⟩, fun q k _ hk => q.2 k hk⟩
  · rw [if_neg h]
    exact ⟨fun h9 => absurd rfl h9, fun q => absurd q.1 h⟩
theorem al_no {g8 g9 g10 g11 : Nat → Int32} {d : Nat} : mr_Bo_allows g8 g9 g10 g11 d = 0 ↔ ¬ cLeg g8 g9 g10 g11 d :=
  ⟨fun h q => al_sem.mpr q h, fun h => Classical.byContradiction (fun q => h (al_sem.mp q))⟩
/-! a new choice: the entries of design d / v for design d -/
theorem cp_lf {f t : Nat} {i0 : Nat → Int32} : ∀ n, n ≤ 4 → ∀ x k, k < 4 → lf_Bo_copyEntries_14 f t i0 n (x * 4 + k) = if x = t ∧ k < n then i0 (f * 4 + k) else i0 (x * 4 + k) := by
  intro n
  induction n with
  | zero => intro _ x k hk; rw [lf_Bo_copyEntries_14, if_neg (by omega)]
  | succ n ih =>
    intro hn x k hk
    rw [lf_Bo_copyEntries_14]
    have ef : lf_Bo_copyEntries_14 f t i0 n (f * 4 + n) = i0 (f * 4 + n) := by rw [ih (by omega) f n (by omega), if_neg (by omega)]
    by_cases e : x = t ∧ k = n
    · obtain ⟨rfl, rfl⟩ := e
      rw [pk_us, ef, if_pos (by omega)]
    · rw [pk_un (by omega), ih (by omega) x k hk]
      by_cases e2 : x = t ∧ k < n
      · rw [if_pos e2, if_pos (by omega)]
      · rw [if_neg e2, if_neg (by omega)]
theorem cp_sum {g10 g11 : Nat → Int32} {f t x k : Nat} (hk : k < 4) : (mr_Bo_copyEntries g10 g11 f t).1 (x * 4 + k) = if x = t then g10 (f * 4 + k) else g10 (x * 4 + k) := by
  show lf_Bo_copyEntries_14 f t g10 4 (x * 4 + k) = _
  rw [cp_lf 4 (Nat.le_refl _) x k hk]
  by_cases e : x = t
  · rw [if_pos ⟨e, hk⟩, if_pos e]
  · rw [if_neg (fun h => e h.1), if_neg e]
theorem cp_bar {g10 g11 : Nat → Int32} {f t x : Nat} : (mr_Bo_copyEntries g10 g11 f t).2 x = if x = t then g11 f else g11 x := by
  show upd g11 t (g11 f) x = _
  by_cases e : x = t
  · rw [e, pk_us, if_pos rfl]
  · rw [pk_un e, if_neg e]
/-- the inner loop: P says what entry x of the arrays holds -/
theorem sp_in {nD v k10 : Nat} {i0 i1 : Nat → Int32} (hk : k10 < nD) (hv : 2 ≤ v) : ∀ n, n ≤ v → ∀ x,
    ((∀ k, k < 4 → (lf_Bo_splitDesigns_18 nD v k10 i0 i1 n).1 (x * 4 + k) = if (nD - 1 - k10) * v + (v - n) ≤ x ∧ x < (nD - 1 - k10) * v + v then i0 ((nD - 1 - k10) * 4 + k) else i0 (x * 4 + k)) ∧
     (lf_Bo_splitDesigns_18 nD v k10 i0 i1 n).2 x = if (nD - 1 - k10) * v + (v - n) ≤ x ∧ x < (nD - 1 - k10) * v + v then i1 (nD - 1 - k10) else i1 x) := by
  intro n
  induction n with
  | zero =>
    intro _ x
    rw [lf_Bo_splitDesigns_18]
    exact ⟨fun k _ => by rw [if_neg (by omega)], by rw [if_neg (by omega)]⟩
  | succ n ih =>
    intro hn x
    generalize hD : nD - 1 - k10 = D at ih ⊢
    have hDv : D = 0 ∨ D + 1 ≤ D * v := by
      rcases Nat.eq_zero_or_pos D with h | h
      · exact Or.inl h
      · have : D * 2 ≤ D * v := Nat.mul_le_mul_left _ hv
        exact Or.inr (by omega)
    have hself := ih (by omega) D
    have hD0 : ¬ (D * v + (v - n) ≤ D ∧ D < D * v + v) := by
      rcases hDv with h | h
      · rw [h, Nat.zero_mul]; omega
      · omega
    rw [lf_Bo_splitDesigns_18, hD]
    refine ⟨fun k hk4 => ?_, ?_⟩
    · show (mr_Bo_copyEntries _ _ D (D * v + (v - 1 - n))).1 (x * 4 + k) = _
      rw [cp_sum hk4, (hself).1 k hk4, if_neg hD0, (ih (by omega) x).1 k hk4]
      by_cases e : x = D * v + (v - 1 - n)
      · rw [if_pos e, if_pos (by omega)]
      · rw [if_neg e]
        by_cases e2 : D * v + (v - n) ≤ x ∧ x < D * v + v
        · rw [if_pos e2, if_pos (by omega)]
        · rw [if_neg e2, if_neg (by omega)]
    · show (mr_Bo_copyEntries _ _ D (D * v + (v - 1 - n))).2 x = _
      rw [cp_bar, (hself).2, if_neg hD0, (ih (by omega) x).2]
      by_cases e : x = D * v + (v - 1 - n)
      · rw [if_pos e, if_pos (by omega)]
      · rw [if_neg e]
        by_cases e2 : D * v + (v - n) ≤ x ∧ x < D * v + v
        · rw [if_pos e2, if_pos (by omega)]
        · rw [if_neg e2, if_neg (by omega)]
theorem sp_out {nD v : Nat} {i0 i1 : Nat → Int32} (hv : 2 ≤ v) : ∀ n, n ≤ nD → ∀ x,
    (x < nD - n → (∀ k, k < 4 → (lf_Bo_splitDesigns_10 nD v i0 i1 n).1 (x * 4 + k) = i0 (x * 4 + k)) ∧ (lf_Bo_splitDesigns_10 nD v i0 i1 n).2 x = i1 x) ∧
    ((nD - n) * v ≤ x → x < nD * v → (∀ k, k < 4 → (lf_Bo_splitDesigns_10 nD v i0 i1 n).1 (x * 4 + k) = i0 (x / v * 4 + k)) ∧ (lf_Bo_splitDesigns_10 nD v i0 i1 n).2 x = i1 (x / v)) := by
  intro n
  induction n with
  | zero =>
    intro _ x
    rw [lf_Bo_splitDesigns_10]
    exact ⟨fun _ => ⟨fun _ _ => rfl, rfl⟩, fun h1 h2 => absurd h1 (by rw [Nat.sub_zero]; omega)⟩
  | succ n ih =>
    intro hn x
    have hin := sp_in (i0 := (lf_Bo_splitDesigns_10 nD v i0 i1 n).1) (i1 := (lf_Bo_splitDesigns_10 nD v i0 i1 n).2) (k10 := n) (nD := nD) (by omega) hv v (Nat.le_refl _) x
    rw [Nat.sub_self, Nat.add_zero] at hin
    obtain ⟨hD, hX⟩ := ih (by omega) (nD - 1 - n)
    obtain ⟨xD, xX⟩ := ih (by omega) x
    have hDl := hD (by omega)
    have e1 : (nD - n) * v = (nD - 1 - n) * v + v := by
      rw [show nD - n = (nD - 1 - n) + 1 by omega, Nat.add_mul, Nat.one_mul]
    have e2 : nD - (n + 1) = nD - 1 - n := by omega
    rw [lf_Bo_splitDesigns_10, e2]
    generalize hDD : nD - 1 - n = D at hin hDl e1 e2 ⊢
    have hDv : D * 2 ≤ D * v := Nat.mul_le_mul_left _ hv
    refine ⟨fun h => ?_, fun h1 h2 => ?_⟩
    · have hno : ¬ (D * v ≤ x ∧ x < D * v + v) := by omega
      obtain ⟨a1, a2⟩ := xD (by omega)
      exact ⟨fun k hk => by rw [hin.1 k hk, if_neg hno]; exact a1 k hk, by rw [hin.2, if_neg hno]; exact a2⟩
    · by_cases h3 : x < D * v + v
      · have hq : x / v = D := by
          have : x = v * D + (x - D * v) := by rw [Nat.mul_comm]; omega
          rw [this, Nat.mul_add_div (by omega), Nat.div_eq_of_lt (by omega), Nat.add_zero]
        exact ⟨fun k hk => by rw [hin.1 k hk, if_pos ⟨h1, h3⟩, hq]; exact hDl.1 k hk, by rw [hin.2, if_pos ⟨h1, h3⟩, hq]; exact hDl.2⟩
      · have hno : ¬ (D * v ≤ x ∧ x < D * v + v) := by omega
        obtain ⟨a1, a2⟩ := xX (by omega) h2
        exact ⟨fun k hk => by rw [hin.1 k hk, if_neg hno]; exact a1 k hk, by rw [hin.2, if_neg hno]; exact a2⟩
theorem sp_sem {nD v : Nat} {g10 g11 : Nat → Int32} (hv : 2 ≤ v) {x : Nat} (hx : x < nD * v) : (∀ k, k < 4 → (mr_Bo_splitDesigns g10 g11 nD v).1 (x * 4 + k) = g10 (x / v * 4 + k)) ∧ (mr_Bo_splitDesigns g10 g11 nD v).2 x = g11 (x / v) :=
  (sp_out hv nD (Nat.le_refl _) x).2 (by rw [Nat.sub_self, Nat.zero_mul]; exact Nat.zero_le _) hx
/-! a new choice: places -/
theorem pl_lf {nC nD v : Nat} {i0 : Nat → Int32} : ∀ n, n ≤ nC → ∀ c, lf_Sh_addChoice_2 nC nD v i0 n c = if c < n then i0 c * nI v else i0 c := by
  intro n
  induction n with
  | zero => intro _ c; rw [lf_Sh_addChoice_2, if_neg (by omega)]
  | succ n ih =>
    intro hn c
    rw [lf_Sh_addChoice_2]
    by_cases e : c = n
    · rw [e, pk_us, ih (by omega) n, if_neg (by omega), if_pos (by omega)]
    · rw [pk_un e, ih (by omega) c]
      by_cases e2 : c < n
      · rw [if_pos e2, if_pos (by omega)]
      · rw [if_neg e2, if_neg (by omega)]
theorem pc_new {z z' : Nat → Nat} {n v c : Nat} (h1 : ∀ j, j < n → z' j = z j) (h2 : z' n = v) (hc : c < n) : pc_ z' (n + 1) c = pc_ z n c * v := by
  unfold pc_
  rw [show n + 1 - (c + 1) = (n - (c + 1)) + 1 by omega, mp, show c + 1 + (n - (c + 1)) = n by omega, h2, mp_ext (y := z) (fun i hi => h1 _ (by omega))]
theorem pc_top {z : Nat → Nat} {n : Nat} : pc_ z (n + 1) n = 1 := by unfold pc_; rw [Nat.sub_self]; rfl
theorem pl_new {g0 g1 : Nat → Int32} {nC nD v : Nat} (hv : v < 2 ^ 31) (s1 : ∀ c, c < nC → g1 c = nI (pc_ (zg g0) nC c)) : ∀ c, c < nC + 1 → (mr_Sh_addChoice g0 g1 nC nD v).2.2.2 c = nI (pc_ (zg (mr_Sh_addChoice g0 g1 nC nD v).2.2.1) (nC + 1) c) := by
  intro c hc
  obtain ⟨u1, u2⟩ := zg_upd (g6 := g0) (n := nC) hv
  show upd (lf_Sh_addChoice_2 nC nD v g1 nC) nC 1 c = nI (pc_ (zg (upd g0 nC (nI v))) (nC + 1) c)
  by_cases e : c = nC
  · rw [e, pk_us, pc_top]; rfl
  · rw [pk_un e, pl_lf nC (Nat.le_refl _) c, if_pos (by omega), s1 c (by omega), pk_mul, pc_new u1 u2 (by omega)]
theorem cn_zext {z y r : Nat → Nat} : ∀ {n}, (∀ c, c < n → z c = y c) → cn z r n = cn y r n := by
  intro n
  induction n with
  | zero => intro _; rfl
  | succ n ih => intro h; rw [cn, cn, ih (fun c hc => h c (by omega)), h n (by omega)]
theorem dg_zext {z y : Nat → Nat} {n d c : Nat} (h : ∀ j, j < n → z j = y j) (hc : c < n) : dg z n d c = dg y n d c := by
  unfold dg pc_
  rw [h c hc, mp_ext (y := y) (fun i hi => h _ (by omega))]
