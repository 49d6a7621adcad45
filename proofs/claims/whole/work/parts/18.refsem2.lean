/-! the numbers and legality of designs, as the reference finds them (M is its tag) -/
def rowD (g6 : Nat → Int32) (nC d st : Nat) : Nat → Int32 := fun c => if c < st then nI (dg (zg g6) nC d c) else -1
theorem counts_ext {g8 g9 g10 g11 r r' : Nat → Int32} {nC nT t : Nat} (hC : nC ≤ 8) (h8 : ∃ x : Nat, x < nC ∧ g8 t = nI x) (h10 : g10 t = -1 ∨ ∃ x : Nat, x < nC ∧ g10 t = nI x) (h : ∀ c, c < nC → r c = r' c) : mr_M_counts g8 g9 g10 g11 r nC nT t = mr_M_counts g8 g9 g10 g11 r' nC nT t := by
  have xa := ix_cl h8 (by omega)
  have ea : r (g8 t).toNatClampNeg = r' (g8 t).toNatClampNeg := h _ xa.2
  have eb : r (g10 t).toNatClampNeg = r' (g10 t).toNatClampNeg := by
    rcases h10 with e | e
    · rw [e, show (-1 : Int32).toNatClampNeg = 0 from rfl]
      exact h 0 (by have := xa.2; omega)
    · exact h _ (ix_cl e (by omega)).2
  unfold mr_M_counts
  rw [ea, eb]
section EM
variable {g7 g8 g9 g10 g11 g12 g13 g14 g15 g16 g17 g18 r r' : Nat → Int32} {nC nT nR : Nat}
theorem boundOf_ext {nu : Int32} (hC : nC ≤ 8) (h8 : ∀ t, t < nT → ∃ x : Nat, x < nC ∧ g8 t = nI x) (h10 : ∀ t, t < nT → g10 t = -1 ∨ ∃ x : Nat, x < nC ∧ g10 t = nI x) (h : ∀ c, c < nC → r c = r' c) : mr_M_boundOf g7 g8 g9 g10 g11 g12 r nC nT nu = mr_M_boundOf g7 g8 g9 g10 g11 g12 r' nC nT nu := by
  have key : ∀ k, k ≤ nT → lf_M_boundOf_4 g7 g8 g9 g10 g11 g12 r nC nT nu 0 k = lf_M_boundOf_4 g7 g8 g9 g10 g11 g12 r' nC nT nu 0 k := by
    intro k
    induction k with
    | zero => intro _; rfl
    | succ k ih => intro hk; rw [lf_M_boundOf_4, lf_M_boundOf_4, ih (by omega), counts_ext hC (h8 k (by omega)) (h10 k (by omega)) h]
  exact key nT (Nat.le_refl _)
theorem isBarred_ext (hC : nC ≤ 8) (h13 : ∀ j, j < nR → ∃ x : Nat, x < nC ∧ g13 j = nI x) (h15 : ∀ j, j < nR → ∃ x : Nat, x < nC ∧ g15 j = nI x) (h : ∀ c, c < nC → r c = r' c) : mr_M_isBarred g13 g14 g15 g16 r nC nR = mr_M_isBarred g13 g14 g15 g16 r' nC nR := by
  have key : ∀ k, k ≤ nR → lf_M_isBarred_4 g13 g14 g15 g16 r nC nR 0 k = lf_M_isBarred_4 g13 g14 g15 g16 r' nC nR 0 k := by
    intro k
    induction k with
    | zero => intro _; rfl
    | succ k ih => intro hk; rw [lf_M_isBarred_4, lf_M_isBarred_4, ih (by omega), h _ (ix_cl (h13 k (by omega)) (by omega)).2, h _ (ix_cl (h15 k (by omega)) (by omega)).2]
  exact key nR (Nat.le_refl _)
theorem passes_ext (hC : nC ≤ 8) (h8 : ∀ t, t < nT → ∃ x : Nat, x < nC ∧ g8 t = nI x) (h10 : ∀ t, t < nT → g10 t = -1 ∨ ∃ x : Nat, x < nC ∧ g10 t = nI x) (h : ∀ c, c < nC → r c = r' c) : mr_M_passesLimits g7 g8 g9 g10 g11 g12 g17 g18 r nC nT = mr_M_passesLimits g7 g8 g9 g10 g11 g12 g17 g18 r' nC nT := by
  have key : ∀ k, lf_M_passesLimits_4 g7 g8 g9 g10 g11 g12 g17 g18 r nC nT 0 k = lf_M_passesLimits_4 g7 g8 g9 g10 g11 g12 g17 g18 r' nC nT 0 k := by
    intro k
    induction k with
    | zero => rfl
    | succ k ih => rw [lf_M_passesLimits_4, lf_M_passesLimits_4, ih, boundOf_ext hC h8 h10 h]
  exact key 4
end EM
/-- legality (1 or 0) and the numbers, of a design -/
def sLeg (g6 g7 g8 g9 g10 g11 g12 g13 g14 g15 g16 g17 g18 : Nat → Int32) (nC nT nR d : Nat) : Int32 := if mr_M_isBarred g13 g14 g15 g16 (rowD g6 nC d nC) nC nR = 0 then (if mr_M_passesLimits g7 g8 g9 g10 g11 g12 g17 g18 (rowD g6 nC d nC) nC nT = 0 then 1 else 0) else 0
def sNum (g6 g7 g8 g9 g10 g11 g12 : Nat → Int32) (nC nT d k : Nat) : Int32 := mr_M_boundOf g7 g8 g9 g10 g11 g12 (rowD g6 nC d nC) nC nT (nI k)
theorem know59 {g7 g8 g9 g10 g11 g12 row i0 : Nat → Int32} {nC nT nR nD d : Nat} : ∀ k i, lf_M_know_59 g7 g8 g9 g10 g11 g12 nC nT nR nD d row i0 k i = if 4 * d ≤ i ∧ i < 4 * d + k then mr_M_boundOf g7 g8 g9 g10 g11 g12 row nC nT (nI (i - 4 * d)) else i0 i := by
  intro k
  induction k with
  | zero => intro i; rw [if_neg (by omega)]; rfl
  | succ k ih =>
    intro i
    rw [lf_M_know_59]
    by_cases h : i = 4 * d + k
    · rw [h, pk_us, if_pos (by omega), show 4 * d + k - 4 * d = k by omega]
    · rw [pk_un h, ih i]
      by_cases h2 : 4 * d ≤ i ∧ i < 4 * d + k
      · rw [if_pos h2, if_pos (by omega)]
      · rw [if_neg h2, if_neg (by omega)]
section KN
variable {g6 g7 g8 g9 g10 g11 g12 g13 g14 g15 g16 g17 g18 g19 g27 g28 : Nat → Int32} {nC nT nR nD : Nat}
theorem know15 (hC : nC ≤ 8) (h6 : ∀ c, c < nC → ∃ z : Nat, g6 c = nI z ∧ 2 ≤ z ∧ z ≤ 6) (h8 : ∀ t, t < nT → ∃ x : Nat, x < nC ∧ g8 t = nI x) (h10 : ∀ t, t < nT → g10 t = -1 ∨ ∃ x : Nat, x < nC ∧ g10 t = nI x) (h13 : ∀ j, j < nR → ∃ x : Nat, x < nC ∧ g13 j = nI x) (h15 : ∀ j, j < nR → ∃ x : Nat, x < nC ∧ g15 j = nI x) : ∀ n, n ≤ 4096 → ∀ d, d < n →
    (lf_M_know_15 g6 g7 g8 g9 g10 g11 g12 g13 g14 g15 g16 g17 g18 nC nT nR nD g19 g27 g28 n).2.1 d = sLeg g6 g7 g8 g9 g10 g11 g12 g13 g14 g15 g16 g17 g18 nC nT nR d ∧ ∀ k, k < 4 → (lf_M_know_15 g6 g7 g8 g9 g10 g11 g12 g13 g14 g15 g16 g17 g18 nC nT nR nD g19 g27 g28 n).2.2 (4 * d + k) = sNum g6 g7 g8 g9 g10 g11 g12 nC nT d k := by
  intro n
  induction n with
  | zero => intro _ d h; exact absurd h (Nat.not_lt_zero _)
  | succ n ih =>
    intro hn d hd
    have hrow : ∀ (g : Nat → Int32) (c : Nat), c < nC → mr_M_open g6 g nC n nC c = rowD g6 nC n nC c := fun g c hc => by
      unfold rowD
      rw [open_row hC h6 (by omega) hC c, if_pos hc, if_pos hc]
    rw [lf_M_know_15]
    generalize hq : lf_M_know_15 g6 g7 g8 g9 g10 g11 g12 g13 g14 g15 g16 g17 g18 nC nT nR nD g19 g27 g28 n = q at ih
    by_cases h : d = n
    · subst h
      refine ⟨?_, fun k hk => ?_⟩
      · show upd q.2.1 d _ d = _
        rw [pk_us, isBarred_ext hC h13 h15 (hrow _), passes_ext hC h8 h10 (hrow _)]
        rfl
      · show lf_M_know_59 _ _ _ _ _ _ nC nT nR nD d _ _ 4 (4 * d + k) = _
        rw [know59, if_pos (by omega), show 4 * d + k - 4 * d = k by omega, boundOf_ext hC h8 h10 (hrow _)]
        rfl
    · obtain ⟨i1, i2⟩ := ih (by omega) d (by omega)
      refine ⟨?_, fun k hk => ?_⟩
      · show upd q.2.1 n _ d = _
        rw [pk_un h, i1]
      · show lf_M_know_59 _ _ _ _ _ _ nC nT nR nD n _ _ 4 (4 * d + k) = _
        rw [know59, if_neg (by omega), i2 k hk]
/-- what is known stays right -/
theorem know_sem {f26 : Int32} (hC : nC ≤ 8) (hN : nD ≤ 4096) (h6 : ∀ c, c < nC → ∃ z : Nat, g6 c = nI z ∧ 2 ≤ z ∧ z ≤ 6) (h8 : ∀ t, t < nT → ∃ x : Nat, x < nC ∧ g8 t = nI x) (h10 : ∀ t, t < nT → g10 t = -1 ∨ ∃ x : Nat, x < nC ∧ g10 t = nI x) (h13 : ∀ j, j < nR → ∃ x : Nat, x < nC ∧ g13 j = nI x) (h15 : ∀ j, j < nR → ∃ x : Nat, x < nC ∧ g15 j = nI x)
    (hk : ¬ f26 = 0 → ∀ d, d < nD → g27 d = sLeg g6 g7 g8 g9 g10 g11 g12 g13 g14 g15 g16 g17 g18 nC nT nR d ∧ ∀ k, k < 4 → g28 (4 * d + k) = sNum g6 g7 g8 g9 g10 g11 g12 nC nT d k) : ¬ (mr_M_know f26 g6 g7 g8 g9 g10 g11 g12 g13 g14 g15 g16 g17 g18 g19 g27 g28 nC nT nR nD).1 = 0 ∧ ∀ d, d < nD →
    (mr_M_know f26 g6 g7 g8 g9 g10 g11 g12 g13 g14 g15 g16 g17 g18 g19 g27 g28 nC nT nR nD).2.2.1 d = sLeg g6 g7 g8 g9 g10 g11 g12 g13 g14 g15 g16 g17 g18 nC nT nR d ∧ ∀ k, k < 4 → (mr_M_know f26 g6 g7 g8 g9 g10 g11 g12 g13 g14 g15 g16 g17 g18 g19 g27 g28 nC nT nR nD).2.2.2 (4 * d + k) = sNum g6 g7 g8 g9 g10 g11 g12 nC nT d k := by
  unfold mr_M_know
  by_cases h : f26 = 0
  · rw [if_pos h]
    exact ⟨(by decide : ¬ (1 : Int32) = 0), fun d hd => know15 hC h6 h8 h10 h13 h15 nD hN d hd⟩
  · rw [if_neg h]
    exact ⟨h, hk h⟩
end KN
theorem acc_all {a : Int32} {P : Prop} [Decidable P] {Q : Nat → Prop} {k : Nat} (ih : a = 0 ↔ ∀ j, j < k → Q j) (hP : P ↔ Q k) : ((if a = 0 then (if P then 0 else 1) else 1 : Int32) = 0) ↔ ∀ j, j < k + 1 → Q j := by
  by_cases h1 : a = 0
  · rw [if_pos h1]
    by_cases h2 : P
    · rw [if_pos h2]
      exact ⟨fun _ => lt_s (ih.mp h1) (hP.mp h2), fun _ => rfl⟩
    · rw [if_neg h2]
      exact ⟨fun h => absurd h (by decide), fun h => absurd (hP.mpr (h k (Nat.lt_succ_self _))) h2⟩
  · rw [if_neg h1]
    exact ⟨fun h => absurd h (by decide), fun h => absurd (ih.mpr (fun j hj => h j (Nat.lt_succ_of_lt hj))) h1⟩
/-- all numbers of d are at most those of e -/
def sLe (g28 : Nat → Int32) (d e : Nat) : Prop := ∀ k, k < 4 → g28 (4 * d + k) ≤ g28 (4 * e + k)
theorem beaten_acc (g28 : Nat → Int32) (d y : Nat) : ∀ k, ((lf_M_isBeaten_8 g28 d y 0 0 k).1 = 0 ↔ ∀ j, j < k → g28 (4 * d + j) ≤ g28 (4 * y + j)) ∧ ((lf_M_isBeaten_8 g28 d y 0 0 k).2 = 0 ↔ ∀ j, j < k → g28 (4 * y + j) ≤ g28 (4 * d + j)) := by
  intro k
  induction k with
  | zero => exact ⟨⟨fun _ => lt_0, fun _ => rfl⟩, ⟨fun _ => lt_0, fun _ => rfl⟩⟩
  | succ k ih =>
    rw [lf_M_isBeaten_8]
    exact ⟨acc_all ih.1 Iff.rfl, acc_all ih.2 Iff.rfl⟩
theorem beaten_sem (g28 : Nat → Int32) (d y : Nat) : mr_M_isBeaten g28 d y = 0 ↔ ¬ (sLe g28 y d ∧ ¬ sLe g28 d y) := by
  obtain ⟨h1, h2⟩ := beaten_acc g28 d y 4
  unfold mr_M_isBeaten
  by_cases c1 : (lf_M_isBeaten_8 g28 d y 0 0 4).1 = 0
  · rw [if_pos c1]
    exact ⟨fun _ h => h.2 (h1.mp c1), fun _ => rfl⟩
  · rw [if_neg c1]
    by_cases c2 : (lf_M_isBeaten_8 g28 d y 0 0 4).2 = 0
    · rw [if_pos c2]
      exact ⟨fun h => absurd h (by decide), fun h => absurd ⟨h2.mp c2, fun q => c1 (h1.mpr q)⟩ h⟩
    · rw [if_neg c2]
      exact ⟨fun _ h => c2 (h2.mpr h.1), fun _ => rfl⟩
theorem und_lf {g27 g28 : Nat → Int32} {nD d : Nat} (hN : nD ≤ 4096) : ∀ (N y : Nat), nD - y < N → y ≤ nD → (lf_M_isUndominated_13 g27 g28 nD d N y = 0 ∨ lf_M_isUndominated_13 g27 g28 nD d N y = 1) ∧ (¬ lf_M_isUndominated_13 g27 g28 nD d N y = 0 ↔ ∀ e, y ≤ e → e < nD → ¬ g27 e = 0 → mr_M_isBeaten g28 d e = 0) := by
  intro N
  induction N with
  | zero => intro y h; exact absurd h (Nat.not_lt_zero _)
  | succ N ih =>
    intro y h hy
    rw [lf_M_isUndominated_13]
    by_cases c1 : nI nD ≤ nI y
    · have n1 : nD ≤ y := (nI_leI (by omega) (by omega)).mp c1
      rw [if_pos c1]
      exact ⟨Or.inr rfl, fun _ e h1 h2 => absurd h2 (by omega), fun _ => by decide⟩
    · have n1 : ¬ nD ≤ y := fun h9 => c1 ((nI_leI (by omega) (by omega)).mpr h9)
      obtain ⟨i1, i2⟩ := ih (y + 1) (by omega) (by omega)
      rw [if_neg c1]
      by_cases c2 : g27 y = 0
      · rw [if_pos c2]
        refine ⟨i1, fun q e h1 h2 h3 => ?_, fun q => i2.mpr (fun e h1 h2 h3 => q e (by omega) h2 h3)⟩
        rcases Nat.lt_or_ge y e with a | a
        · exact i2.mp q e a h2 h3
        · exact absurd c2 (by rw [show y = e by omega]; exact h3)
      · rw [if_neg c2]
        by_cases c3 : mr_M_isBeaten g28 d y = 0
        · rw [if_pos c3]
          refine ⟨i1, fun q e h1 h2 h3 => ?_, fun q => i2.mpr (fun e h1 h2 h3 => q e (by omega) h2 h3)⟩
          rcases Nat.lt_or_ge y e with a | a
          · exact i2.mp q e a h2 h3
          · rw [show e = y by omega]; exact c3
        · rw [if_neg c3]
          exact ⟨Or.inl rfl, fun q => absurd rfl q, fun q => absurd (q y (Nat.le_refl _) (by omega) c2) c3⟩
/-- undominated: legal, and no legal one beats it -/
def sUnd (g27 g28 : Nat → Int32) (nD d : Nat) : Prop := ¬ g27 d = 0 ∧ ∀ e, e < nD → ¬ g27 e = 0 → ¬ (sLe g28 e d ∧ ¬ sLe g28 d e)
theorem und_sem {g27 g28 : Nat → Int32} {nD d : Nat} (hN : nD ≤ 4096) : (mr_M_isUndominated g27 g28 nD d = 0 ∨ mr_M_isUndominated g27 g28 nD d = 1) ∧ (¬ mr_M_isUndominated g27 g28 nD d = 0 ↔ sUnd g27 g28 nD d) := by
  obtain ⟨i1, i2⟩ := und_lf (g27 := g27) (g28 := g28) (d := d) hN (nD + 1) 0 (by omega) (Nat.zero_le _)
  unfold mr_M_isUndominated
  by_cases c1 : g27 d = 0
  · rw [if_pos c1]
    exact ⟨Or.inl rfl, fun h => absurd rfl h, fun h => absurd c1 h.1⟩
  · rw [if_neg c1]
    refine ⟨i1, fun q => ⟨c1, fun e h1 h2 => (beaten_sem g28 d e).mp (i2.mp q e (Nat.zero_le _) h1 h2)⟩, fun q => i2.mpr (fun e _ h1 h2 => (beaten_sem g28 d e).mpr (q.2 e h1 h2))⟩
