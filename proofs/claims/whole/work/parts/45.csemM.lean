/-! what a choice matters: both sides give the greatest difference along the choice -/
theorem d64 (a b : Int32) : (a.toInt64 - b.toInt64).toInt = a.toInt - b.toInt := by
  have h1 := a.toInt_lt
  have h2 := a.le_toInt
  have h3 := b.toInt_lt
  have h4 := b.le_toInt
  rw [Int64.toInt_sub, Int32.toInt_toInt64, Int32.toInt_toInt64]
  exact Int.bmod_eq_of_le_mul_two (by omega) (by omega)
theorem n64 (a b : Int32) : (-(a.toInt64 - b.toInt64)).toInt = b.toInt - a.toInt := by
  have h1 := a.toInt_lt
  have h2 := a.le_toInt
  have h3 := b.toInt_lt
  have h4 := b.le_toInt
  rw [Int64.toInt_neg, d64, Int.neg_sub]
  exact Int.bmod_eq_of_le_mul_two (by omega) (by omega)
theorem lgc_le (x y : Int64) : lg_cmp x y ≤ 0 ↔ x.toInt ≤ y.toInt := by
  unfold lg_cmp
  by_cases h1 : x > y
  · have := Int64.lt_iff_toInt_lt.mp h1
    rw [if_pos h1]
    exact ⟨fun h9 => absurd h9 (by decide), fun h9 => by omega⟩
  · have h2 : ¬ y.toInt < x.toInt := fun h9 => h1 (Int64.lt_iff_toInt_lt.mpr h9)
    rw [if_neg h1]
    by_cases h3 : x = y
    · rw [if_pos h3]; exact ⟨fun _ => by omega, fun _ => by decide⟩
    · rw [if_neg h3]; exact ⟨fun _ => by omega, fun _ => by decide⟩
/-- m is the greatest difference among pairs of S, or 0 without one -/
def mxI (S : Int → Prop) (m : Int) : Prop := 0 ≤ m ∧ (m = 0 ∨ S m) ∧ ∀ x, S x → x ≤ m
theorem mxI_eq {S S' : Int → Prop} {m m' : Int} (h : mxI S m) (h' : mxI S' m') (h1 : ∀ x, S x → 0 < x → ∃ y, S' y ∧ x ≤ y) (h2 : ∀ x, S' x → 0 < x → ∃ y, S y ∧ x ≤ y) : m = m' := by
  obtain ⟨a1, a2, a3⟩ := h
  obtain ⟨b1, b2, b3⟩ := h'
  have k1 : m ≤ m' := by
    rcases a2 with a2 | a2
    · omega
    · rcases Int.lt_or_le 0 m with q | q
      · obtain ⟨y, y1, y2⟩ := h1 m a2 q
        have := b3 y y1
        omega
      · omega
  have k2 : m' ≤ m := by
    rcases b2 with b2 | b2
    · omega
    · rcases Int.lt_or_le 0 m' with q | q
      · obtain ⟨y, y1, y2⟩ := h2 m' b2 q
        have := a3 y y1
        omega
      · omega
  omega
section CSM
variable {g27 g28 : Nat → Int32} {g6 : Nat → Int32} {nC nT nR nD nu : Nat} {ch nI' : Int32}
/-- the reference's pairs: e further along than d, in d's block -/
def pairR (g27 g28 : Nat → Int32) (nD nu u B : Nat) (d e : Nat) : Prop := e < nD ∧ ¬ g27 d = 0 ∧ ¬ g27 e = 0 ∧ e / B = d / B ∧ ∃ i, 1 ≤ i ∧ e = d + i * u
def absI (a b x : Int) : Prop := x = a - b ∨ x = b - a
theorem mt_in {u B d : Nat} (hu : 0 < u) (hB : 0 < B) (eu : pc_ (zg g6) nC ch.toNatClampNeg = u) (eB : pc_ (zg g6) nC ch.toNatClampNeg * zg g6 ch.toNatClampNeg = B) (en : nI'.toNatClampNeg = nu) (hN : nD ≤ 4096) (hB2 : B ≤ 4096) (hd : d < nD) (hl : ¬ g27 d = 0) {S : Int → Prop} (hS : ∀ e x, pairR g27 g28 nD nu u B d e → absI (g28 (4 * d + nu)).toInt (g28 (4 * e + nu)).toInt x → S x) :
    ∀ (N i : Nat) (mo : Int64), nD - (d + i * u) < N → 1 ≤ i → d + i * u ≤ 8192 → 0 ≤ mo.toInt → (mo.toInt = 0 ∨ S mo.toInt) →
      0 ≤ (lf_M_matters_101 g6 nC nT nR nD ch nI' d g27 g28 N mo (d + i * u)).1.toInt ∧ ((lf_M_matters_101 g6 nC nT nR nD ch nI' d g27 g28 N mo (d + i * u)).1.toInt = 0 ∨ S (lf_M_matters_101 g6 nC nT nR nD ch nI' d g27 g28 N mo (d + i * u)).1.toInt) ∧
      mo.toInt ≤ (lf_M_matters_101 g6 nC nT nR nD ch nI' d g27 g28 N mo (d + i * u)).1.toInt ∧
      ∀ k x, i ≤ k → pairR g27 g28 nD nu u B d (d + k * u) → absI (g28 (4 * d + nu)).toInt (g28 (4 * (d + k * u) + nu)).toInt x → x ≤ (lf_M_matters_101 g6 nC nT nR nD ch nI' d g27 g28 N mo (d + i * u)).1.toInt := by
  intro N
  induction N with
  | zero => intro i mo h; exact absurd h (Nat.not_lt_zero _)
  | succ N ih =>
    intro i mo h hi hy hmo hmS
    rw [lf_M_matters_101, if_neg hl, eB, eu, en]
    have hq1 : (d + i * u) / B ≤ 8192 := Nat.le_trans (Nat.div_le_self _ _) hy
    have hq2 : d / B ≤ 4096 := Nat.le_trans (Nat.div_le_self _ _) (by omega)
    by_cases c1 : nI nD ≤ nI (d + i * u)
    · have n1 : nD ≤ d + i * u := (nI_leI (by omega) (by omega)).mp c1
      rw [if_pos c1]
      refine ⟨hmo, hmS, Int.le_refl _, fun k x hk hp _ => ?_⟩
      have : i * u ≤ k * u := Nat.mul_le_mul_right _ hk
      exact absurd hp.1 (by omega)
    · have n1 : d + i * u < nD := nI_nle2 c1 (by omega)
      rw [if_neg c1]
      by_cases c2 : (d + i * u) / B = d / B
      · rw [if_pos (by rw [c2])]
        have hnext : d + i * u + u = d + (i + 1) * u := by rw [Nat.add_mul, Nat.one_mul, Nat.add_assoc]
        have hnx : d + (i + 1) * u ≤ 8192 := by
          have : u ≤ 4096 := by
            rw [← eB, eu] at hB2 hB
            rcases Nat.eq_zero_or_pos (zg g6 ch.toNatClampNeg) with q | q
            · rw [q, Nat.mul_zero] at hB; omega
            · exact Nat.le_trans (Nat.le_mul_of_pos_right _ q) hB2
          omega
        have hdec : nD - (d + (i + 1) * u) < N := by omega
        rw [hnext]
        by_cases c3 : g27 (d + i * u) = 0
        · rw [if_pos c3]
          obtain ⟨r1, r2, r3, r4⟩ := ih (i + 1) mo hdec (by omega) hnx hmo hmS
          refine ⟨r1, r2, r3, fun k x hk hp hx => ?_⟩
          by_cases e : k = i
          · rw [e] at hp; exact absurd c3 hp.2.2.1
          · exact r4 k x (by omega) hp hx
        · rw [if_neg c3]
          have hpair : pairR g27 g28 nD nu u B d (d + i * u) := ⟨n1, hl, c3, c2, i, hi, rfl⟩
          have e1 := d64 (g28 (4 * d + nu)) (g28 (4 * (d + i * u) + nu))
          have e2 := n64 (g28 (4 * d + nu)) (g28 (4 * (d + i * u) + nu))
          have s1 : S ((g28 (4 * d + nu)).toInt - (g28 (4 * (d + i * u) + nu)).toInt) := hS _ _ hpair (Or.inl rfl)
          have s2 : S ((g28 (4 * (d + i * u) + nu)).toInt - (g28 (4 * d + nu)).toInt) := hS _ _ hpair (Or.inr rfl)
          -- the step, whatever it takes: it is at least mo and both differences
          have fin : ∀ mo' : Int64, (mo'.toInt = 0 ∨ S mo'.toInt) → mo.toInt ≤ mo'.toInt → (g28 (4 * d + nu)).toInt - (g28 (4 * (d + i * u) + nu)).toInt ≤ mo'.toInt → (g28 (4 * (d + i * u) + nu)).toInt - (g28 (4 * d + nu)).toInt ≤ mo'.toInt →
              0 ≤ (lf_M_matters_101 g6 nC nT nR nD ch nI' d g27 g28 N mo' (d + (i + 1) * u)).1.toInt ∧ ((lf_M_matters_101 g6 nC nT nR nD ch nI' d g27 g28 N mo' (d + (i + 1) * u)).1.toInt = 0 ∨ S (lf_M_matters_101 g6 nC nT nR nD ch nI' d g27 g28 N mo' (d + (i + 1) * u)).1.toInt) ∧
              mo.toInt ≤ (lf_M_matters_101 g6 nC nT nR nD ch nI' d g27 g28 N mo' (d + (i + 1) * u)).1.toInt ∧
              ∀ k x, i ≤ k → pairR g27 g28 nD nu u B d (d + k * u) → absI (g28 (4 * d + nu)).toInt (g28 (4 * (d + k * u) + nu)).toInt x → x ≤ (lf_M_matters_101 g6 nC nT nR nD ch nI' d g27 g28 N mo' (d + (i + 1) * u)).1.toInt := by
            intro mo' p1 p2 p3 p4
            obtain ⟨r1, r2, r3, r4⟩ := ih (i + 1) mo' hdec (by omega) hnx (by omega) p1
            refine ⟨r1, r2, by omega, fun k x hk hp hx => ?_⟩
            by_cases e : k = i
            · subst e
              rcases hx with hx | hx <;> omega
            · exact r4 k x (by omega) hp hx
          by_cases c4 : lg_cmp ((g28 (4 * d + nu)).toInt64 - (g28 (4 * (d + i * u) + nu)).toInt64) mo ≤ 0
          · have q4 := (lgc_le _ _).mp c4
            rw [e1] at q4
            rw [if_pos c4]
            by_cases c5 : lg_cmp (-((g28 (4 * d + nu)).toInt64 - (g28 (4 * (d + i * u) + nu)).toInt64)) mo ≤ 0
            · have q5 := (lgc_le _ _).mp c5
              rw [e2] at q5
              rw [if_pos c5]
              exact fin mo hmS (Int.le_refl _) q4 q5
            · have q5 : ¬ _ ≤ _ := fun h9 => c5 ((lgc_le _ _).mpr h9)
              rw [e2] at q5
              rw [if_neg c5]
              exact fin _ (by rw [e2]; exact Or.inr s2) (by rw [e2]; omega) (by rw [e2]; omega) (by rw [e2]; exact Int.le_refl _)
          · have q4 : ¬ _ ≤ _ := fun h9 => c4 ((lgc_le _ _).mpr h9)
            rw [e1] at q4
            rw [if_neg c4]
            by_cases c5 : lg_cmp (-((g28 (4 * d + nu)).toInt64 - (g28 (4 * (d + i * u) + nu)).toInt64)) ((g28 (4 * d + nu)).toInt64 - (g28 (4 * (d + i * u) + nu)).toInt64) ≤ 0
            · have q5 := (lgc_le _ _).mp c5
              rw [e1, e2] at q5
              rw [if_pos c5]
              exact fin _ (by rw [e1]; exact Or.inr s1) (by rw [e1]; omega) (by rw [e1]; exact Int.le_refl _) (by rw [e1]; exact q5)
            · have q5 : ¬ _ ≤ _ := fun h9 => c5 ((lgc_le _ _).mpr h9)
              rw [e1, e2] at q5
              rw [if_neg c5]
              exact fin _ (by rw [e2]; exact Or.inr s2) (by rw [e2]; omega) (by rw [e2]; omega) (by rw [e2]; exact Int.le_refl _)
      · rw [if_neg (fun h9 => c2 ((nI_eq (by omega) (by omega)).mp h9))]
        refine ⟨hmo, hmS, Int.le_refl _, fun k x hk hp _ => ?_⟩
        have h1 : i * u ≤ k * u := Nat.mul_le_mul_right _ hk
        have h2 : (d + i * u) / B ≤ (d + k * u) / B := Nat.div_le_div_right (by omega)
        have h3 : d / B ≤ (d + i * u) / B := Nat.div_le_div_right (by omega)
        have h4 := hp.2.2.2.1
        exact absurd (by omega : (d + i * u) / B = d / B) c2
theorem mt_ref {u B : Nat} (hu : 0 < u) (hB : 0 < B) (eu : pc_ (zg g6) nC ch.toNatClampNeg = u) (eB : pc_ (zg g6) nC ch.toNatClampNeg * zg g6 ch.toNatClampNeg = B) (en : nI'.toNatClampNeg = nu) (hN : nD ≤ 4096) (hB2 : B ≤ 4096) (hu2 : u ≤ 4096) :
    ∀ k, k ≤ nD → mxI (fun x => ∃ d e, d < k ∧ pairR g27 g28 nD nu u B d e ∧ absI (g28 (4 * d + nu)).toInt (g28 (4 * e + nu)).toInt x) (lf_M_matters_85 g6 nC nT nR nD ch nI' g27 g28 0 k).toInt := by
  intro k
  induction k with
  | zero => intro _; exact ⟨Int.le_refl _, Or.inl rfl, fun x ⟨d, e, h, _⟩ => absurd h (Nat.not_lt_zero _)⟩
  | succ k ih =>
    intro hk
    obtain ⟨a1, a2, a3⟩ := ih (by omega)
    rw [lf_M_matters_85]
    by_cases hl : g27 k = 0
    · have e : ∀ mo y, (lf_M_matters_101 g6 nC nT nR nD ch nI' k g27 g28 (nD + 1) mo y).1 = mo := fun mo y => by rw [lf_M_matters_101, if_pos hl]
      rw [e]
      refine ⟨a1, a2.imp id (fun ⟨d, e, h1, h2⟩ => ⟨d, e, by omega, h2⟩), fun x ⟨d, e, h1, h2, h3⟩ => ?_⟩
      by_cases ed : d = k
      · rw [ed] at h2; exact absurd hl h2.2.1
      · exact a3 x ⟨d, e, by omega, h2, h3⟩
    · have h1u : k + 1 * u = k + u := by rw [Nat.one_mul]
      have r := mt_in (nT := nT) (nR := nR) hu hB eu eB en hN hB2 (by omega : k < nD) hl (S := fun x => ∃ d e, d < k + 1 ∧ pairR g27 g28 nD nu u B d e ∧ absI (g28 (4 * d + nu)).toInt (g28 (4 * e + nu)).toInt x) (fun e x h1 h2 => ⟨k, e, by omega, h1, h2⟩) (nD + 1) 1 (lf_M_matters_85 g6 nC nT nR nD ch nI' g27 g28 0 k) (by omega) (Nat.le_refl _) (by omega) a1 (a2.imp id (fun ⟨d, e, h1, h2⟩ => ⟨d, e, by omega, h2⟩))
      rw [h1u] at r
      rw [eu]
      obtain ⟨r1, r2, r3, r4⟩ := r
      refine ⟨r1, r2, fun x ⟨d, e, h1, h2, h3⟩ => ?_⟩
      by_cases ed : d = k
      · subst ed
        obtain ⟨i, i1, i2⟩ := h2.2.2.2.2
        rw [i2] at h2 h3
        exact r4 i x i1 h2 h3
      · exact Int.le_trans (a3 x ⟨d, e, by omega, h2, h3⟩) r3
end CSM
section CSN
variable {c0 c1 c8 c9 c10 c11 : Nat → Int32} {nC nD nu ch : Nat}
/-- the class: along one line -/
theorem da_lf {f u : Nat} (eu : pc_ (zg c0) nC ch = u) : ∀ n,
    ((lf_Bo_differenceAlong_12 c0 c8 c9 c10 c11 nC f ch nu 0 0 0 n).1 = 0 ∧ (∀ v, v < n → mr_Bo_allows c8 c9 c10 c11 (f + v * u) = 0) ∧ (lf_Bo_differenceAlong_12 c0 c8 c9 c10 c11 nC f ch nu 0 0 0 n).2.1 = 0 ∧ (lf_Bo_differenceAlong_12 c0 c8 c9 c10 c11 nC f ch nu 0 0 0 n).2.2 = 0) ∨
    (¬ (lf_Bo_differenceAlong_12 c0 c8 c9 c10 c11 nC f ch nu 0 0 0 n).1 = 0 ∧ ∃ a b, a < n ∧ b < n ∧ ¬ mr_Bo_allows c8 c9 c10 c11 (f + a * u) = 0 ∧ ¬ mr_Bo_allows c8 c9 c10 c11 (f + b * u) = 0 ∧ (lf_Bo_differenceAlong_12 c0 c8 c9 c10 c11 nC f ch nu 0 0 0 n).2.1 = (c10 ((f + a * u) * 4 + nu)).toInt64 ∧ (lf_Bo_differenceAlong_12 c0 c8 c9 c10 c11 nC f ch nu 0 0 0 n).2.2 = (c10 ((f + b * u) * 4 + nu)).toInt64 ∧
      ∀ v, v < n → ¬ mr_Bo_allows c8 c9 c10 c11 (f + v * u) = 0 → (c10 ((f + a * u) * 4 + nu)).toInt ≤ (c10 ((f + v * u) * 4 + nu)).toInt ∧ (c10 ((f + v * u) * 4 + nu)).toInt ≤ (c10 ((f + b * u) * 4 + nu)).toInt) := by
  intro n
  induction n with
  | zero => exact Or.inl ⟨rfl, fun v h => absurd h (Nat.not_lt_zero _), rfl, rfl⟩
  | succ n ih =>
    rw [lf_Bo_differenceAlong_12, eu]
    by_cases cL : mr_Bo_allows c8 c9 c10 c11 (f + n * u) = 0
    · rw [if_pos cL]
      rcases ih with ⟨h1, h2, h3, h4⟩ | ⟨h1, a, b, ha, hb, la, lb, ea, eb, hall⟩
      · refine Or.inl ⟨h1, fun v hv => ?_, h3, h4⟩
        by_cases e : v = n
        · rw [e]; exact cL
        · exact h2 v (by omega)
      · refine Or.inr ⟨h1, a, b, by omega, by omega, la, lb, ea, eb, fun v hv hl => ?_⟩
        by_cases e : v = n
        · rw [e] at hl; exact absurd cL hl
        · exact hall v (by omega) hl
    · rw [if_neg cL]
      have key : ∀ x y : Int32, ((if y.toInt64 < x.toInt64 then y.toInt64 else x.toInt64 : Int64) = x.toInt64 ∧ x.toInt ≤ y.toInt) ∨ ((if y.toInt64 < x.toInt64 then y.toInt64 else x.toInt64 : Int64) = y.toInt64 ∧ y.toInt < x.toInt) := by
        intro x y
        by_cases h : y.toInt64 < x.toInt64
        · have := Int64.lt_iff_toInt_lt.mp h
          rw [Int32.toInt_toInt64, Int32.toInt_toInt64] at this
          rw [if_pos h]; exact Or.inr ⟨rfl, this⟩
        · have : ¬ y.toInt < x.toInt := fun h9 => h (Int64.lt_iff_toInt_lt.mpr (by rw [Int32.toInt_toInt64, Int32.toInt_toInt64]; exact h9))
          rw [if_neg h]; exact Or.inl ⟨rfl, by omega⟩
      have keyX : ∀ x y : Int32, ((if y.toInt64 < x.toInt64 then x.toInt64 else y.toInt64 : Int64) = x.toInt64 ∧ y.toInt ≤ x.toInt) ∨ ((if y.toInt64 < x.toInt64 then x.toInt64 else y.toInt64 : Int64) = y.toInt64 ∧ x.toInt ≤ y.toInt) := by
        intro x y
        by_cases h : y.toInt64 < x.toInt64
        · have := Int64.lt_iff_toInt_lt.mp h
          rw [Int32.toInt_toInt64, Int32.toInt_toInt64] at this
          rw [if_pos h]; exact Or.inl ⟨rfl, by omega⟩
        · have : ¬ y.toInt < x.toInt := fun h9 => h (Int64.lt_iff_toInt_lt.mpr (by rw [Int32.toInt_toInt64, Int32.toInt_toInt64]; exact h9))
          rw [if_neg h]; exact Or.inr ⟨rfl, by omega⟩
      rcases ih with ⟨h1, h2, h3, h4⟩ | ⟨h1, a, b, ha, hb, la, lb, ea, eb, hall⟩
      · rw [if_pos h1]
        refine Or.inr ⟨by show ¬ (1 : Int32) = 0; decide, n, n, by omega, by omega, cL, cL, rfl, rfl, fun v hv hl => ?_⟩
        by_cases e : v = n
        · rw [e]; exact ⟨Int.le_refl _, Int.le_refl _⟩
        · exact absurd (h2 v (by omega)) hl
      · rw [if_neg h1, ea, eb]
        refine Or.inr ⟨by show ¬ (1 : Int32) = 0; decide, ?_⟩
        rcases key (c10 ((f + a * u) * 4 + nu)) (c10 ((f + n * u) * 4 + nu)) with ⟨k1, k2⟩ | ⟨k1, k2⟩ <;> rcases keyX (c10 ((f + b * u) * 4 + nu)) (c10 ((f + n * u) * 4 + nu)) with ⟨x1, x2⟩ | ⟨x1, x2⟩
        · refine ⟨a, b, by omega, by omega, la, lb, k1, x1, fun v hv hl => ?_⟩
          by_cases e : v = n
          · rw [e]; exact ⟨k2, x2⟩
          · exact hall v (by omega) hl
        · refine ⟨a, n, by omega, by omega, la, cL, k1, x1, fun v hv hl => ?_⟩
          by_cases e : v = n
          · rw [e]; exact ⟨k2, Int.le_refl _⟩
          · have := hall v (by omega) hl; exact ⟨this.1, by omega⟩
        · refine ⟨n, b, by omega, by omega, cL, lb, k1, x1, fun v hv hl => ?_⟩
          by_cases e : v = n
          · rw [e]; exact ⟨Int.le_refl _, x2⟩
          · have := hall v (by omega) hl; exact ⟨by omega, this.2⟩
        · refine ⟨n, n, by omega, by omega, cL, cL, k1, x1, fun v hv hl => ?_⟩
          by_cases e : v = n
          · rw [e]; exact ⟨Int.le_refl _, Int.le_refl _⟩
          · have := hall v (by omega) hl; exact ⟨by omega, by omega⟩
/-- two legal designs of one line -/
def pairC (c0 c8 c9 c10 c11 : Nat → Int32) (ch nu u f : Nat) (x : Int) : Prop := ∃ a b, a < zg c0 ch ∧ b < zg c0 ch ∧ ¬ mr_Bo_allows c8 c9 c10 c11 (f + a * u) = 0 ∧ ¬ mr_Bo_allows c8 c9 c10 c11 (f + b * u) = 0 ∧ x = (c10 ((f + b * u) * 4 + nu)).toInt - (c10 ((f + a * u) * 4 + nu)).toInt
theorem da_sem {f u : Nat} (eu : pc_ (zg c0) nC ch = u) : mxI (pairC c0 c8 c9 c10 c11 ch nu u f) (mr_Bo_differenceAlong c0 c8 c9 c10 c11 nC f ch nu).toInt := by
  unfold mr_Bo_differenceAlong
  rcases da_lf (f := f) (nu := nu) (c8 := c8) (c9 := c9) (c10 := c10) (c11 := c11) eu (zg c0 ch) with ⟨h1, h2, h3, h4⟩ | ⟨h1, a, b, ha, hb, la, lb, ea, eb, hall⟩
  · rw [h3, h4]
    exact ⟨by decide, Or.inl (by decide), fun x ⟨a, b, ha, hb, la, _⟩ => absurd (h2 a ha) la⟩
  · rw [ea, eb, d64]
    have h := hall a ha la
    refine ⟨by omega, Or.inr ⟨a, b, ha, hb, la, lb, rfl⟩, fun x ⟨a', b', ha', hb', la', lb', ex⟩ => ?_⟩
    have q1 := hall a' ha' la'
    have q2 := hall b' hb' lb'
    omega
theorem gd_sem {u : Nat} (eu : pc_ (zg c0) nC ch = u) : ∀ k, mxI (fun x => ∃ f, f < k ∧ mr_Sh_digit c0 c1 (nI f) ch = 0 ∧ pairC c0 c8 c9 c10 c11 ch nu u f x) (lf_Bo_greatestDifference_5 c0 c1 c8 c9 c10 c11 nC nD ch nu 0 k).toInt := by
  intro k
  induction k with
  | zero => exact ⟨by show (0 : Int) ≤ (0 : Int64).toInt; decide, Or.inl (by show (0 : Int64).toInt = 0; decide), fun x ⟨f, h, _⟩ => absurd h (Nat.not_lt_zero _)⟩
  | succ k ih =>
    obtain ⟨a1, a2, a3⟩ := ih
    rw [lf_Bo_greatestDifference_5]
    by_cases c : mr_Sh_digit c0 c1 (nI k) ch = 0
    · rw [if_pos c]
      obtain ⟨b1, b2, b3⟩ := da_sem (f := k) (nu := nu) (c8 := c8) (c9 := c9) (c10 := c10) (c11 := c11) eu
      by_cases h : mr_Bo_differenceAlong c0 c8 c9 c10 c11 nC k ch nu < lf_Bo_greatestDifference_5 c0 c1 c8 c9 c10 c11 nC nD ch nu 0 k
      · have h' := Int64.lt_iff_toInt_lt.mp h
        rw [if_pos h]
        refine ⟨a1, a2.imp id (fun ⟨f, h1, h2⟩ => ⟨f, by omega, h2⟩), fun x ⟨f, h1, h2, h3⟩ => ?_⟩
        by_cases e : f = k
        · rw [e] at h3; have := b3 x h3; omega
        · exact a3 x ⟨f, by omega, h2, h3⟩
      · have h' : ¬ _ < _ := fun h9 => h (Int64.lt_iff_toInt_lt.mpr h9)
        rw [if_neg h]
        refine ⟨b1, b2.imp id (fun h9 => ⟨k, by omega, c, h9⟩), fun x ⟨f, h1, h2, h3⟩ => ?_⟩
        by_cases e : f = k
        · rw [e] at h3; exact b3 x h3
        · have := a3 x ⟨f, by omega, h2, h3⟩; omega
    · rw [if_neg c]
      refine ⟨a1, a2.imp id (fun ⟨f, h1, h2⟩ => ⟨f, by omega, h2⟩), fun x ⟨f, h1, h2, h3⟩ => ?_⟩
      by_cases e : f = k
      · rw [e] at h2; exact absurd h2 c
      · exact a3 x ⟨f, by omega, h2, h3⟩
end CSN
