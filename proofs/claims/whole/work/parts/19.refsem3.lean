/-! how many are undominated, and the k-th of them, as the reference finds them (M is its tag) -/
def cu (u : Nat → Int32) : Nat → Nat
  | 0 => 0
  | n + 1 => cu u n + (if u n = 0 then 0 else 1)
theorem cu_le (u : Nat → Int32) : ∀ n, cu u n ≤ n := by
  intro n
  induction n with
  | zero => exact Nat.le_refl _
  | succ n ih => rw [cu]; split <;> omega
theorem cu_mono {u : Nat → Int32} {a b : Nat} (h : a ≤ b) : cu u a ≤ cu u b := by
  induction b with
  | zero => rw [show a = 0 by omega]; exact Nat.le_refl _
  | succ b ih =>
    rcases Nat.lt_or_ge a (b + 1) with q | q
    · have := ih (by omega)
      rw [cu]; omega
    · rw [show a = b + 1 by omega]; exact Nat.le_refl _
theorem und_cnt {g27 g28 : Nat → Int32} {nC nT nR nD : Nat} : ∀ k, lf_M_undominated_13 nC nT nR nD g27 g28 0 k = nI (cu (fun d => mr_M_isUndominated g27 g28 nD d) k) := by
  intro k
  induction k with
  | zero => rfl
  | succ k ih =>
    rw [lf_M_undominated_13, ih, cu]
    by_cases h : mr_M_isUndominated g27 g28 nD k = 0
    · rw [if_pos h, if_pos h]
      exact nI_add _ 0
    · rw [if_neg h, if_neg h]
      exact nI_add _ 1
section AT
variable {f0 f26 p : Int32} {g19 h27 h28 q g27 g28 : Nat → Int32} {nC nT nR nD : Nat}
theorem at_hit (hN : nD ≤ 4096) {d : Nat} (hd : d < nD) (hu : ¬ mr_M_isUndominated g27 g28 nD d = 0) : ∀ (N y : Nat), nD - y < N → y ≤ d → lf_M_at_13 f0 f26 g19 h27 h28 nC nT nR nD (nI (cu (fun d => mr_M_isUndominated g27 g28 nD d) d)) p q g27 g28 N (nI (cu (fun d => mr_M_isUndominated g27 g28 nD d) y)) y = (nI d, 0, p, q, g27, g28) := by
  intro N
  induction N with
  | zero => intro y h; exact absurd h (Nat.not_lt_zero _)
  | succ N ih =>
    intro y h hy
    have hl := cu_le (fun d => mr_M_isUndominated g27 g28 nD d) d
    have hl2 := cu_le (fun d => mr_M_isUndominated g27 g28 nD d) y
    rw [lf_M_at_13, if_neg (fun h9 => absurd ((nI_leI (by omega) (by omega)).mp h9) (by omega)), if_neg (nI_pos (by omega))]
    by_cases c1 : mr_M_isUndominated g27 g28 nD y = 0
    · have hyd : y ≠ d := fun e => hu (by rw [← e]; exact c1)
      have e := ih (y + 1) (by omega) (by omega)
      rw [if_pos c1]
      rw [show cu (fun d => mr_M_isUndominated g27 g28 nD d) (y + 1) = cu (fun d => mr_M_isUndominated g27 g28 nD d) y by rw [cu, if_pos c1]; rfl] at e
      exact e
    · rw [if_neg c1]
      by_cases hyd : y = d
      · rw [hyd, if_pos rfl]
      · have hm : cu (fun d => mr_M_isUndominated g27 g28 nD d) (y + 1) ≤ cu (fun d => mr_M_isUndominated g27 g28 nD d) d := cu_mono (by omega)
        have e := ih (y + 1) (by omega) (by omega)
        rw [show cu (fun d => mr_M_isUndominated g27 g28 nD d) (y + 1) = cu (fun d => mr_M_isUndominated g27 g28 nD d) y + 1 by rw [cu, if_neg c1]] at hm e
        rw [if_neg (fun h9 => absurd ((nI_eq (by omega) (by omega)).mp h9) (by omega)), nI_1]
        exact e
theorem at_miss (hN : nD ≤ 4096) {kk : Int32} (hk : ∀ d, d < nD → ¬ mr_M_isUndominated g27 g28 nD d = 0 → ¬ kk = nI (cu (fun d => mr_M_isUndominated g27 g28 nD d) d)) : ∀ (N y : Nat), nD - y < N → y ≤ nD → lf_M_at_13 f0 f26 g19 h27 h28 nC nT nR nD kk p q g27 g28 N (nI (cu (fun d => mr_M_isUndominated g27 g28 nD d) y)) y = ((mr_M_fail 1).1, (mr_M_fail 1).2, p, q, g27, g28) := by
  intro N
  induction N with
  | zero => intro y h; exact absurd h (Nat.not_lt_zero _)
  | succ N ih =>
    intro y h hy
    rw [lf_M_at_13]
    by_cases c0 : nI nD ≤ nI y
    · rw [if_pos c0]
    · have n0 : ¬ nD ≤ y := fun h9 => c0 ((nI_leI (by omega) (by omega)).mpr h9)
      rw [if_neg c0]
      by_cases c9 : kk < 0
      · rw [if_pos c9]
      · rw [if_neg c9]
        have e := ih (y + 1) (by omega) (by omega)
        by_cases c1 : mr_M_isUndominated g27 g28 nD y = 0
        · rw [if_pos c1]
          rw [show cu (fun d => mr_M_isUndominated g27 g28 nD d) (y + 1) = cu (fun d => mr_M_isUndominated g27 g28 nD d) y by rw [cu, if_pos c1]; rfl] at e
          exact e
        · rw [if_neg c1, if_neg (fun h9 => hk y (by omega) c1 h9.symm), nI_1]
          rw [show cu (fun d => mr_M_isUndominated g27 g28 nD d) (y + 1) = cu (fun d => mr_M_isUndominated g27 g28 nD d) y + 1 by rw [cu, if_neg c1]] at e
          exact e
end AT
