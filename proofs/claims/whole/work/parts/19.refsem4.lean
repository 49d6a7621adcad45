/-! what a new choice, a new term, a new rule do to the numbers and to what is barred (M is the reference's tag) -/
theorem dg_split {z z' : Nat → Nat} {n v d c : Nat} (h1 : ∀ j, j < n → z' j = z j) (h2 : z' n = v) (hc : c < n) : dg z' (n + 1) d c = dg z n (d / v) c := by
  unfold dg pc_
  have e1 : n + 1 - (c + 1) = (n - (c + 1)) + 1 := by omega
  have e2 : c + 1 + (n - (c + 1)) = n := by omega
  rw [e1, mp, e2, h2, h1 c hc, mp_ext (z := z') (y := z) (fun i hi => h1 _ (by omega)), Nat.mul_comm, Nat.div_div_eq_div_mul]
theorem dg_last {z' : Nat → Nat} {n v d : Nat} (h2 : z' n = v) : dg z' (n + 1) d n = d % v := by
  unfold dg pc_
  rw [Nat.sub_self, mp, Nat.div_one, h2]
theorem zg_upd {g6 : Nat → Int32} {n v : Nat} (hv : v < 2 ^ 31) : (∀ j, j < n → zg (upd g6 n (nI v)) j = zg g6 j) ∧ zg (upd g6 n (nI v)) n = v := by
  unfold zg
  refine ⟨fun j hj => by rw [pk_un (by omega)], ?_⟩
  rw [pk_us]
  exact nI_clamp hv
theorem row_split {g6 : Nat → Int32} {nC v d c : Nat} (hv : v < 2 ^ 31) (hc : c < nC) : rowD (upd g6 nC (nI v)) (nC + 1) d (nC + 1) c = rowD g6 nC (d / v) nC c := by
  unfold rowD
  rw [if_pos (by omega), if_pos hc, dg_split (zg_upd hv).1 (zg_upd hv).2 hc]
section PUSH
variable {g7 g8 g9 g10 g11 g12 g13 g14 g15 g16 g17 g18 r : Nat → Int32} {nC nC' nT nT' nR nR' : Nat}
theorem bound_par {nu : Int32} (k : Nat) : lf_M_boundOf_4 g7 g8 g9 g10 g11 g12 r nC nT nu 0 k = lf_M_boundOf_4 g7 g8 g9 g10 g11 g12 r nC' nT' nu 0 k := by
  induction k with
  | zero => rfl
  | succ k ih => rw [lf_M_boundOf_4, lf_M_boundOf_4, ih]; rfl
theorem bar_par (k : Nat) : lf_M_isBarred_4 g13 g14 g15 g16 r nC nR 0 k = lf_M_isBarred_4 g13 g14 g15 g16 r nC' nR' 0 k := by
  induction k with
  | zero => rfl
  | succ k ih => rw [lf_M_isBarred_4, lf_M_isBarred_4, ih]
theorem bound_arr {a7 a8 a9 a10 a11 a12 : Nat → Int32} {nu : Int32} : ∀ k, (∀ t, t < k → a7 t = g7 t ∧ a8 t = g8 t ∧ a9 t = g9 t ∧ a10 t = g10 t ∧ a11 t = g11 t ∧ a12 t = g12 t) → lf_M_boundOf_4 a7 a8 a9 a10 a11 a12 r nC nT nu 0 k = lf_M_boundOf_4 g7 g8 g9 g10 g11 g12 r nC nT nu 0 k := by
  intro k
  induction k with
  | zero => intro _; rfl
  | succ k ih =>
    intro h
    obtain ⟨e7, e8, e9, e10, e11, e12⟩ := h k (Nat.lt_succ_self _)
    have ec : mr_M_counts a8 a9 a10 a11 r nC nT k = mr_M_counts g8 g9 g10 g11 r nC nT k := by
      unfold mr_M_counts
      rw [e8, e9, e10, e11]
    rw [lf_M_boundOf_4, lf_M_boundOf_4, ih (fun t ht => h t (Nat.lt_succ_of_lt ht)), ec, e7, e12]
theorem bar_arr {a13 a14 a15 a16 : Nat → Int32} : ∀ k, (∀ t, t < k → a13 t = g13 t ∧ a14 t = g14 t ∧ a15 t = g15 t ∧ a16 t = g16 t) → lf_M_isBarred_4 a13 a14 a15 a16 r nC nR 0 k = lf_M_isBarred_4 g13 g14 g15 g16 r nC nR 0 k := by
  intro k
  induction k with
  | zero => intro _; rfl
  | succ k ih =>
    intro h
    obtain ⟨e3, e4, e5, e6⟩ := h k (Nat.lt_succ_self _)
    rw [lf_M_isBarred_4, lf_M_isBarred_4, ih (fun t ht => h t (Nat.lt_succ_of_lt ht)), e3, e4, e5, e6]
/-- a row whose choices are all set: a term counts, or it doesn't -/
theorem counts_full {t : Nat} (hC : nC ≤ 8) (h8 : ∃ x : Nat, x < nC ∧ g8 t = nI x) (h10 : g10 t = -1 ∨ ∃ x : Nat, x < nC ∧ g10 t = nI x) (hr : ∀ c, c < nC → 0 ≤ r c) : mr_M_counts g8 g9 g10 g11 r nC nT t = if r (g8 t).toNatClampNeg = g9 t ∧ (g10 t < 0 ∨ r (g10 t).toNatClampNeg = g11 t) then 1 else -1 := by
  have xa := ix_cl h8 (by omega)
  have ra := hr _ xa.2
  have rb : ¬ g10 t < 0 → 0 ≤ r (g10 t).toNatClampNeg := fun h => hr _ (ix_cl (ix_nn h10 h) (by omega)).2
  unfold mr_M_counts
  by_cases c1 : r (g8 t).toNatClampNeg = g9 t
  · by_cases c2 : g10 t < 0
    · rw [show (if r (g8 t).toNatClampNeg = g9 t ∧ (g10 t < 0 ∨ r (g10 t).toNatClampNeg = g11 t) then (1 : Int32) else -1) = 1 from if_pos ⟨c1, Or.inl c2⟩, if_pos c1, if_pos c2]
      try rfl
    · by_cases c3 : r (g10 t).toNatClampNeg = g11 t
      · rw [show (if r (g8 t).toNatClampNeg = g9 t ∧ (g10 t < 0 ∨ r (g10 t).toNatClampNeg = g11 t) then (1 : Int32) else -1) = 1 from if_pos ⟨c1, Or.inr c3⟩, if_pos c1, if_neg c2, if_pos c3]
        try rfl
      · have r0 : ¬ r (g10 t).toNatClampNeg < 0 := fun h => absurd (rb c2) (Int32.not_le.mpr h)
        rw [show (if r (g8 t).toNatClampNeg = g9 t ∧ (g10 t < 0 ∨ r (g10 t).toNatClampNeg = g11 t) then (1 : Int32) else -1) = -1 from if_neg (fun h => h.2.elim c2 c3), if_pos c1, if_neg c2, if_neg c3, if_neg r0]
        try rfl
  · rw [show (if r (g8 t).toNatClampNeg = g9 t ∧ (g10 t < 0 ∨ r (g10 t).toNatClampNeg = g11 t) then (1 : Int32) else -1) = -1 from if_neg (fun h => c1 h.1), if_neg c1, if_pos ra]
    try rfl
end PUSH
