/-! small facts of ints that the walks use -/
theorem ix_cl {x : Int32} {n : Nat} (h : ∃ j : Nat, j < n ∧ x = nI j) (hn : n ≤ 65536) : x = nI x.toNatClampNeg ∧ x.toNatClampNeg < n := by
  obtain ⟨j, hj, rfl⟩ := h
  have e : (nI j).toNatClampNeg = j := nI_clamp (by omega)
  rw [e]
  exact ⟨rfl, hj⟩
theorem ix_nn {x : Int32} {n : Nat} (h : x = -1 ∨ ∃ j : Nat, j < n ∧ x = nI j) (hx : ¬ x < 0) : ∃ j : Nat, j < n ∧ x = nI j := by
  rcases h with h | h
  · exact absurd (by rw [h]; decide) hx
  · exact h
theorem bq_b {c : Prop} [Decidable c] {x : Int32} (h : (if c then 1 else x) = 0) : ¬ c := by
  intro hc
  rw [if_pos hc] at h
  exact absurd h (by decide)
theorem i0_toInt : (0 : Int32).toInt = 0 := rfl
theorem dn_toInt {n : Nat} (hn : n < 2 ^ 30) : (nI n - 1).toInt = (n : Int) - 1 := pk_sub_toInt (a := n) (b := 1) hn (by decide)
theorem dn_neg {n k : Nat} (h : nI (n - k) - 1 < 0) (hn : n ≤ 65536) : n ≤ k := by
  have e := dn_toInt (n := n - k) (by omega)
  have q := Int32.lt_iff_toInt_lt.mp h
  rw [e, i0_toInt] at q
  omega
theorem dn_nneg {n k : Nat} (h : ¬ nI (n - k) - 1 < 0) (hn : n ≤ 65536) : ¬ n ≤ k := by
  intro q
  apply h
  rw [Int32.lt_iff_toInt_lt, dn_toInt (by omega), i0_toInt]
  omega
theorem dn_ix {n k : Nat} (h : k < n) : nI (n - k) - 1 = nI (n - 1 - k) := by
  have e : n - k = (n - 1 - k) + 1 := by omega
  rw [e]
  exact nI_pred _
theorem ii_1 (k : Nat) : nI k + Int32.ofInt 1 = nI (k + 1) := by
  rw [show Int32.ofInt 1 = 1 by decide]
  exact nI_1 k
theorem ii_x (x : Int32) : x + Int32.ofInt 1 = x + 1 := by
  rw [show Int32.ofInt 1 = 1 by decide]
theorem dn_dec {n k : Nat} (h : k < n) : nI (n - k) - 1 + Int32.ofInt (-1) = nI (n - (k + 1)) - 1 := by
  rw [dn_ix h, show Int32.ofInt (-1) = -1 by decide, show n - 1 - k = n - (k + 1) by omega]
  exact (Int32.sub_eq_add_neg _ _).symm
theorem wi_ge {c : Int32} {n : Nat} (h1 : ¬ c < 0) (h2 : ¬ nI n - 1 < c) (hn : n ≤ 65536) : ∃ j : Nat, j < n ∧ c = nI j := by
  obtain ⟨j, hj, rfl⟩ := nI_of h1
  refine ⟨j, ?_, rfl⟩
  rcases Nat.lt_or_ge j n with q | q
  · exact q
  · exfalso
    apply h2
    rw [Int32.lt_iff_toInt_lt, dn_toInt (by omega), nI_toInt hj]
    omega
theorem wi_le {c : Int32} {n : Nat} (h1 : ¬ c < 0) (h2 : ¬ nI n < c) (hn : n ≤ 65536) : ∃ j : Nat, j < n + 1 ∧ c = nI j := by
  obtain ⟨j, hj, rfl⟩ := nI_of h1
  refine ⟨j, ?_, rfl⟩
  rcases Nat.lt_or_ge n j with q | q
  · exact absurd ((nI_ltI (by omega) hj).mpr q) h2
  · omega
theorem bq_c {c : Prop} [Decidable c] (h : (if c then 1 else 0 : Int32) ≤ 0) : ¬ c := by
  intro hc
  rw [if_pos hc] at h
  exact absurd h (by decide)
theorem bq_c1 {c : Prop} [Decidable c] {x : Int32} (h : (if c then 1 else x : Int32) ≤ 0) : ¬ c := by
  intro hc
  rw [if_pos hc] at h
  exact absurd h (by decide)
theorem bq_c2 {c b : Prop} [Decidable c] [Decidable b] (h : (if c then 1 else (if b then 1 else 0) : Int32) ≤ 0) : ¬ b := by
  intro hb
  rw [if_pos hb] at h
  split at h
  · exact absurd h (by decide)
  · exact absurd h (by decide)
theorem up_1 (x : Nat) : nI x - 1 + 1 = nI x := Int32.sub_add_cancel _ _
theorem up_pos {x : Nat} (h : 0 ≤ nI x - 1) (hx : x ≤ 65536) : 0 < x := by
  have q := Int32.le_iff_toInt_le.mp h
  rw [i0_toInt, dn_toInt (by omega)] at q
  omega
theorem sw_out {x : Int32} (h0 : ¬ x = 0) (h1 : ¬ x = 1) (h2 : ¬ x = 2) (h3 : ¬ x = 3) (h4 : ¬ x = 4) (h5 : ¬ x = 5) (h6 : ¬ x = 6) (h7 : ¬ x = 7) (h8 : ¬ x = 8) : x.toInt < 0 ∨ 8 < x.toInt := by
  have f : ∀ y : Int32, ¬ x = y → ¬ x.toInt = y.toInt := fun y h e => h (Int32.toInt_inj.mp e)
  have a0 := f 0 h0; have a1 := f 1 h1; have a2 := f 2 h2; have a3 := f 3 h3; have a4 := f 4 h4; have a5 := f 5 h5; have a6 := f 6 h6; have a7 := f 7 h7; have a8 := f 8 h8
  rw [show (0 : Int32).toInt = 0 from rfl] at a0; rw [show (1 : Int32).toInt = 1 from rfl] at a1; rw [show (2 : Int32).toInt = 2 from rfl] at a2; rw [show (3 : Int32).toInt = 3 from rfl] at a3; rw [show (4 : Int32).toInt = 4 from rfl] at a4; rw [show (5 : Int32).toInt = 5 from rfl] at a5; rw [show (6 : Int32).toInt = 6 from rfl] at a6; rw [show (7 : Int32).toInt = 7 from rfl] at a7; rw [show (8 : Int32).toInt = 8 from rfl] at a8
  omega
theorem zb_0 : narrow .boolean (.int 0) = .int 0 := rfl
theorem zb_1 : narrow .boolean (.int 1) = .int 1 := rfl
theorem zb_i {c : Prop} [Decidable c] {x y : Int32} (hx : narrow .boolean (.int x) = .int x) (hy : narrow .boolean (.int y) = .int y) : narrow .boolean (.int (if c then x else y)) = .int (if c then x else y) := by
  split
  · exact hx
  · exact hy
theorem zb_f {α : Type} {c : Prop} [Decidable c] {x y : Int32 × α} (hx : narrow .boolean (.int x.1) = .int x.1) (hy : narrow .boolean (.int y.1) = .int y.1) : narrow .boolean (.int (if c then x else y).1) = .int (if c then x else y).1 := by
  split
  · exact hx
  · exact hy
theorem vb_0 : vp_nar .boolean 0 = 0 := rfl
theorem vb_1 : vp_nar .boolean 1 = 1 := rfl
theorem vb_i {c : Prop} [Decidable c] {x y : Int32} (hx : vp_nar .boolean x = x) (hy : vp_nar .boolean y = y) : vp_nar .boolean (if c then x else y) = (if c then x else y) := by
  split
  · exact hx
  · exact hy
