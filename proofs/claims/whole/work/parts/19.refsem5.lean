/-! the numbers of a design under a new choice and a new term; limits by the numbers; what is barred under a new choice and a new rule (M is the reference's tag) -/
section LEG
variable {g6 g7 g8 g9 g10 g11 g12 g13 g14 g15 g16 g17 g18 : Nat → Int32} {nC nT nR : Nat}
theorem num_choice {v d k : Nat} (hC : nC ≤ 8) (hv : v < 2 ^ 31) (h8 : ∀ t, t < nT → ∃ x : Nat, x < nC ∧ g8 t = nI x) (h10 : ∀ t, t < nT → g10 t = -1 ∨ ∃ x : Nat, x < nC ∧ g10 t = nI x) : sNum (upd g6 nC (nI v)) g7 g8 g9 g10 g11 g12 (nC + 1) nT d k = sNum g6 g7 g8 g9 g10 g11 g12 nC nT (d / v) k := by
  unfold sNum
  rw [← boundOf_ext hC h8 h10 (fun c hc => row_split (g6 := g6) (d := d) hv hc)]
  exact bound_par nT
/-- a full row's entries are not below 0 -/
theorem row_nn {d c : Nat} (hC : nC ≤ 8) (h6 : ∀ c, c < nC → ∃ z : Nat, g6 c = nI z ∧ 2 ≤ z ∧ z ≤ 6) (hc : c < nC) : 0 ≤ rowD g6 nC d nC c := by
  unfold rowD
  rw [if_pos hc]
  have h := dg_lt (z := zg g6) (n := nC) (d := d) (c := c) (by have := (zg_ok h6 hc).2.1; omega)
  have h2 := (zg_ok h6 hc).2.2
  exact nI_pos' (by omega)
/-- whether a term's values are those of a design -/
def sFits (g6 : Nat → Int32) (nC d : Nat) (ta va tb vb : Int32) : Prop := rowD g6 nC d nC ta.toNatClampNeg = va ∧ (tb < 0 ∨ rowD g6 nC d nC tb.toNatClampNeg = vb)
theorem num_term {d k : Nat} {nu ta va tb vb w : Int32} (hC : nC ≤ 8) (h6 : ∀ c, c < nC → ∃ z : Nat, g6 c = nI z ∧ 2 ≤ z ∧ z ≤ 6) (ha : ∃ x : Nat, x < nC ∧ ta = nI x) (hb : tb = -1 ∨ ∃ x : Nat, x < nC ∧ tb = nI x) :
    (nu = nI k → sFits g6 nC d ta va tb vb → sNum g6 (upd g7 nT nu) (upd g8 nT ta) (upd g9 nT va) (upd g10 nT tb) (upd g11 nT vb) (upd g12 nT w) nC (nT + 1) d k = sNum g6 g7 g8 g9 g10 g11 g12 nC nT d k + w) ∧
    (¬ (nu = nI k ∧ sFits g6 nC d ta va tb vb) → sNum g6 (upd g7 nT nu) (upd g8 nT ta) (upd g9 nT va) (upd g10 nT tb) (upd g11 nT vb) (upd g12 nT w) nC (nT + 1) d k = sNum g6 g7 g8 g9 g10 g11 g12 nC nT d k) := by
  have e0 : lf_M_boundOf_4 (upd g7 nT nu) (upd g8 nT ta) (upd g9 nT va) (upd g10 nT tb) (upd g11 nT vb) (upd g12 nT w) (rowD g6 nC d nC) nC (nT + 1) (nI k) 0 nT = sNum g6 g7 g8 g9 g10 g11 g12 nC nT d k := by
    rw [bound_arr nT (fun t ht => ⟨pk_un (by omega), pk_un (by omega), pk_un (by omega), pk_un (by omega), pk_un (by omega), pk_un (by omega)⟩)]
    exact bound_par nT
  have ec := counts_full (nT := nT + 1) (g8 := upd g8 nT ta) (g9 := upd g9 nT va) (g10 := upd g10 nT tb) (g11 := upd g11 nT vb) (r := rowD g6 nC d nC) (t := nT) hC (by rw [pk_us]; exact ha) (by rw [pk_us]; exact hb) (fun c hc => row_nn hC h6 hc)
  rw [pk_us, pk_us, pk_us, pk_us] at ec
  have es : sNum g6 (upd g7 nT nu) (upd g8 nT ta) (upd g9 nT va) (upd g10 nT tb) (upd g11 nT vb) (upd g12 nT w) nC (nT + 1) d k = lf_M_boundOf_4 (upd g7 nT nu) (upd g8 nT ta) (upd g9 nT va) (upd g10 nT tb) (upd g11 nT vb) (upd g12 nT w) (rowD g6 nC d nC) nC (nT + 1) (nI k) 0 (nT + 1) := rfl
  rw [es, lf_M_boundOf_4, e0, pk_us, pk_us]
  refine ⟨fun h1 h2 => ?_, fun h => ?_⟩
  · rw [if_pos h1, ec, if_pos (show _ ∧ _ from h2), if_pos rfl]
  · by_cases h1 : nu = nI k
    · have h2 : ¬ sFits g6 nC d ta va tb vb := fun q => h ⟨h1, q⟩
      have h3 : ¬ (rowD g6 nC d nC ta.toNatClampNeg = va ∧ (tb < 0 ∨ rowD g6 nC d nC tb.toNatClampNeg = vb)) := h2
      rw [if_pos h1, ec, if_neg h3, if_neg (by decide), if_neg (by decide)]
      exact Int32.add_zero _
    · rw [if_neg h1]
theorem bar_choice {v d : Nat} (hC : nC ≤ 8) (hv : v < 2 ^ 31) (h13 : ∀ j, j < nR → ∃ x : Nat, x < nC ∧ g13 j = nI x) (h15 : ∀ j, j < nR → ∃ x : Nat, x < nC ∧ g15 j = nI x) : mr_M_isBarred g13 g14 g15 g16 (rowD (upd g6 nC (nI v)) (nC + 1) d (nC + 1)) (nC + 1) nR = mr_M_isBarred g13 g14 g15 g16 (rowD g6 nC (d / v) nC) nC nR := by
  rw [← isBarred_ext hC h13 h15 (fun c hc => row_split (g6 := g6) (d := d) hv hc)]
  exact bar_par nR
/-- limits are passed by the numbers -/
theorem passes_num {d : Nat} : mr_M_passesLimits g7 g8 g9 g10 g11 g12 g17 g18 (rowD g6 nC d nC) nC nT = 0 ↔ ∀ k, k < 4 → g17 k = 0 ∨ sNum g6 g7 g8 g9 g10 g11 g12 nC nT d k ≤ g18 k := by
  have key : ∀ n, lf_M_passesLimits_4 g7 g8 g9 g10 g11 g12 g17 g18 (rowD g6 nC d nC) nC nT 0 n = 0 ↔ ∀ k, k < n → g17 k = 0 ∨ sNum g6 g7 g8 g9 g10 g11 g12 nC nT d k ≤ g18 k := by
    intro n
    induction n with
    | zero => exact ⟨fun _ => lt_0, fun _ => rfl⟩
    | succ n ih =>
      rw [lf_M_passesLimits_4]
      by_cases c1 : lf_M_passesLimits_4 g7 g8 g9 g10 g11 g12 g17 g18 (rowD g6 nC d nC) nC nT 0 n = 0
      · rw [if_pos c1]
        by_cases c2 : g17 n = 0
        · rw [if_pos c2]
          exact ⟨fun _ => lt_s (ih.mp c1) (Or.inl c2), fun _ => rfl⟩
        · rw [if_neg c2]
          by_cases c3 : mr_M_boundOf g7 g8 g9 g10 g11 g12 (rowD g6 nC d nC) nC nT (nI n) ≤ g18 n
          · rw [if_pos c3]
            exact ⟨fun _ => lt_s (ih.mp c1) (Or.inr c3), fun _ => rfl⟩
          · rw [if_neg c3]
            exact ⟨fun h => absurd h (by decide), fun h => ((h n (Nat.lt_succ_self _)).elim c2 c3).elim⟩
      · rw [if_neg c1]
        exact ⟨fun h => absurd h (by decide), fun h => absurd (ih.mpr (fun j hj => h j (Nat.lt_succ_of_lt hj))) c1⟩
  exact key 4
end LEG
