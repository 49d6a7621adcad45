/-! the undominated designs: heads, and who is left -/
section CSU
variable {g10 : Nat → Int32} {L : Nat → Prop}
/-- what holds behind the first i designs: sz members, kept in me; he names the head of a design -/
def uI (g10 : Nat → Int32) (L : Nat → Prop) (i sz : Nat) (me he : Nat → Int32) : Prop :=
  (∀ j, j < sz → ∃ x : Nat, x < i ∧ me j = nI x ∧ L x ∧ he x = nI x) ∧
  (∀ j k, j < sz → k < sz → j ≠ k → ¬ cLe g10 (me j).toNatClampNeg (me k).toNatClampNeg) ∧
  (∀ y, y < i → L y → ∃ j, j < sz ∧ cLe g10 (me j).toNatClampNeg y) ∧
  (∀ y, y < i → he y = -1 ∨ ∃ x : Nat, x ≤ y ∧ he y = nI x ∧ L y ∧ cLe g10 x y ∧ cLe g10 y x ∧ (he x = nI x ∨ he x = -1)) ∧
  (∀ x, x < i → he x = nI x → ∃ j, j < sz ∧ me j = nI x) ∧
  (∀ y j, y < i → L y → j < sz → cLe g10 (me j).toNatClampNeg y → cLe g10 y (me j).toNatClampNeg → he y = me j)
theorem u0 {me he : Nat → Int32} : uI g10 L 0 0 me he :=
  ⟨fun j h => absurd h (Nat.not_lt_zero _), fun j k h => absurd h (Nat.not_lt_zero _), fun y h => absurd h (Nat.not_lt_zero _), fun y h => absurd h (Nat.not_lt_zero _), fun x h => absurd h (Nat.not_lt_zero _), fun y j h => absurd h (Nat.not_lt_zero _)⟩
/-- headFor: the first member that is at most d decides -/
theorem hf_sem {g12 : Nat → Int32} {sz d : Nat} (hs : sz ≤ 4096) (hM : ∀ j, j < sz → ∃ x : Nat, x < 4096 ∧ g12 j = nI x) : ∀ (N i : Nat), sz - i < N → i ≤ sz →
    (∃ j, i ≤ j ∧ j < sz ∧ cLe g10 (g12 j).toNatClampNeg d ∧ ((cLe g10 d (g12 j).toNatClampNeg ∧ lf_Fr_headFor_2 g10 g12 sz d N i = g12 j) ∨ (¬ cLe g10 d (g12 j).toNatClampNeg ∧ lf_Fr_headFor_2 g10 g12 sz d N i = -1))) ∨
    ((∀ j, i ≤ j → j < sz → ¬ cLe g10 (g12 j).toNatClampNeg d) ∧ lf_Fr_headFor_2 g10 g12 sz d N i = nI d) := by
  intro N
  induction N with
  | zero => intro i h; exact absurd h (Nat.not_lt_zero _)
  | succ N ih =>
    intro i h hi
    rw [lf_Fr_headFor_2]
    by_cases c1 : nI sz ≤ nI i
    · have n1 : sz ≤ i := (nI_leI (by omega) (by omega)).mp c1
      rw [if_pos c1]
      exact Or.inr ⟨fun j h1 h2 => absurd h2 (by omega), rfl⟩
    · have n1 : i < sz := nI_nle2 c1 (by omega)
      rw [if_neg c1]
      by_cases c2 : mr_Bo_isAtMost g10 (g12 i).toNatClampNeg d = 0
      · rw [if_pos c2]
        have c2' := am_no.mp c2
        rcases ih (i + 1) (by omega) (by omega) with ⟨j, j1, j2, j3⟩ | ⟨a1, a2⟩
        · exact Or.inl ⟨j, by omega, j2, j3⟩
        · refine Or.inr ⟨fun j h1 h2 => ?_, a2⟩
          by_cases e : j = i
          · rw [e]; exact c2'
          · exact a1 j (by omega) h2
      · rw [if_neg c2]
        have c2' := am_sem.mp c2
        have ex := (ix_cl (hM i n1) (by omega)).1
        by_cases c3 : mr_Bo_isAtMost g10 d (g12 i).toNatClampNeg = 0
        · rw [if_pos c3]
          exact Or.inl ⟨i, Nat.le_refl _, n1, c2', Or.inr ⟨am_no.mp c3, rfl⟩⟩
        · rw [if_neg c3]
          exact Or.inl ⟨i, Nat.le_refl _, n1, c2', Or.inl ⟨am_sem.mp c3, ex.symm⟩⟩
/-- dropBeatenBy: those stay to which d is not at most; the others' heads become -1 -/
theorem db_sem {g12 : Nat → Int32} {sz d : Nat} (hs : sz ≤ 4096) (hM : ∀ j, j < sz → ∃ x : Nat, x < 4096 ∧ g12 j = nI x) : ∀ (N i ke : Nat) (me he : Nat → Int32), sz - i < N → ke ≤ i → i ≤ sz → (∀ j, i ≤ j → me j = g12 j) →
    (∃ (K : Nat) (s : Nat → Nat), (lf_Fr_dropBeatenBy_4 g10 g12 sz d N i ke me he).2.1 = ke + K ∧ ke + K ≤ sz ∧ (∀ j, j < ke → (lf_Fr_dropBeatenBy_4 g10 g12 sz d N i ke me he).2.2.1 j = me j) ∧
      (∀ j, j < K → i ≤ s j ∧ s j < sz ∧ (lf_Fr_dropBeatenBy_4 g10 g12 sz d N i ke me he).2.2.1 (ke + j) = g12 (s j) ∧ ¬ cLe g10 d (g12 (s j)).toNatClampNeg) ∧ (∀ j k, j < K → k < K → s j = s k → j = k) ∧
      (∀ x, i ≤ x → x < sz → ¬ cLe g10 d (g12 x).toNatClampNeg → ∃ j, j < K ∧ s j = x)) ∧
    (∀ y, (lf_Fr_dropBeatenBy_4 g10 g12 sz d N i ke me he).2.2.2 y = he y ∧ (∀ x, i ≤ x → x < sz → cLe g10 d (g12 x).toNatClampNeg → ¬ (g12 x).toNatClampNeg = y) ∨ (lf_Fr_dropBeatenBy_4 g10 g12 sz d N i ke me he).2.2.2 y = -1 ∧ ∃ x, i ≤ x ∧ x < sz ∧ cLe g10 d (g12 x).toNatClampNeg ∧ (g12 x).toNatClampNeg = y) := by
  intro N
  induction N with
  | zero => intro i ke me he h; exact absurd h (Nat.not_lt_zero _)
  | succ N ih =>
    intro i ke me he h hke hi hme
    rw [lf_Fr_dropBeatenBy_4]
    by_cases c1 : nI sz ≤ nI i
    · have n1 : sz ≤ i := (nI_leI (by omega) (by omega)).mp c1
      rw [if_pos c1]
      refine ⟨⟨0, fun _ => 0, rfl, by omega, fun j _ => rfl, fun j h9 => absurd h9 (Nat.not_lt_zero _), fun j k h9 => absurd h9 (Nat.not_lt_zero _), fun x h1 h2 => absurd h2 (by omega)⟩, fun y => Or.inl ⟨rfl, fun x h1 h2 => absurd h2 (by omega)⟩⟩
    · have n1 : i < sz := nI_nle2 c1 (by omega)
      have ex := (ix_cl (hM i n1) (by omega)).1
      rw [if_neg c1]
      by_cases c2 : mr_Bo_isAtMost g10 d (g12 i).toNatClampNeg = 0
      · have c2' := am_no.mp c2
        rw [if_pos c2]
        obtain ⟨⟨K, s, k1, k2, k3, k4, k5, k6⟩, k7⟩ := ih (i + 1) (ke + 1) (upd me ke (nI (g12 i).toNatClampNeg)) he (by omega) (by omega) (by omega) (fun j hj => (pk_un (by omega)).trans (hme j (by omega)))
        refine ⟨⟨K + 1, fun j => if j = 0 then i else s (j - 1), by rw [k1]; omega, by omega, fun j hj => ?_, fun j hj => ?_, fun j k hj hk e => ?_, fun x h1 h2 h3 => ?_⟩, fun y => ?_⟩
        · rw [k3 j (by omega), pk_un (by omega)]
        · by_cases e : j = 0
          · subst e
            refine ⟨Nat.le_refl _, n1, ?_, c2'⟩
            exact ((k3 ke (by omega)).trans pk_us).trans ex.symm
          · dsimp only
            rw [if_neg e]
            obtain ⟨q1, q2, q3, q4⟩ := k4 (j - 1) (by omega)
            rw [show ke + 1 + (j - 1) = ke + j by omega] at q3
            exact ⟨by omega, q2, q3, q4⟩
        · have e' : (if j = 0 then i else s (j - 1)) = (if k = 0 then i else s (k - 1)) := e
          by_cases e1 : j = 0 <;> by_cases e2 : k = 0
          · omega
          · rw [if_pos e1, if_neg e2] at e'
            have := (k4 (k - 1) (by omega)).1
            omega
          · rw [if_neg e1, if_pos e2] at e'
            have := (k4 (j - 1) (by omega)).1
            omega
          · rw [if_neg e1, if_neg e2] at e'
            have := k5 (j - 1) (k - 1) (by omega) (by omega) e'
            omega
        · by_cases e : x = i
          · exact ⟨0, by omega, by show (if (0 : Nat) = 0 then i else s (0 - 1)) = x; rw [if_pos rfl, e]⟩
          · obtain ⟨j, j1, j2⟩ := k6 x (by omega) h2 h3
            exact ⟨j + 1, by omega, by show (if j + 1 = 0 then i else s (j + 1 - 1)) = x; rw [if_neg (by omega), Nat.add_sub_cancel]; exact j2⟩
        · rcases k7 y with ⟨a1, a2⟩ | ⟨a1, x, x1, x2, x3, x4⟩
          · refine Or.inl ⟨a1, fun x h1 h2 h3 => ?_⟩
            by_cases e : x = i
            · rw [e] at h3; exact absurd h3 c2'
            · exact a2 x (by omega) h2 h3
          · exact Or.inr ⟨a1, x, by omega, x2, x3, x4⟩
      · have c2' := am_sem.mp c2
        rw [if_neg c2]
        obtain ⟨⟨K, s, k1, k2, k3, k4, k5, k6⟩, k7⟩ := ih (i + 1) ke me (upd he (g12 i).toNatClampNeg (-1)) (by omega) (by omega) (by omega) (fun j hj => hme j (by omega))
        refine ⟨⟨K, s, k1, k2, k3, fun j hj => ⟨by have := (k4 j hj).1; omega, (k4 j hj).2⟩, k5, fun x h1 h2 h3 => ?_⟩, fun y => ?_⟩
        · by_cases e : x = i
          · rw [e] at h3; exact absurd c2' h3
          · exact k6 x (by omega) h2 h3
        · rcases k7 y with ⟨a1, a2⟩ | ⟨a1, x, x1, x2, x3, x4⟩
          · by_cases e : (g12 i).toNatClampNeg = y
            · exact Or.inr ⟨by rw [a1, ← e, pk_us], i, Nat.le_refl _, n1, c2', e⟩
            · refine Or.inl ⟨by rw [a1, pk_un (fun h9 => e h9.symm)], fun x h1 h2 h3 => ?_⟩
              by_cases e2 : x = i
              · rw [e2]; exact e
              · exact a2 x (by omega) h2 h3
          · exact Or.inr ⟨a1, x, by omega, x2, x3, x4⟩
/-- one design more -/
theorem u_no {i sz : Nat} {me he : Nat → Int32} (h : uI g10 L i sz me he) (hi : i ≤ 4096) (hL : ¬ L i) : uI g10 L (i + 1) sz me (upd he i (-1)) := by
  obtain ⟨a1, a2, a3, a4, a5, a6⟩ := h
  refine ⟨fun j hj => ?_, a2, fun y hy hl => ?_, fun y hy => ?_, fun x hx e => ?_, fun y j hy hl hj h1 h2 => ?_⟩
  · obtain ⟨x, x1, x2, x3, x4⟩ := a1 j hj
    exact ⟨x, by omega, x2, x3, by rw [pk_un (by omega)]; exact x4⟩
  · by_cases e : y = i
    · rw [e] at hl; exact absurd hl hL
    · exact a3 y (by omega) hl
  · by_cases e : y = i
    · rw [e, pk_us]; exact Or.inl rfl
    · rw [pk_un e]
      rcases a4 y (by omega) with q | ⟨x, x1, x2, x3, x4, x5, x6⟩
      · exact Or.inl q
      · exact Or.inr ⟨x, x1, x2, x3, x4, x5, by rw [pk_un (by omega)]; exact x6⟩
  · by_cases e2 : x = i
    · rw [e2, pk_us] at e
      exact absurd e.symm (m1_nle (by omega))
    · rw [pk_un e2] at e
      exact a5 x (by omega) e
  · by_cases e : y = i
    · rw [e] at hl; exact absurd hl hL
    · rw [pk_un e]; exact a6 y j (by omega) hl hj h1 h2
theorem u_old {i sz j0 : Nat} {me he : Nat → Int32} {V : Int32} (h : uI g10 L i sz me he) (hi : i ≤ 4096) (hL : L i) (hj : j0 < sz) (hle : cLe g10 (me j0).toNatClampNeg i) (hV : (cLe g10 i (me j0).toNatClampNeg ∧ V = me j0) ∨ (¬ cLe g10 i (me j0).toNatClampNeg ∧ V = -1)) : uI g10 L (i + 1) sz me (upd he i V) ∧ ¬ V = nI i := by
  obtain ⟨a1, a2, a3, a4, a5, a6⟩ := h
  obtain ⟨x0, p1, p2, p3, p4⟩ := a1 j0 hj
  have c0 : (me j0).toNatClampNeg = x0 := by rw [p2]; exact nI_clamp (by omega)
  have hVi : ¬ V = nI i := by
    rcases hV with ⟨-, e⟩ | ⟨-, e⟩
    · rw [e, p2]; exact fun h9 => absurd ((nI_eq (by omega) (by omega)).mp h9) (by omega)
    · rw [e]; exact fun h9 => m1_nle (x := i) (by omega) h9.symm
  refine ⟨⟨fun j hj => ?_, a2, fun y hy hl => ?_, fun y hy => ?_, fun x hx e => ?_, fun y j hy hl hj' h1 h2 => ?_⟩, hVi⟩
  · obtain ⟨x, x1, x2, x3, x4⟩ := a1 j hj
    exact ⟨x, by omega, x2, x3, by rw [pk_un (by omega)]; exact x4⟩
  · by_cases e : y = i
    · rw [e]; exact ⟨j0, hj, hle⟩
    · exact a3 y (by omega) hl
  · by_cases e : y = i
    · rw [e, pk_us]
      rcases hV with ⟨q1, q2⟩ | ⟨-, q2⟩
      · refine Or.inr ⟨x0, by omega, by rw [q2, p2], hL, by rw [← c0]; exact hle, by rw [← c0]; exact q1, Or.inl ?_⟩
        rw [pk_un (by omega)]; exact p4
      · exact Or.inl q2
    · rw [pk_un e]
      rcases a4 y (by omega) with q | ⟨x, x1, x2, x3, x4, x5, x6⟩
      · exact Or.inl q
      · exact Or.inr ⟨x, x1, x2, x3, x4, x5, by rw [pk_un (by omega)]; exact x6⟩
  · by_cases e2 : x = i
    · rw [e2, pk_us] at e; exact absurd e hVi
    · rw [pk_un e2] at e; exact a5 x (by omega) e
  · by_cases e : y = i
    · subst e
      rw [pk_us]
      -- the member that is level with it is the one that was found
      have hjj : j = j0 := by
        by_cases hne : j0 = j
        · exact hne.symm
        · exact absurd (cLe_trans hle h2) (a2 j0 j hj hj' hne)
      subst hjj
      rcases hV with ⟨-, q2⟩ | ⟨q1, -⟩
      · exact q2
      · exact absurd h2 q1
    · rw [pk_un e]; exact a6 y j (by omega) hl hj' h1 h2
theorem u_new {i sz K : Nat} {me me' he he' : Nat → Int32} {s : Nat → Nat} (h : uI g10 L i sz me he) (hi : i < 4096) (hL : L i) (hno : ∀ j, j < sz → ¬ cLe g10 (me j).toNatClampNeg i)
    (h4 : ∀ j, j < K → s j < sz ∧ me' j = me (s j) ∧ ¬ cLe g10 i (me (s j)).toNatClampNeg) (h5 : ∀ j k, j < K → k < K → s j = s k → j = k) (h6 : ∀ x, x < sz → ¬ cLe g10 i (me x).toNatClampNeg → ∃ j, j < K ∧ s j = x)
    (h7 : ∀ y, he' y = upd he i (nI i) y ∧ (∀ x, x < sz → cLe g10 i (me x).toNatClampNeg → ¬ (me x).toNatClampNeg = y) ∨ he' y = -1 ∧ ∃ x, x < sz ∧ cLe g10 i (me x).toNatClampNeg ∧ (me x).toNatClampNeg = y) :
    uI g10 L (i + 1) (K + 1) (upd me' K (nI i)) he' := by
  obtain ⟨a1, a2, a3, a4, a5, a6⟩ := h
  have ci : (nI i).toNatClampNeg = i := nI_clamp (by omega)
  -- the members are apart, and all below i
  have hm : ∀ j, j < sz → (me j).toNatClampNeg < i ∧ me j = nI (me j).toNatClampNeg := fun j hj => by
    obtain ⟨x, x1, x2, -⟩ := a1 j hj
    have : (me j).toNatClampNeg = x := by rw [x2]; exact nI_clamp (by omega)
    rw [this]; exact ⟨x1, x2⟩
  have hiK : he' i = nI i := by
    rcases h7 i with ⟨q, -⟩ | ⟨-, x, x1, -, x3⟩
    · rw [q, pk_us]
    · exact absurd x3 (by have := (hm x x1).1; omega)
  -- a member that stays keeps its head
  have keep : ∀ x, x < sz → ¬ cLe g10 i (me x).toNatClampNeg → he' (me x).toNatClampNeg = he (me x).toNatClampNeg := fun x hx hn => by
    have hlt := (hm x hx).1
    rcases h7 (me x).toNatClampNeg with ⟨q, -⟩ | ⟨-, x', x1, x2, x3⟩
    · rw [q, pk_un (by omega)]
    · exfalso
      by_cases e : x' = x
      · rw [e] at x2; exact hn x2
      · exact a2 x' x x1 hx e (by rw [x3]; exact cLe_refl _ _)
  refine ⟨fun j hj => ?_, fun j k hj hk hjk => ?_, fun y hy hl => ?_, fun y hy => ?_, fun x hx e => ?_, fun y j hy hl hj q1 q2 => ?_⟩
  · by_cases e : j = K
    · rw [e, pk_us]; exact ⟨i, by omega, rfl, hL, hiK⟩
    · rw [pk_un e]
      obtain ⟨b1, b2, b3⟩ := h4 j (by omega)
      obtain ⟨x, x1, x2, x3, x4⟩ := a1 (s j) b1
      have cx : (me (s j)).toNatClampNeg = x := by rw [x2]; exact nI_clamp (by omega)
      refine ⟨x, by omega, by rw [b2, x2], x3, ?_⟩
      have := keep (s j) b1 b3
      rw [cx] at this
      rw [this]; exact x4
  · by_cases e1 : j = K
    · rw [e1, pk_us, ci, pk_un (fun h9 => hjk (e1.trans h9.symm))]
      obtain ⟨b1, b2, b3⟩ := h4 k (by omega)
      rw [b2]; exact b3
    · rw [pk_un e1]
      obtain ⟨b1, b2, b3⟩ := h4 j (by omega)
      by_cases e2 : k = K
      · rw [e2, pk_us, ci, b2]; exact hno (s j) b1
      · rw [pk_un e2]
        obtain ⟨d1, d2, d3⟩ := h4 k (by omega)
        rw [b2, d2]
        exact a2 (s j) (s k) b1 d1 (fun h9 => hjk (h5 j k (by omega) (by omega) h9))
  · by_cases e : y = i
    · exact ⟨K, by omega, by rw [pk_us, ci, e]; exact cLe_refl _ _⟩
    · obtain ⟨j, j1, j2⟩ := a3 y (by omega) hl
      by_cases c : cLe g10 i (me j).toNatClampNeg
      · exact ⟨K, by omega, by rw [pk_us, ci]; exact cLe_trans c j2⟩
      · obtain ⟨k, k1, k2⟩ := h6 j j1 c
        refine ⟨k, by omega, ?_⟩
        rw [pk_un (by omega), (h4 k k1).2.1, k2]
        exact j2
  · by_cases e : y = i
    · rw [e, hiK]
      exact Or.inr ⟨i, Nat.le_refl _, rfl, hL, cLe_refl _ _, cLe_refl _ _, Or.inl hiK⟩
    · rcases h7 y with ⟨q, -⟩ | ⟨q, -⟩
      · rw [q, pk_un e]
        rcases a4 y (by omega) with p | ⟨x, x1, x2, x3, x4, x5, x6⟩
        · exact Or.inl p
        · refine Or.inr ⟨x, x1, x2, x3, x4, x5, ?_⟩
          rcases h7 x with ⟨q', -⟩ | ⟨q', -⟩
          · rw [q', pk_un (by omega)]; exact x6
          · exact Or.inr q'
      · exact Or.inl q
  · by_cases e2 : x = i
    · exact ⟨K, by omega, by rw [pk_us, e2]⟩
    · rcases h7 x with ⟨q, qn⟩ | ⟨q, -⟩
      · rw [q, pk_un e2] at e
        obtain ⟨j, j1, j2⟩ := a5 x (by omega) e
        have cx : (me j).toNatClampNeg = x := by rw [j2]; exact nI_clamp (by omega)
        obtain ⟨k, k1, k2⟩ := h6 j j1 (fun c => qn j j1 c cx)
        exact ⟨k, by omega, by rw [pk_un (by omega), (h4 k k1).2.1, k2]; exact j2⟩
      · rw [q] at e
        exact absurd e.symm (m1_nle (by omega))
  · by_cases e1 : j = K
    · rw [e1, pk_us, ci] at q1 q2
      rw [e1, pk_us]
      by_cases e : y = i
      · rw [e]; exact hiK
      · obtain ⟨k, k1, k2⟩ := a3 y (by omega) hl
        exact absurd (cLe_trans k2 q2) (hno k k1)
    · rw [pk_un e1] at q1 q2 ⊢
      obtain ⟨b1, b2, b3⟩ := h4 j (by omega)
      rw [b2] at q1 q2 ⊢
      by_cases e : y = i
      · rw [e] at q1; exact absurd q1 (hno (s j) b1)
      · have hy2 := a6 y (s j) (by omega) hl b1 q1 q2
        rcases h7 y with ⟨q, -⟩ | ⟨-, x, x1, x2, x3⟩
        · rw [q, pk_un e]; exact hy2
        · exfalso
          by_cases ex : x = s j
          · rw [ex] at x2; exact b3 x2
          · exact a2 (s j) x b1 x1 (fun h9 => ex h9.symm) (by rw [x3]; exact q1)
end CSU
theorem fh_u {g8 g9 g10 g11 : Nat → Int32} {nD : Nat} (hN : nD ≤ 4096) : ∀ (N i sz : Nat) (me he : Nat → Int32), nD - i < N → i ≤ nD → sz ≤ i → uI g10 (cLeg g8 g9 g10 g11) i sz me he →
    uI g10 (cLeg g8 g9 g10 g11) nD (lf_Fr_findHeads_7 g8 g9 g10 g11 nD N i sz me he).2.1 (lf_Fr_findHeads_7 g8 g9 g10 g11 nD N i sz me he).2.2.1 (lf_Fr_findHeads_7 g8 g9 g10 g11 nD N i sz me he).2.2.2 := by
  intro N
  induction N with
  | zero => intro i sz me he h; exact absurd h (Nat.not_lt_zero _)
  | succ N ih =>
    intro i sz me he h hi hs hU
    rw [lf_Fr_findHeads_7]
    by_cases c1 : nI nD ≤ nI i
    · have n1 : nD ≤ i := (nI_leI (by omega) (by omega)).mp c1
      have e : i = nD := by omega
      rw [if_pos c1, ← e]
      exact hU
    · have n1 : i < nD := nI_nle2 c1 (by omega)
      rw [if_neg c1]
      have hm : ∀ j, j < sz → ∃ x : Nat, x < 4096 ∧ me j = nI x := fun j hj => by
        obtain ⟨x, x1, x2, -⟩ := hU.1 j hj
        exact ⟨x, by omega, x2⟩
      by_cases cL : mr_Bo_allows g8 g9 g10 g11 i = 0
      · rw [if_pos cL, if_neg (fun h9 => m1_nle (x := i) (by omega) h9.symm)]
        exact ih _ _ _ _ (by omega) (by omega) (by omega) (u_no hU (by omega) (al_no.mp cL))
      · rw [if_neg cL]
        have hL := al_sem.mp cL
        rcases hf_sem (g10 := g10) (d := i) (by omega) hm (sz + 1) 0 (by omega) (Nat.zero_le _) with ⟨j, -, j2, j3, j4⟩ | ⟨a1, a2⟩
        · obtain ⟨q1, q2⟩ := u_old hU (by omega) hL j2 j3 j4
          have q2' : ¬ mr_Fr_headFor g10 me sz i = nI i := q2
          rw [if_neg q2']
          exact ih _ _ _ _ (by omega) (by omega) (by omega) q1
        · have a2' : mr_Fr_headFor g10 me sz i = nI i := a2
          rw [a2', if_pos rfl]
          obtain ⟨⟨K, s, k1, k2, k3, k4, k5, k6⟩, k7⟩ := db_sem (g10 := g10) (d := i) (by omega) hm (sz + 1) 0 0 me (upd he i (nI i)) (by omega) (Nat.le_refl _) (Nat.zero_le _) (fun _ _ => rfl)
          have eK : (mr_Fr_dropBeatenBy g10 me (upd he i (nI i)) sz i).1.toNatClampNeg = K := by
            show (nI (lf_Fr_dropBeatenBy_4 g10 me sz i (sz + 1) 0 0 me (upd he i (nI i))).2.1).toNatClampNeg = K
            rw [k1, Nat.zero_add]; exact nI_clamp (by omega)
          rw [eK]
          refine ih _ _ _ _ (by omega) (by omega) (by omega) (u_new (K := K) (s := s) hU (by omega) hL (fun j hj => a1 j (Nat.zero_le _) hj) (fun j hj => ?_) k5 (fun x hx hn => k6 x (Nat.zero_le _) hx hn) (fun y => ?_))
          · obtain ⟨b1, b2, b3, b4⟩ := k4 j hj
            rw [Nat.zero_add] at b3
            exact ⟨b2, b3, b4⟩
          · rcases k7 y with ⟨p1, p2⟩ | ⟨p1, x, x1, x2, x3, x4⟩
            · exact Or.inl ⟨p1, fun x hx => p2 x (Nat.zero_le _) hx⟩
            · exact Or.inr ⟨p1, x, x2, x3, x4⟩
/-- legal, and beaten by none -/
def cUnd (g8 g9 g10 g11 : Nat → Int32) (nD d : Nat) : Prop := cLeg g8 g9 g10 g11 d ∧ ∀ e, e < nD → cLeg g8 g9 g10 g11 e → ¬ (cLe g10 e d ∧ ¬ cLe g10 d e)
theorem u_und {g8 g9 g10 g11 : Nat → Int32} {nD sz : Nat} {me he : Nat → Int32} (hN : nD ≤ 4096) (h : uI g10 (cLeg g8 g9 g10 g11) nD sz me he) {y : Nat} (hy : y < nD) : (¬ he y = -1 ∧ ¬ he (he y).toNatClampNeg = -1) ↔ cUnd g8 g9 g10 g11 nD y := by
  obtain ⟨a1, a2, a3, a4, a5, a6⟩ := h
  have hm : ∀ j, j < sz → (me j).toNatClampNeg < nD ∧ me j = nI (me j).toNatClampNeg ∧ cLeg g8 g9 g10 g11 (me j).toNatClampNeg ∧ he (me j).toNatClampNeg = me j := fun j hj => by
    obtain ⟨x, x1, x2, x3, x4⟩ := a1 j hj
    have : (me j).toNatClampNeg = x := by rw [x2]; exact nI_clamp (by omega)
    rw [this]; exact ⟨x1, x2, x3, by rw [x2]; exact x4⟩
  constructor
  · rintro ⟨h1, h2⟩
    obtain ⟨x, x1, x2, x3, x4, x5, x6⟩ := (a4 y hy).resolve_left h1
    have cx : (he y).toNatClampNeg = x := by rw [x2]; exact nI_clamp (by omega)
    rw [cx] at h2
    obtain ⟨j, j1, j2⟩ := a5 x (by omega) (x6.resolve_right h2)
    have cj : (me j).toNatClampNeg = x := by rw [j2]; exact nI_clamp (by omega)
    refine ⟨x3, fun e he' hl hb => ?_⟩
    obtain ⟨k, k1, k2⟩ := a3 e he' hl
    have hle : cLe g10 (me k).toNatClampNeg (me j).toNatClampNeg := by rw [cj]; exact cLe_trans k2 (cLe_trans hb.1 x5)
    have hkj : k = j := by
      by_cases hne : k = j
      · exact hne
      · exact absurd hle (a2 k j k1 j1 hne)
    rw [hkj, cj] at k2
    exact hb.2 (cLe_trans x5 k2)
  · rintro ⟨h1, h2⟩
    obtain ⟨j, j1, j2⟩ := a3 y hy h1
    obtain ⟨m1, m2, m3, m4⟩ := hm j j1
    have hback : cLe g10 y (me j).toNatClampNeg := Classical.byContradiction (fun h9 => h2 _ m1 m3 ⟨j2, h9⟩)
    have e := a6 y j hy h1 j1 j2 hback
    have hne : ¬ me j = -1 := by rw [m2]; exact m1_nle (by omega)
    rw [e]
    exact ⟨hne, by rw [m4]; exact hne⟩
/-- the members in the end: the undominated ones in their order -/
theorem cm_sem {g13 : Nat → Int32} {nD : Nat} {u : Nat → Int32} (hN : nD ≤ 4096) (hu : ∀ y, y < nD → ((¬ g13 y = -1 ∧ ¬ g13 (g13 y).toNatClampNeg = -1) ↔ ¬ u y = 0)) : ∀ (N i : Nat) (me : Nat → Int32), nD - i < N → i ≤ nD → (∀ y, y < i → ¬ u y = 0 → me (cu u y) = nI y) →
    (lf_Fr_collectMembers_7 g13 nD N i (cu u i) me).2.1 = cu u nD ∧ ∀ y, y < nD → ¬ u y = 0 → (lf_Fr_collectMembers_7 g13 nD N i (cu u i) me).2.2 (cu u y) = nI y := by
  intro N
  induction N with
  | zero => intro i me h; exact absurd h (Nat.not_lt_zero _)
  | succ N ih =>
    intro i me h hi hme
    rw [lf_Fr_collectMembers_7]
    by_cases c1 : nI nD ≤ nI i
    · have n1 : nD ≤ i := (nI_leI (by omega) (by omega)).mp c1
      have e : i = nD := by omega
      rw [if_pos c1, e]
      rw [e] at hme
      exact ⟨rfl, hme⟩
    · have n1 : i < nD := nI_nle2 c1 (by omega)
      rw [if_neg c1]
      have key := hu i n1
      by_cases c2 : u i = 0
      · have e : cu u (i + 1) = cu u i := by rw [cu, if_pos c2, Nat.add_zero]
        have hme' : ∀ y, y < i + 1 → ¬ u y = 0 → me (cu u y) = nI y := fun y hy hn => by
          by_cases ey : y = i
          · rw [ey] at hn; exact absurd c2 hn
          · exact hme y (by omega) hn
        have hih := ih (i + 1) me (by omega) (by omega) hme'
        rw [e] at hih
        by_cases c3 : g13 i = -1
        · rw [if_pos c3]; exact hih
        · rw [if_neg c3]
          have c4 : g13 (g13 i).toNatClampNeg = -1 := Classical.byContradiction (fun h9 => key.mp ⟨c3, h9⟩ c2)
          rw [if_pos c4]; exact hih
      · obtain ⟨c3, c4⟩ := key.mpr c2
        have e : cu u (i + 1) = cu u i + 1 := by rw [cu, if_neg c2]
        rw [if_neg c3, if_neg c4, ← e]
        refine ih (i + 1) _ (by omega) (by omega) (fun y hy hn => ?_)
        by_cases ey : y = i
        · rw [ey, pk_us]
        · have hlt : cu u y < cu u i := by
            have h1 : cu u (y + 1) ≤ cu u i := cu_mono (by omega)
            rw [cu, if_neg hn] at h1
            omega
          rw [pk_un (by omega)]
          exact hme y (by omega) hn
