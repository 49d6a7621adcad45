/-! the class's state against the reference's -/
theorem upd_if {f : Nat → Int32} {k j : Nat} {x : Int32} : upd f k x j = if j = k then x else f j := rfl
theorem vup_if {α : Type} {f : Nat → α} {k j : Nat} {x : α} : va_up f k x j = if j = k then x else f j := rfl
theorem eq01 {x y : Int32} (hx : x = 0 ∨ x = 1) (hy : y = 0 ∨ y = 1) (h : x = 0 ↔ y = 0) : x = y := by
  rcases hx with rfl | rfl
  · exact (h.mp rfl).symm
  · rcases hy with rfl | rfl
    · exact absurd (h.mpr rfl) (by decide)
    · rfl
theorem w01_if {w : Int32} (h : w = 0 ∨ w = 1) : (if w = 0 then 0 else 1 : Int32) = w := by
  rcases h with rfl | rfl <;> rfl
theorem wn01 {x lo hi : Int32} : mr_M_within x lo hi = 0 ∨ mr_M_within x lo hi = 1 := by
  unfold mr_M_within
  by_cases h1 : x < lo
  · rw [if_pos h1]; exact Or.inl rfl
  · rw [if_neg h1]
    by_cases h2 : hi < x
    · rw [if_pos h2]; exact Or.inl rfl
    · rw [if_neg h2]; exact Or.inr rfl
theorem wn_eq {n : Nat} (hn : n ≤ 65536) (x : Int32) : mr_M_within x 0 (nI n - 1) = (if x < 0 then 0 else (if nI n ≤ x then 0 else 1) : Int32) := by
  unfold mr_M_within
  by_cases h1 : x < 0
  · rw [if_pos h1, if_pos h1]
  · rw [if_neg h1, if_neg h1]
    have e := dn_toInt (n := n) (by omega)
    have e2 := nI_toInt (n := n) (by omega)
    by_cases h2 : nI n ≤ x
    · have h3 : nI n - 1 < x := by
        have := Int32.le_iff_toInt_le.mp h2
        rw [Int32.lt_iff_toInt_lt, e]; omega
      rw [if_pos h2, if_pos h3]
    · have h3 : ¬ nI n - 1 < x := fun h9 => h2 (by
        have := Int32.lt_iff_toInt_lt.mp h9
        rw [e] at this
        rw [Int32.le_iff_toInt_le, e2]; omega)
      rw [if_neg h2, if_neg h3]
theorem wn_ok {n : Nat} (hn : n ≤ 65536) {x : Int32} (h : ¬ mr_M_within x 0 (nI n - 1) = 0) : ∃ j : Nat, j < n ∧ x = nI j := by
  rw [wn_eq hn] at h
  rcases pk_ix x (n := n) (by omega) with q | q | q
  · rw [if_pos q] at h; exact absurd rfl h
  · by_cases h1 : x < 0
    · rw [if_pos h1] at h; exact absurd rfl h
    · rw [if_neg h1, if_pos q] at h; exact absurd rfl h
  · exact q
theorem num_eq (nu : Int32) : mr_X_isNumber nu = mr_M_within nu 0 3 := (wn_eq (n := 4) (by decide) nu).symm
theorem num_ok {nu : Int32} (h : ¬ mr_M_within nu 0 3 = 0) : ∃ j : Nat, j < 4 ∧ nu = nI j := wn_ok (n := 4) (by decide) h
theorem des_eq {nD : Nat} (hN : nD ≤ 4096) (d : Int32) : mr_Sh_hasDesign nD d = mr_M_isDesign nD d := (wn_eq (n := nD) (by omega) d).symm
theorem des_ok {nD : Nat} (hN : nD ≤ 4096) {d : Int32} (h : ¬ mr_M_isDesign nD d = 0) : ∃ j : Nat, j < nD ∧ d = nI j := wn_ok (n := nD) (by omega) h
theorem cho_eq {nC : Nat} (hC : nC ≤ 8) (c : Int32) : mr_Sh_hasChoice nC c = mr_M_within c 0 (nI nC - 1) := (wn_eq (n := nC) (by omega) c).symm
theorem val_eq {c0 k6 : Nat → Int32} {nC : Nat} (hC : nC ≤ 8) (s0 : ∀ c, c < nC → ∃ z : Nat, c0 c = nI z ∧ 2 ≤ z ∧ z ≤ 6) (h06 : ∀ c, c < nC → k6 c = c0 c) (a va : Int32) : mr_Sh_hasValue c0 nC a va = mr_M_isValue k6 nC a va := by
  unfold mr_Sh_hasValue mr_M_isValue
  rw [cho_eq hC]
  by_cases h : mr_M_within a 0 (nI nC - 1) = 0
  · rw [if_pos h, if_pos h]
  · rw [if_neg h, if_neg h]
    obtain ⟨j, hj, rfl⟩ := wn_ok (by omega) h
    rw [nI_clamp (by omega), h06 j hj]
    obtain ⟨z, ez, -, hz⟩ := s0 j hj
    rw [ez, w01_if wn01, wn_eq (by omega)]
theorem val_ok {k6 : Nat → Int32} {nC : Nat} (hC : nC ≤ 8) (h6 : ∀ c, c < nC → ∃ z : Nat, k6 c = nI z ∧ 2 ≤ z ∧ z ≤ 6) {a va : Int32} (h : ¬ mr_M_isValue k6 nC a va = 0) : (∃ j : Nat, j < nC ∧ a = nI j) ∧ 0 ≤ va := by
  unfold mr_M_isValue at h
  by_cases h1 : mr_M_within a 0 (nI nC - 1) = 0
  · rw [if_pos h1] at h; exact absurd rfl h
  · rw [if_neg h1] at h
    obtain ⟨j, hj, rfl⟩ := wn_ok (by omega) h1
    rw [nI_clamp (by omega)] at h
    obtain ⟨z, ez, -, hz⟩ := h6 j hj
    rw [ez, w01_if wn01] at h
    obtain ⟨v, hv, rfl⟩ := wn_ok (by omega) h
    exact ⟨⟨j, hj, rfl⟩, nI_pos' (by omega)⟩
def rB (f0 e2 f1 e5 f2 e3 f3 e4 : Int32) (c0 c1 k6 : Nat → Int32) (nC nT nR nD : Nat) : Prop :=
  (f0 = nI nC ∧ e2 = nI nC ∧ nC ≤ 8) ∧ (f1 = nI nD ∧ e5 = nI nD ∧ nD ≤ 4096) ∧ (f2 = nI nT ∧ e3 = nI nT ∧ nT ≤ 100) ∧ (f3 = nI nR ∧ e4 = nI nR ∧ nR ≤ 40) ∧ (∀ c, c < nC → ∃ z : Nat, c0 c = nI z ∧ 2 ≤ z ∧ z ≤ 6) ∧ (∀ c, c < nC → c1 c = nI (pc_ (zg c0) nC c)) ∧ (∀ c, c < nC → k6 c = c0 c) ∧ mp (zg c0) 0 nC = nD
def rT (c2 c3 c4 c5 c6 c7 k7 k8 k9 k10 k11 k12 k13 k14 k15 k16 : Nat → Int32) (nC nT nR : Nat) : Prop :=
  tmR c2 c3 c4 c5 c7 k7 k8 k9 k10 k11 k12 nT ∧ (∀ n, n < 4 → c6 n = nI (ct k7 n nT)) ∧ (∀ t, t < nT → slR nC (k8 t) (k9 t) (k10 t) (k11 t)) ∧ rlR c2 c3 c4 c5 k13 k14 k15 k16 nR ∧ (∀ j, j < nR → ruR nC (k13 j) (k14 j) (k15 j) (k16 j)) ∧ (∀ s, s < 440 → ∃ x : Nat, x < 8 ∧ c2 s = nI x) ∧ (∀ s, s < 440 → c4 s = -1 ∨ ∃ x : Nat, x < 8 ∧ c4 s = nI x)
def rL (c8 c9 k17 k18 : Nat → Int32) : Prop := (∀ j, c8 j = k17 j) ∧ (∀ j, c9 j = k18 j) ∧ ∀ j, c8 j = 0 ∨ c8 j = 1
def rN (c10 c11 k6 k7 k8 k9 k10 k11 k12 k13 k14 k15 k16 : Nat → Int32) (nC nT nR nD : Nat) : Prop := (∀ d k, d < nD → k < 4 → c10 (d * 4 + k) = sNum k6 k7 k8 k9 k10 k11 k12 nC nT d k) ∧ (∀ d, d < nD → (c11 d = 0 ↔ mr_M_isBarred k13 k14 k15 k16 (rowD k6 nC d nC) nC nR = 0)) ∧ ∀ j, c11 j = 0 ∨ c11 j = 1
def rK (e26 : Int32) (k6 k7 k8 k9 k10 k11 k12 k13 k14 k15 k16 k17 k18 k27 k28 : Nat → Int32) (nC nT nR nD : Nat) : Prop := (¬ e26 = 0 → ∀ d, d < nD → k27 d = sLeg k6 k7 k8 k9 k10 k11 k12 k13 k14 k15 k16 k17 k18 nC nT nR d ∧ ∀ k, k < 4 → k28 (4 * d + k) = sNum k6 k7 k8 k9 k10 k11 k12 nC nT d k) ∧ ∀ j, narrow .boolean (.int (k27 j)) = .int (k27 j)
def uA (k6 k7 k8 k9 k10 k11 k12 k13 k14 k15 k16 k17 k18 : Nat → Int32) (nC nT nR nD d : Nat) : Int32 := mr_M_isUndominated (fun d => sLeg k6 k7 k8 k9 k10 k11 k12 k13 k14 k15 k16 k17 k18 nC nT nR d) (fun i => sNum k6 k7 k8 k9 k10 k11 k12 nC nT (i / 4) (i % 4)) nD d
def rF (f4 f5 : Int32) (c12 u : Nat → Int32) (nD sz : Nat) : Prop := f4 = nI sz ∧ sz ≤ nD ∧ (¬ f5 = 0 → sz = cu u nD ∧ ∀ y, y < nD → ¬ u y = 0 → c12 (cu u y) = nI y)
def rS (f6 e20 f9 e1 f10 e21 f11 e22 f12 e23 f13 e24 f14 e25 : Int32) (nD pl : Nat) : Prop := f6 = e20 ∧ f9 = e1 ∧ f10 = e21 ∧ f11 = e22 ∧ f12 = e23 ∧ f13 = nI pl ∧ e24 = nI pl ∧ pl ≤ nD ∧ f14 = e25
def cR (F : Nat → Int32) (G : Nat → Nat → Int32) (E : Nat → Int32) (K : Nat → Nat → Int32) (nC nT nR nD sz pl : Nat) : Prop :=
  rB (F 0) (E 2) (F 1) (E 5) (F 2) (E 3) (F 3) (E 4) (G 0) (G 1) (K 6) nC nT nR nD ∧
  rT (G 2) (G 3) (G 4) (G 5) (G 6) (G 7) (K 7) (K 8) (K 9) (K 10) (K 11) (K 12) (K 13) (K 14) (K 15) (K 16) nC nT nR ∧
  rL (G 8) (G 9) (K 17) (K 18) ∧
  rN (G 10) (G 11) (K 6) (K 7) (K 8) (K 9) (K 10) (K 11) (K 12) (K 13) (K 14) (K 15) (K 16) nC nT nR nD ∧
  rK (E 26) (K 6) (K 7) (K 8) (K 9) (K 10) (K 11) (K 12) (K 13) (K 14) (K 15) (K 16) (K 17) (K 18) (K 27) (K 28) nC nT nR nD ∧
  rF (F 4) (F 5) (G 12) (uA (K 6) (K 7) (K 8) (K 9) (K 10) (K 11) (K 12) (K 13) (K 14) (K 15) (K 16) (K 17) (K 18) nC nT nR nD) nD sz ∧
  rS (F 6) (E 20) (F 9) (E 1) (F 10) (E 21) (F 11) (E 22) (F 12) (E 23) (F 13) (E 24) (F 14) (E 25) nD pl
def cX (F : Nat → Int32) (G : Nat → Nat → Int32) (E : Nat → Int32) (K : Nat → Nat → Int32) : Prop := ∃ nC nT nR nD sz pl, cR F G E K nC nT nR nD sz pl
section CR
variable {F E : Nat → Int32} {G K : Nat → Nat → Int32} {nC nT nR nD sz pl : Nat}
theorem zb_01 {x : Int32} (h : x = 0 ∨ x = 1) : narrow .boolean (.int x) = .int x := by
  rcases h with rfl | rfl <;> rfl
/-- what the reference's contracts want -/
theorem cR_ref (h : cR F G E K nC nT nR nD sz pl) : E 2 = nI nC ∧ nC ≤ 8 ∧ E 3 = nI nT ∧ nT ≤ 100 ∧ E 4 = nI nR ∧ nR ≤ 40 ∧ E 5 = nI nD ∧ nD ≤ 4096 ∧ (∀ c, c < nC → ∃ z : Nat, K 6 c = nI z ∧ 2 ≤ z ∧ z ≤ 6) ∧ (∀ t, t < nT → ∃ x : Nat, x < nC ∧ K 8 t = nI x) ∧ (∀ t, t < nT → K 10 t = -1 ∨ ∃ x : Nat, x < nC ∧ K 10 t = nI x) ∧ (∀ j, j < nR → ∃ x : Nat, x < nC ∧ K 13 j = nI x) ∧ (∀ j, j < nR → ∃ x : Nat, x < nC ∧ K 15 j = nI x) ∧ (∀ j, narrow .boolean (.int (K 17 j)) = .int (K 17 j)) ∧ (∀ j, narrow .boolean (.int (K 27 j)) = .int (K 27 j)) ∧ E 24 = nI pl ∧ pl ≤ nD ∧ mp (zg (K 6)) 0 nC = nD := by
  obtain ⟨⟨b0, b1, b2, b3, b4, b5, b6, b7⟩, ⟨t1, t2, t3, t4, t5, t6, t7⟩, hL, hN, hK, hF, hS⟩ := h
  refine ⟨b0.2.1, b0.2.2, b2.2.1, b2.2.2, b3.2.1, b3.2.2, b1.2.1, b1.2.2, fun c hc => by rw [b6 c hc]; exact b4 c hc, fun t ht => (t3 t ht).1, fun t ht => (t3 t ht).2.2.imp id And.left, fun j hj => (t5 j hj).1, fun j hj => (t5 j hj).2.2.1, fun j => zb_01 (by rw [← hL.1 j]; exact hL.2.2 j), hK.2, hS.2.2.2.2.2.2.1, hS.2.2.2.2.2.2.2.1, ?_⟩
  rw [← b7]
  exact mp_ext (fun i hi => by unfold zg; rw [b6 _ (by omega)])
/-- what the class's contracts want -/
theorem cR_cls (h : cR F G E K nC nT nR nD sz pl) : F 0 = nI nC ∧ F 1 = nI nD ∧ F 2 = nI nT ∧ F 3 = nI nR ∧ F 4 = nI sz ∧ sz ≤ nD ∧ F 13 = nI pl ∧ (∀ c, c < nC → ∃ z : Nat, G 0 c = nI z ∧ 2 ≤ z ∧ z ≤ 6) ∧ (∀ c, c < nC → G 1 c = nI (pc_ (zg (G 0)) nC c)) ∧ mp (zg (G 0)) 0 nC = nD ∧ (∀ s, s < 440 → ∃ x : Nat, x < 8 ∧ G 2 s = nI x) ∧ (∀ s, s < 440 → G 4 s = -1 ∨ ∃ x : Nat, x < 8 ∧ G 4 s = nI x) ∧ (∀ n, n < 4 → ∃ t : Nat, t < 101 ∧ G 6 n = nI t) ∧ (∀ n, n < 4 → ∃ t : Nat, t < nT + 1 ∧ G 6 n = nI t) ∧ (∀ j, G 8 j = 0 ∨ G 8 j = 1) ∧ (∀ j, G 11 j = 0 ∨ G 11 j = 1) ∧ 0 < nD := by
  obtain ⟨⟨b0, b1, b2, b3, b4, b5, b6, b7⟩, ⟨t1, t2, t3, t4, t5, t6, t7⟩, hL, hN, hK, hF, hS⟩ := h
  refine ⟨b0.1, b1.1, b2.1, b3.1, hF.1, hF.2.1, hS.2.2.2.2.2.1, b4, b5, b7, t6, t7, fun n hn => ⟨_, ?_, t2 n hn⟩, fun n hn => ⟨_, ?_, t2 n hn⟩, hL.2.2, hN.2.2, ?_⟩
  · have := ct_le (K 7) n nT; have := b2.2.2; omega
  · have := ct_le (K 7) n nT; omega
  · rw [← b7]; exact mp_small b4 (by omega)
theorem sLeg01 {k6 k7 k8 k9 k10 k11 k12 k13 k14 k15 k16 k17 k18 : Nat → Int32} {d : Nat} : sLeg k6 k7 k8 k9 k10 k11 k12 k13 k14 k15 k16 k17 k18 nC nT nR d = 0 ∨ sLeg k6 k7 k8 k9 k10 k11 k12 k13 k14 k15 k16 k17 k18 nC nT nR d = 1 := by
  unfold sLeg
  by_cases h1 : mr_M_isBarred k13 k14 k15 k16 (rowD k6 nC d nC) nC nR = 0
  · rw [if_pos h1]
    by_cases h2 : mr_M_passesLimits k7 k8 k9 k10 k11 k12 k17 k18 (rowD k6 nC d nC) nC nT = 0
    · rw [if_pos h2]; exact Or.inr rfl
    · rw [if_neg h2]; exact Or.inl rfl
  · rw [if_neg h1]; exact Or.inl rfl
theorem sLeg_iff {k6 k7 k8 k9 k10 k11 k12 k13 k14 k15 k16 k17 k18 : Nat → Int32} {d : Nat} : ¬ sLeg k6 k7 k8 k9 k10 k11 k12 k13 k14 k15 k16 k17 k18 nC nT nR d = 0 ↔ mr_M_isBarred k13 k14 k15 k16 (rowD k6 nC d nC) nC nR = 0 ∧ ∀ k, k < 4 → k17 k = 0 ∨ sNum k6 k7 k8 k9 k10 k11 k12 nC nT d k ≤ k18 k := by
  unfold sLeg
  by_cases h1 : mr_M_isBarred k13 k14 k15 k16 (rowD k6 nC d nC) nC nR = 0
  · rw [if_pos h1]
    by_cases h2 : mr_M_passesLimits k7 k8 k9 k10 k11 k12 k17 k18 (rowD k6 nC d nC) nC nT = 0
    · rw [if_pos h2]; exact ⟨fun _ => ⟨h1, passes_num.mp h2⟩, fun _ => by decide⟩
    · rw [if_neg h2]; exact ⟨fun h9 => absurd rfl h9, fun h9 => absurd (passes_num.mpr h9.2) h2⟩
  · rw [if_neg h1]; exact ⟨fun h9 => absurd rfl h9, fun h9 => absurd h9.1 h1⟩
/-- the class's word on a design is the reference's -/
theorem cR_leg (h : cR F G E K nC nT nR nD sz pl) {d : Nat} (hd : d < nD) : mr_Bo_allows (G 8) (G 9) (G 10) (G 11) d = sLeg (K 6) (K 7) (K 8) (K 9) (K 10) (K 11) (K 12) (K 13) (K 14) (K 15) (K 16) (K 17) (K 18) nC nT nR d := by
  obtain ⟨hB, hT, hL, hN, hK, hF, hS⟩ := h
  have key : ¬ mr_Bo_allows (G 8) (G 9) (G 10) (G 11) d = 0 ↔ ¬ sLeg (K 6) (K 7) (K 8) (K 9) (K 10) (K 11) (K 12) (K 13) (K 14) (K 15) (K 16) (K 17) (K 18) nC nT nR d = 0 := by
    rw [al_sem, sLeg_iff]
    unfold cLeg
    rw [hN.2.1 d hd]
    refine and_congr Iff.rfl ⟨fun q k hk => ?_, fun q k hk => ?_⟩
    · rw [← hL.1 k, ← hL.2.1 k, ← hN.1 d k hd hk]; exact q k hk
    · rw [hL.1 k, hL.2.1 k, hN.1 d k hd hk]; exact q k hk
  exact eq01 al_01 sLeg01 ⟨fun h1 => Classical.byContradiction (fun h2 => key.mpr h2 h1), fun h1 => Classical.byContradiction (fun h2 => key.mp h2 h1)⟩
theorem cR_kn (h : cR F G E K nC nT nR nD sz pl) : ¬ (mr_M_know (E 26) (K 6) (K 7) (K 8) (K 9) (K 10) (K 11) (K 12) (K 13) (K 14) (K 15) (K 16) (K 17) (K 18) (K 19) (K 27) (K 28) nC nT nR nD).1 = 0 ∧ (∀ d, d < nD → (mr_M_know (E 26) (K 6) (K 7) (K 8) (K 9) (K 10) (K 11) (K 12) (K 13) (K 14) (K 15) (K 16) (K 17) (K 18) (K 19) (K 27) (K 28) nC nT nR nD).2.2.1 d = sLeg (K 6) (K 7) (K 8) (K 9) (K 10) (K 11) (K 12) (K 13) (K 14) (K 15) (K 16) (K 17) (K 18) nC nT nR d ∧ ∀ k, k < 4 → (mr_M_know (E 26) (K 6) (K 7) (K 8) (K 9) (K 10) (K 11) (K 12) (K 13) (K 14) (K 15) (K 16) (K 17) (K 18) (K 19) (K 27) (K 28) nC nT nR nD).2.2.2 (4 * d + k) = sNum (K 6) (K 7) (K 8) (K 9) (K 10) (K 11) (K 12) nC nT d k) ∧ ∀ j, narrow .boolean (.int ((mr_M_know (E 26) (K 6) (K 7) (K 8) (K 9) (K 10) (K 11) (K 12) (K 13) (K 14) (K 15) (K 16) (K 17) (K 18) (K 19) (K 27) (K 28) nC nT nR nD).2.2.1 j)) = .int ((mr_M_know (E 26) (K 6) (K 7) (K 8) (K 9) (K 10) (K 11) (K 12) (K 13) (K 14) (K 15) (K 16) (K 17) (K 18) (K 19) (K 27) (K 28) nC nT nR nD).2.2.1 j) := by
  obtain ⟨-, hC, -, -, -, -, -, hN, h6, h8, h10, h13, h15, -, h27, -⟩ := cR_ref h
  have := know_sem (g19 := K 19) hC hN h6 h8 h10 h13 h15 h.2.2.2.2.1.1
  exact ⟨this.1, this.2, zb_M_know h27⟩
theorem cR_num (h : cR F G E K nC nT nR nD sz pl) {d k : Nat} (hd : d < nD) (hk : k < 4) : G 10 (d * 4 + k) = sNum (K 6) (K 7) (K 8) (K 9) (K 10) (K 11) (K 12) nC nT d k := h.2.2.2.1.1 d k hd hk
theorem cR_e0 (h : cR F G E K nC nT nR nD sz pl) (x : Int32) : cR F G (upd E 0 x) K nC nT nR nD sz pl := by
  unfold cR
  simp (config := { decide := true }) only [upd_if, ↓reduceIte]
  exact h
/-- the reference knows now -/
theorem cR_known (h : cR F G E K nC nT nR nD sz pl) {x p : Int32} {r a b : Nat → Int32} (hk : ∀ d, d < nD → a d = sLeg (K 6) (K 7) (K 8) (K 9) (K 10) (K 11) (K 12) (K 13) (K 14) (K 15) (K 16) (K 17) (K 18) nC nT nR d ∧ ∀ k, k < 4 → b (4 * d + k) = sNum (K 6) (K 7) (K 8) (K 9) (K 10) (K 11) (K 12) nC nT d k) (hb : ∀ j, narrow .boolean (.int (a j)) = .int (a j)) : cR F G (upd (upd E 0 x) 26 p) (va_up (va_up (va_up K 19 r) 27 a) 28 b) nC nT nR nD sz pl := by
  unfold cR
  simp (config := { decide := true }) only [upd_if, vup_if, ↓reduceIte]
  exact ⟨h.1, h.2.1, h.2.2.1, h.2.2.2.1, ⟨fun _ => hk, hb⟩, h.2.2.2.2.2⟩
theorem cR_know (h : cR F G E K nC nT nR nD sz pl) {x : Int32} : cR F G (upd (upd E 0 x) 26 (mr_M_know (E 26) (K 6) (K 7) (K 8) (K 9) (K 10) (K 11) (K 12) (K 13) (K 14) (K 15) (K 16) (K 17) (K 18) (K 19) (K 27) (K 28) nC nT nR nD).1) (va_up (va_up (va_up K 19 (mr_M_know (E 26) (K 6) (K 7) (K 8) (K 9) (K 10) (K 11) (K 12) (K 13) (K 14) (K 15) (K 16) (K 17) (K 18) (K 19) (K 27) (K 28) nC nT nR nD).2.1) 27 (mr_M_know (E 26) (K 6) (K 7) (K 8) (K 9) (K 10) (K 11) (K 12) (K 13) (K 14) (K 15) (K 16) (K 17) (K 18) (K 19) (K 27) (K 28) nC nT nR nD).2.2.1) 28 (mr_M_know (E 26) (K 6) (K 7) (K 8) (K 9) (K 10) (K 11) (K 12) (K 13) (K 14) (K 15) (K 16) (K 17) (K 18) (K 19) (K 27) (K 28) nC nT nR nD).2.2.2) nC nT nR nD sz pl :=
  cR_known h (cR_kn h).2.1 (cR_kn h).2.2
/-- nothing written but the row, and the error -/
theorem cR_same (h : cR F G E K nC nT nR nD sz pl) {x : Int32} : cR F G (upd (upd E 0 x) 26 (E 26)) (va_up (va_up (va_up K 19 (K 19)) 27 (K 27)) 28 (K 28)) nC nT nR nD sz pl := by
  unfold cR
  simp (config := { decide := true }) only [upd_if, vup_if, ↓reduceIte]
  exact h
theorem cR_row (h : cR F G E K nC nT nR nD sz pl) {x : Int32} {r : Nat → Int32} : cR F G (upd E 0 x) (va_up K 19 r) nC nT nR nD sz pl := by
  unfold cR
  simp (config := { decide := true }) only [upd_if, vup_if, ↓reduceIte]
  exact h
end CR
