/-! products of sizes, digits, numbers out of digits, the tree of rows -/
def mp (z : Nat → Nat) (a : Nat) : Nat → Nat
  | 0 => 1
  | n + 1 => mp z a n * z (a + n)
theorem mp_pos {z : Nat → Nat} {a n : Nat} (h : ∀ i, i < n → 0 < z (a + i)) : 0 < mp z a n := by
  induction n with
  | zero => exact Nat.one_pos
  | succ n ih => exact Nat.mul_pos (ih (fun i hi => h i (by omega))) (h n (by omega))
theorem mp_add (z : Nat → Nat) (a n m : Nat) : mp z a (n + m) = mp z a n * mp z (a + n) m := by
  induction m with
  | zero => simp [mp]
  | succ m ih =>
    show mp z a (n + m) * z (a + (n + m)) = mp z a n * (mp z (a + n) m * z (a + n + m))
    rw [ih, Nat.mul_assoc, Nat.add_assoc]
theorem mp_first (z : Nat → Nat) (a n : Nat) : mp z a (n + 1) = z a * mp z (a + 1) n := by
  have h := mp_add z a 1 n
  rw [Nat.add_comm 1 n] at h
  rw [h]
  simp [mp]
theorem mp_ext {z y : Nat → Nat} {a n : Nat} (h : ∀ i, i < n → z (a + i) = y (a + i)) : mp z a n = mp y a n := by
  induction n with
  | zero => rfl
  | succ n ih => rw [mp, mp, ih (fun i hi => h i (by omega)), h n (by omega)]
/-- the place of a choice, its digit -/
def pc_ (z : Nat → Nat) (n c : Nat) : Nat := mp z (c + 1) (n - (c + 1))
def dg (z : Nat → Nat) (n d c : Nat) : Nat := d / pc_ z n c % z c
/-- the number of a row of digits -/
def cn (z r : Nat → Nat) : Nat → Nat
  | 0 => 0
  | c + 1 => cn z r c * z c + r c
theorem cn_ext {z r r' : Nat → Nat} {n : Nat} (h : ∀ c, c < n → r c = r' c) : cn z r n = cn z r' n := by
  induction n with
  | zero => rfl
  | succ n ih => rw [cn, cn, ih (fun c hc => h c (by omega)), h n (by omega)]
theorem cn_dg {z : Nat → Nat} {n d : Nat} : ∀ c, c ≤ n → d < mp z 0 n → cn z (dg z n d) c = d / mp z c (n - c) := by
  intro c hc hd
  induction c with
  | zero =>
    rw [cn, Nat.sub_zero]
    exact (Nat.div_eq_of_lt hd).symm
  | succ c ih =>
    rw [cn, ih (by omega)]
    have e : n - c = (n - (c + 1)) + 1 := by omega
    rw [e, mp_first]
    unfold dg pc_
    rw [Nat.mul_comm (z c), ← Nat.div_div_eq_div_mul]
    rw [Nat.mul_comm]
    exact Nat.div_add_mod _ _
theorem cn_all {z : Nat → Nat} {n d : Nat} (hd : d < mp z 0 n) : cn z (dg z n d) n = d := by
  rw [cn_dg n (Nat.le_refl _) hd, Nat.sub_self, mp, Nat.div_one]
theorem cn_lt {z r : Nat → Nat} {n : Nat} (h : ∀ c, c < n → r c < z c) : cn z r n < mp z 0 n := by
  induction n with
  | zero => exact Nat.one_pos
  | succ n ih =>
    have h1 := ih (fun c hc => h c (by omega))
    have h2 := h n (by omega)
    rw [cn, mp, Nat.zero_add]
    calc cn z r n * z n + r n < cn z r n * z n + z n := by omega
      _ = (cn z r n + 1) * z n := by rw [Nat.add_mul, Nat.one_mul]
      _ ≤ mp z 0 n * z n := Nat.mul_le_mul_right _ h1
/-- one digit changed -/
theorem cn_upd {z r : Nat → Nat} {n c v : Nat} (hc : c < n) : cn z (fun j => if j = c then v else r j) n + r c * pc_ z n c = cn z r n + v * pc_ z n c := by
  induction n with
  | zero => omega
  | succ n ih =>
    rw [cn, cn]
    rcases Nat.lt_or_ge c n with q | q
    · have h := ih q
      have e : pc_ z (n + 1) c = pc_ z n c * z n := by
        unfold pc_
        have e1 : n + 1 - (c + 1) = (n - (c + 1)) + 1 := by omega
        have e2 : c + 1 + (n - (c + 1)) = n := by omega
        rw [e1, mp, e2]
      have e3 : (if n = c then v else r n) = r n := if_neg (by omega)
      rw [e, e3]
      have h2 : (cn z (fun j => if j = c then v else r j) n + r c * pc_ z n c) * z n = (cn z r n + v * pc_ z n c) * z n := by rw [h]
      rw [Nat.add_mul, Nat.add_mul, Nat.mul_assoc, Nat.mul_assoc] at h2
      omega
    · have e0 : c = n := by omega
      subst e0
      have e1 : pc_ z (c + 1) c = 1 := by unfold pc_; rw [Nat.sub_self]; rfl
      have e2 : cn z (fun j => if j = c then v else r j) c = cn z r c := cn_ext (fun j hj => if_neg (by omega))
      rw [e1, e2, if_pos rfl]
      omega
/-- the rows of the tree from depth n - m on; what is left of the tree at a row -/
def ts (z : Nat → Nat) (n : Nat) : Nat → Nat
  | 0 => 1
  | m + 1 => 1 + z (n - (m + 1)) * ts z n m
def tl (z : Nat → Nat) (n : Nat) (r : Nat → Nat) : Nat → Nat
  | 0 => 0
  | s + 1 => tl z n r s + (z s - 1 - r s) * ts z n (n - (s + 1))
def tr (z : Nat → Nat) (n : Nat) (r : Nat → Nat) (s : Nat) : Nat := ts z n (n - s) + tl z n r s
theorem ts_pos (z : Nat → Nat) (n m : Nat) : 0 < ts z n m := by
  cases m with
  | zero => exact Nat.one_pos
  | succ m => rw [ts]; omega
theorem tl_ext {z r r' : Nat → Nat} {n s : Nat} (h : ∀ c, c < s → r c = r' c) : tl z n r s = tl z n r' s := by
  induction s with
  | zero => rfl
  | succ s ih => rw [tl, tl, ih (fun c hc => h c (by omega)), h s (by omega)]
theorem ts_le {z : Nat → Nat} {n : Nat} (hz : ∀ c, c < n → 2 ≤ z c) : ∀ m, m ≤ n → ts z n m + 1 ≤ 2 * mp z (n - m) m := by
  intro m
  induction m with
  | zero => intro _; exact Nat.le_refl _
  | succ m ih =>
    intro hm
    have h := ih (by omega)
    have hz' := hz (n - (m + 1)) (by omega)
    have e : n - (m + 1) + 1 = n - m := by omega
    rw [ts, mp_first, e]
    have h1 : z (n - (m + 1)) * (ts z n m + 1) ≤ z (n - (m + 1)) * (2 * mp z (n - m) m) := Nat.mul_le_mul_left _ h
    rw [Nat.mul_add, Nat.mul_one] at h1
    have h2 : z (n - (m + 1)) * (2 * mp z (n - m) m) = 2 * (z (n - (m + 1)) * mp z (n - m) m) := by rw [Nat.mul_left_comm]
    omega
theorem tr_start {z : Nat → Nat} {n : Nat} (r : Nat → Nat) (hz : ∀ c, c < n → 2 ≤ z c) (hd : mp z 0 n ≤ 4096) : tr z n r 0 < 8192 := by
  have h := ts_le hz n (Nat.le_refl _)
  rw [Nat.sub_self] at h
  unfold tr
  rw [tl, Nat.sub_zero]
  omega
theorem tr_down {z r r' : Nat → Nat} {n s : Nat} (hs : s < n) (hz : 2 ≤ z s) (h0 : r' s = 0) (h : ∀ c, c < s → r' c = r c) : tr z n r' (s + 1) + 1 = tr z n r s := by
  unfold tr
  have e : n - s = (n - (s + 1)) + 1 := by omega
  have e2 : n - (n - (s + 1) + 1) = s := by omega
  rw [tl, tl_ext h, h0, e, ts, e2, Nat.sub_zero]
  have e3 : z s * ts z n (n - (s + 1)) = (z s - 1) * ts z n (n - (s + 1)) + ts z n (n - (s + 1)) := by
    have : z s = (z s - 1) + 1 := by omega
    conv => lhs; rw [this, Nat.add_mul, Nat.one_mul]
  omega
theorem tl_le {z : Nat → Nat} {n : Nat} (r : Nat → Nat) {c s : Nat} (h : c ≤ s) : tl z n r c ≤ tl z n r s := by
  induction s with
  | zero => have : c = 0 := by omega
            rw [this]; exact Nat.le_refl _
  | succ s ih =>
    rcases Nat.lt_or_ge c (s + 1) with q | q
    · have := ih (by omega)
      rw [tl]; omega
    · have : c = s + 1 := by omega
      rw [this]; exact Nat.le_refl _
theorem tr_next {z r r' : Nat → Nat} {n c s : Nat} (hc : c < s) (hr : r c < z c - 1) (h0 : r' c = r c + 1) (h : ∀ i, i < c → r' i = r i) : tr z n r' (c + 1) < tr z n r s := by
  have h1 : tl z n r (c + 1) ≤ tl z n r s := tl_le r (by omega)
  have h2 := ts_pos z n (n - s)
  unfold tr
  rw [tl] at h1 ⊢
  rw [tl_ext h, h0]
  have e : (z c - 1 - r c) * ts z n (n - (c + 1)) = (z c - 1 - (r c + 1)) * ts z n (n - (c + 1)) + ts z n (n - (c + 1)) := by
    have : z c - 1 - r c = (z c - 1 - (r c + 1)) + 1 := by omega
    rw [this, Nat.add_mul, Nat.one_mul]
  omega
def zg (g6 : Nat → Int32) (c : Nat) : Nat := (g6 c).toNatClampNeg
def rn (r : Nat → Int32) (c : Nat) : Nat := (r c).toNatClampNeg
theorem zg_ok {g6 : Nat → Int32} {nC : Nat} (h6 : ∀ c, c < nC → ∃ z : Nat, g6 c = nI z ∧ 2 ≤ z ∧ z ≤ 6) {c : Nat} (hc : c < nC) : g6 c = nI (zg g6 c) ∧ 2 ≤ zg g6 c ∧ zg g6 c ≤ 6 := by
  obtain ⟨z, ez, h1, h2⟩ := h6 c hc
  have e : zg g6 c = z := by unfold zg; rw [ez]; exact nI_clamp (by omega)
  rw [e]
  exact ⟨ez, h1, h2⟩
theorem mp_small {g6 : Nat → Int32} {nC : Nat} (h6 : ∀ c, c < nC → ∃ z : Nat, g6 c = nI z ∧ 2 ≤ z ∧ z ≤ 6) {a n : Nat} (h : a + n ≤ nC) : 0 < mp (zg g6) a n := mp_pos (fun i hi => by have := (zg_ok h6 (c := a + i) (by omega)).2.1; omega)
theorem tr_pos (z : Nat → Nat) (n : Nat) (r : Nat → Nat) (s : Nat) : 0 < tr z n r s := by
  have := ts_pos z n (n - s)
  unfold tr
  omega
/-- a row of a search: how many are set, and these are values -/
def bI (g6 : Nat → Int32) (nC : Nat) (r : Nat → Int32) (sx : Int32) : Prop := sx = -1 ∨ ∃ s : Nat, s ≤ nC ∧ sx = nI s ∧ ∀ c, c < s → ∃ v : Nat, r c = nI v ∧ v < zg g6 c
def bm (g6 : Nat → Int32) (nC : Nat) (r : Nat → Int32) (sx : Int32) : Nat := if sx < 0 then 0 else tr (zg g6) nC (rn r) sx.toNatClampNeg
theorem bI_nn {g6 : Nat → Int32} {nC : Nat} {r : Nat → Int32} {sx : Int32} (hI : bI g6 nC r sx) (h : ¬ sx < 0) : ∃ s : Nat, s ≤ nC ∧ sx = nI s ∧ ∀ c, c < s → ∃ v : Nat, r c = nI v ∧ v < zg g6 c := by
  rcases hI with hI | hI
  · exact absurd (by rw [hI]; decide) h
  · exact hI
theorem bm_at {g6 : Nat → Int32} {nC : Nat} {r : Nat → Int32} {s : Nat} (hs : s < 2 ^ 31) : bm g6 nC r (nI s) = tr (zg g6) nC (rn r) s := by
  unfold bm
  rw [if_neg (nI_pos hs), nI_clamp hs]
theorem bm_0 {g6 : Nat → Int32} {nC : Nat} (h6 : ∀ c, c < nC → ∃ z : Nat, g6 c = nI z ∧ 2 ≤ z ∧ z ≤ 6) (hd : mp (zg g6) 0 nC ≤ 4096) (r : Nat → Int32) : bm g6 nC r 0 < 8192 := by
  have e := bm_at (g6 := g6) (nC := nC) (r := r) (s := 0) (by decide)
  rw [show bm g6 nC r 0 = bm g6 nC r (nI 0) from rfl, e]
  exact tr_start _ (fun c hc => (zg_ok h6 hc).2.1) hd
theorem b_down {g6 : Nat → Int32} {nC : Nat} {r : Nat → Int32} {s : Nat} (hC : nC ≤ 8) (h6 : ∀ c, c < nC → ∃ z : Nat, g6 c = nI z ∧ 2 ≤ z ∧ z ≤ 6) (hs : s < nC) (hr : ∀ c, c < s → ∃ v : Nat, r c = nI v ∧ v < zg g6 c) : bI g6 nC (upd r s 0) (nI s + 1) ∧ bm g6 nC (upd r s 0) (nI s + 1) < bm g6 nC r (nI s) := by
  obtain ⟨z1, z2, z3⟩ := zg_ok h6 hs
  rw [nI_1]
  refine ⟨Or.inr ⟨s + 1, by omega, rfl, fun c hc => ?_⟩, ?_⟩
  · by_cases h : c = s
    · refine ⟨0, ?_, ?_⟩
      · rw [h, pk_us]; rfl
      · rw [h]; omega
    · rw [pk_un h]
      exact hr c (by omega)
  · rw [bm_at (by omega), bm_at (by omega)]
    have h := tr_down (z := zg g6) (r := rn r) (r' := rn (upd r s 0)) (n := nC) (s := s) hs z2 (by unfold rn; rw [pk_us]; exact sb_cl0) (fun c hc => by unfold rn; rw [pk_un (by omega)])
    omega
/-- near designs: how many; the k-th: which choice, and its new value -/
def ns (z : Nat → Nat) : Nat → Nat
  | 0 => 0
  | n + 1 => ns z n + (z n - 1)
def nbr (z : Nat → Nat) (n d : Nat) : Nat → Nat → Nat → Option (Nat × Nat)
  | 0, _, _ => none
  | N + 1, c, k => if n ≤ c then none else if k < z c - 1 then some (c, if k < dg z n d c then k else k + 1) else nbr z n d N (c + 1) (k - (z c - 1))
theorem dg_lt {z : Nat → Nat} {n d c : Nat} (h : 0 < z c) : dg z n d c < z c := Nat.mod_lt _ h
theorem ns_mono {z : Nat → Nat} {a b : Nat} (h : a ≤ b) : ns z a ≤ ns z b := by
  induction b with
  | zero => rw [show a = 0 by omega]; exact Nat.le_refl _
  | succ b ih =>
    rcases Nat.lt_or_ge a (b + 1) with q | q
    · have := ih (by omega)
      rw [ns]; omega
    · rw [show a = b + 1 by omega]; exact Nat.le_refl _
theorem nbr_some {z : Nat → Nat} {n d : Nat} (hz : ∀ c, c < n → 2 ≤ z c) : ∀ (N c k : Nat), n - c < N → c ≤ n → k + ns z c < ns z n → ∃ c' w : Nat, nbr z n d N c k = some (c', w) ∧ c' < n ∧ w < z c' := by
  intro N
  induction N with
  | zero => intro c k h; exact absurd h (Nat.not_lt_zero _)
  | succ N ih =>
    intro c k h hc hk
    have hcn : ¬ n ≤ c := by
      intro q
      have : ns z n ≤ ns z c := ns_mono q
      omega
    have hz' := hz c (by omega)
    rw [nbr, if_neg hcn]
    by_cases h1 : k < z c - 1
    · rw [if_pos h1]
      refine ⟨c, _, rfl, by omega, ?_⟩
      split <;> omega
    · rw [if_neg h1]
      refine ih (c + 1) (k - (z c - 1)) (by omega) (by omega) ?_
      rw [ns]
      omega
/-- what is drawn -/
def wx (x : Int32) : Int32 := (1103515245 * x + 12345) &&& 2147483647
def dw (g6 : Nat → Int32) (nC : Nat) (x : Int32) : Nat := x.toNatClampNeg / 65536 % ns (zg g6) nC
theorem wx_nn (x : Int32) : wx x = nI (wx x).toNatClampNeg ∧ (wx x).toNatClampNeg < 2 ^ 31 := by
  have h := pk_and (1103515245 * x + 12345) (m := 2147483647) 31 (by decide)
  have hl : (1103515245 * x + 12345).toBitVec.toNat % 2 ^ 31 < 2 ^ 31 := Nat.mod_lt _ (by decide)
  unfold wx
  rw [h, nI_clamp hl]
  exact ⟨rfl, hl⟩
theorem dw_eq {g6 : Nat → Int32} {nC : Nat} {x ne : Int32} (hn : ne = nI (ns (zg g6) nC)) (h0 : 0 < ns (zg g6) nC) (hs : ns (zg g6) nC < 2 ^ 31) : wx x / 65536 - wx x / 65536 / ne * ne = nI (dw g6 nC (wx x)) := by
  obtain ⟨e, h⟩ := wx_nn x
  unfold dw
  generalize (wx x).toNatClampNeg = k at e h ⊢
  rw [e, hn, show (65536 : Int32) = nI 65536 from rfl, pk_div h (by decide) (by decide), pk_rem (Nat.lt_of_le_of_lt (Nat.div_le_self _ _) h) h0 hs]
theorem dw_lt {g6 : Nat → Int32} {nC : Nat} {x : Int32} (h0 : 0 < ns (zg g6) nC) : dw g6 nC x < ns (zg g6) nC := Nat.mod_lt _ h0
theorem un_ok {g6 : Nat → Int32} {nC nD c : Nat} (h6 : ∀ c, c < nC → ∃ z : Nat, g6 c = nI z ∧ 2 ≤ z ∧ z ≤ 6) (hc : c < nC) (hmp : mp (zg g6) 0 nC = nD) : 0 < pc_ (zg g6) nC c ∧ pc_ (zg g6) nC c * zg g6 c ≤ nD := by
  have h1 : 0 < pc_ (zg g6) nC c := mp_small h6 (by omega)
  have h2 : 0 < mp (zg g6) 0 c := mp_small h6 (by omega)
  have h3 := mp_add (zg g6) 0 c (nC - c)
  rw [show c + (nC - c) = nC by omega, Nat.zero_add, show nC - c = (nC - (c + 1)) + 1 by omega, mp_first] at h3
  refine ⟨h1, ?_⟩
  rw [← hmp, h3, Nat.mul_comm (pc_ (zg g6) nC c)]
  exact Nat.le_mul_of_pos_left _ h2
theorem wi_1 {c : Int32} {n : Nat} (h1 : ¬ c < 1) (h2 : ¬ nI n < c) (hn : n ≤ 65536) : ∃ j : Nat, j < n + 1 ∧ c = nI j := by
  refine wi_le (fun h => h1 ?_) h2 hn
  have q := Int32.lt_iff_toInt_lt.mp h
  rw [i0_toInt] at q
  rw [Int32.lt_iff_toInt_lt, show (1 : Int32).toInt = 1 from rfl]
  omega
