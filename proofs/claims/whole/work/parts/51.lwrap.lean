def isx_X_choice (z : Int32) : Prop := z = 0 ∨ z = 2 ∨ z = 3
theorem isxf_X_choice {c : Prop} {_ : Decidable c} {a b : Int32} (h1 : isx_X_choice a) (h2 : isx_X_choice b) : isx_X_choice (if c then a else b) := by
  by_cases h : c
  · rw [if_pos h]; exact h1
  · rw [if_neg h]; exact h2
theorem mrv_X_choice (nC : Nat) (nD : Nat) (v : Int32) : mrx_X_choice nC nD v = 0 ∨ mrx_X_choice nC nD v = 2 ∨ mrx_X_choice nC nD v = 3 := by
  show isx_X_choice (mrx_X_choice nC nD v)
  have a0 : isx_X_choice 0 := Or.inl rfl
  have a2 : isx_X_choice 2 := Or.inr (Or.inl rfl)
  have a3 : isx_X_choice 3 := Or.inr (Or.inr rfl)
  unfold mrx_X_choice
  repeat' first | with_reducible exact a0 | with_reducible exact a2 | with_reducible exact a3 | with_reducible apply isxf_X_choice
def isx_X_term (z : Int32) : Prop := z = 0 ∨ z = 1 ∨ z = 2 ∨ z = 3
theorem isxf_X_term {c : Prop} {_ : Decidable c} {a b : Int32} (h1 : isx_X_term a) (h2 : isx_X_term b) : isx_X_term (if c then a else b) := by
  by_cases h : c
  · rw [if_pos h]; exact h1
  · rw [if_neg h]; exact h2
theorem mrv_X_term (g0 : Nat → Int32) (nC : Nat) (nD : Nat) (nT : Nat) (nu : Int32) (a : Int32) (va : Int32) (b : Int32) (vb : Int32) (w : Int32) : mrx_X_term g0 nC nD nT nu a va b vb w = 0 ∨ mrx_X_term g0 nC nD nT nu a va b vb w = 1 ∨ mrx_X_term g0 nC nD nT nu a va b vb w = 2 ∨ mrx_X_term g0 nC nD nT nu a va b vb w = 3 := by
  show isx_X_term (mrx_X_term g0 nC nD nT nu a va b vb w)
  have a0 : isx_X_term 0 := Or.inl rfl
  have a1 : isx_X_term 1 := Or.inr (Or.inl rfl)
  have a2 : isx_X_term 2 := Or.inr (Or.inr (Or.inl rfl))
  have a3 : isx_X_term 3 := Or.inr (Or.inr (Or.inr rfl))
  unfold mrx_X_term
  repeat' first | with_reducible exact a0 | with_reducible exact a1 | with_reducible exact a2 | with_reducible exact a3 | with_reducible apply isxf_X_term
def isx_X_rule (z : Int32) : Prop := z = 0 ∨ z = 1 ∨ z = 2 ∨ z = 3
theorem isxf_X_rule {c : Prop} {_ : Decidable c} {a b : Int32} (h1 : isx_X_rule a) (h2 : isx_X_rule b) : isx_X_rule (if c then a else b) := by
  by_cases h : c
  · rw [if_pos h]; exact h1
  · rw [if_neg h]; exact h2
theorem mrv_X_rule (g0 : Nat → Int32) (nC : Nat) (nD : Nat) (nR : Nat) (a : Int32) (va : Int32) (b : Int32) (vb : Int32) : mrx_X_rule g0 nC nD nR a va b vb = 0 ∨ mrx_X_rule g0 nC nD nR a va b vb = 1 ∨ mrx_X_rule g0 nC nD nR a va b vb = 2 ∨ mrx_X_rule g0 nC nD nR a va b vb = 3 := by
  show isx_X_rule (mrx_X_rule g0 nC nD nR a va b vb)
  have a0 : isx_X_rule 0 := Or.inl rfl
  have a1 : isx_X_rule 1 := Or.inr (Or.inl rfl)
  have a2 : isx_X_rule 2 := Or.inr (Or.inr (Or.inl rfl))
  have a3 : isx_X_rule 3 := Or.inr (Or.inr (Or.inr rfl))
  unfold mrx_X_rule
  repeat' first | with_reducible exact a0 | with_reducible exact a1 | with_reducible exact a2 | with_reducible exact a3 | with_reducible apply isxf_X_rule
def isx_X_limit (z : Int32) : Prop := z = 0 ∨ z = 1
theorem isxf_X_limit {c : Prop} {_ : Decidable c} {a b : Int32} (h1 : isx_X_limit a) (h2 : isx_X_limit b) : isx_X_limit (if c then a else b) := by
  by_cases h : c
  · rw [if_pos h]; exact h1
  · rw [if_neg h]; exact h2
theorem mrv_X_limit (nu : Int32) (on : Int32) (mo : Int32) : mrx_X_limit nu on mo = 0 ∨ mrx_X_limit nu on mo = 1 := by
  show isx_X_limit (mrx_X_limit nu on mo)
  have a0 : isx_X_limit 0 := Or.inl rfl
  have a1 : isx_X_limit 1 := Or.inr rfl
  unfold mrx_X_limit
  repeat' first | with_reducible exact a0 | with_reducible exact a1 | with_reducible apply isxf_X_limit
def isx_X_number (z : Int32) : Prop := z = 0 ∨ z = 1
theorem isxf_X_number {c : Prop} {_ : Decidable c} {a b : Int32} (h1 : isx_X_number a) (h2 : isx_X_number b) : isx_X_number (if c then a else b) := by
  by_cases h : c
  · rw [if_pos h]; exact h1
  · rw [if_neg h]; exact h2
theorem mrv_X_number (nD : Nat) (d : Int32) (nu : Int32) : mrx_X_number nD d nu = 0 ∨ mrx_X_number nD d nu = 1 := by
  show isx_X_number (mrx_X_number nD d nu)
  have a0 : isx_X_number 0 := Or.inl rfl
  have a1 : isx_X_number 1 := Or.inr rfl
  unfold mrx_X_number
  repeat' first | with_reducible exact a0 | with_reducible exact a1 | with_reducible apply isxf_X_number
def isx_X_value (z : Int32) : Prop := z = 0 ∨ z = 1
theorem isxf_X_value {c : Prop} {_ : Decidable c} {a b : Int32} (h1 : isx_X_value a) (h2 : isx_X_value b) : isx_X_value (if c then a else b) := by
  by_cases h : c
  · rw [if_pos h]; exact h1
  · rw [if_neg h]; exact h2
theorem mrv_X_value (nC : Nat) (nD : Nat) (d : Int32) (ch : Int32) : mrx_X_value nC nD d ch = 0 ∨ mrx_X_value nC nD d ch = 1 := by
  show isx_X_value (mrx_X_value nC nD d ch)
  have a0 : isx_X_value 0 := Or.inl rfl
  have a1 : isx_X_value 1 := Or.inr rfl
  unfold mrx_X_value
  repeat' first | with_reducible exact a0 | with_reducible exact a1 | with_reducible apply isxf_X_value
def isx_X_legal (z : Int32) : Prop := z = 0 ∨ z = 1
theorem isxf_X_legal {c : Prop} {_ : Decidable c} {a b : Int32} (h1 : isx_X_legal a) (h2 : isx_X_legal b) : isx_X_legal (if c then a else b) := by
  by_cases h : c
  · rw [if_pos h]; exact h1
  · rw [if_neg h]; exact h2
theorem mrv_X_legal (nD : Nat) (d : Int32) : mrx_X_legal nD d = 0 ∨ mrx_X_legal nD d = 1 := by
  show isx_X_legal (mrx_X_legal nD d)
  have a0 : isx_X_legal 0 := Or.inl rfl
  have a1 : isx_X_legal 1 := Or.inr rfl
  unfold mrx_X_legal
  repeat' first | with_reducible exact a0 | with_reducible exact a1 | with_reducible apply isxf_X_legal
def isx_X_beats (z : Int32) : Prop := z = 0 ∨ z = 1 ∨ z = 2
theorem isxf_X_beats {c : Prop} {_ : Decidable c} {a b : Int32} (h1 : isx_X_beats a) (h2 : isx_X_beats b) : isx_X_beats (if c then a else b) := by
  by_cases h : c
  · rw [if_pos h]; exact h1
  · rw [if_neg h]; exact h2
theorem mrv_X_beats (g8 : Nat → Int32) (g9 : Nat → Int32) (g10 : Nat → Int32) (g11 : Nat → Int32) (nD : Nat) (d : Int32) (o : Int32) : mrx_X_beats g8 g9 g10 g11 nD d o = 0 ∨ mrx_X_beats g8 g9 g10 g11 nD d o = 1 ∨ mrx_X_beats g8 g9 g10 g11 nD d o = 2 := by
  show isx_X_beats (mrx_X_beats g8 g9 g10 g11 nD d o)
  have a0 : isx_X_beats 0 := Or.inl rfl
  have a1 : isx_X_beats 1 := Or.inr (Or.inl rfl)
  have a2 : isx_X_beats 2 := Or.inr (Or.inr rfl)
  unfold mrx_X_beats
  repeat' first | with_reducible exact a0 | with_reducible exact a1 | with_reducible exact a2 | with_reducible apply isxf_X_beats
def isx_X_at (z : Int32) : Prop := z = 0 ∨ z = 1
theorem isxf_X_at {c : Prop} {_ : Decidable c} {a b : Int32} (h1 : isx_X_at a) (h2 : isx_X_at b) : isx_X_at (if c then a else b) := by
  by_cases h : c
  · rw [if_pos h]; exact h1
  · rw [if_neg h]; exact h2
theorem mrv_X_at (f4 : Int32) (f5 : Int32) (g8 : Nat → Int32) (g9 : Nat → Int32) (g10 : Nat → Int32) (g11 : Nat → Int32) (g12 : Nat → Int32) (g13 : Nat → Int32) (nD : Nat) (sz : Nat) (k : Int32) : mrx_X_at f4 f5 g8 g9 g10 g11 g12 g13 nD sz k = 0 ∨ mrx_X_at f4 f5 g8 g9 g10 g11 g12 g13 nD sz k = 1 := by
  show isx_X_at (mrx_X_at f4 f5 g8 g9 g10 g11 g12 g13 nD sz k)
  have a0 : isx_X_at 0 := Or.inl rfl
  have a1 : isx_X_at 1 := Or.inr rfl
  unfold mrx_X_at
  repeat' first | with_reducible exact a0 | with_reducible exact a1 | with_reducible apply isxf_X_at
def isx_X_best (z : Int32) : Prop := z = 0 ∨ z = 1
theorem isxf_X_best {c : Prop} {_ : Decidable c} {a b : Int32} (h1 : isx_X_best a) (h2 : isx_X_best b) : isx_X_best (if c then a else b) := by
  by_cases h : c
  · rw [if_pos h]; exact h1
  · rw [if_neg h]; exact h2
theorem mrv_X_best (nC : Nat) (nD : Nat) (nR : Nat) (nu : Int32) : mrx_X_best nC nD nR nu = 0 ∨ mrx_X_best nC nD nR nu = 1 := by
  show isx_X_best (mrx_X_best nC nD nR nu)
  have a0 : isx_X_best 0 := Or.inl rfl
  have a1 : isx_X_best 1 := Or.inr rfl
  unfold mrx_X_best
  repeat' first | with_reducible exact a0 | with_reducible exact a1 | with_reducible apply isxf_X_best
def isx_X_bound (z : Int32) : Prop := z = 0 ∨ z = 1
theorem isxf_X_bound {c : Prop} {_ : Decidable c} {a b : Int32} (h1 : isx_X_bound a) (h2 : isx_X_bound b) : isx_X_bound (if c then a else b) := by
  by_cases h : c
  · rw [if_pos h]; exact h1
  · rw [if_neg h]; exact h2
theorem mrv_X_bound (nC : Nat) (nD : Nat) (nu : Int32) (d : Int32) (sx : Int32) : mrx_X_bound nC nD nu d sx = 0 ∨ mrx_X_bound nC nD nu d sx = 1 := by
  show isx_X_bound (mrx_X_bound nC nD nu d sx)
  have a0 : isx_X_bound 0 := Or.inl rfl
  have a1 : isx_X_bound 1 := Or.inr rfl
  unfold mrx_X_bound
  repeat' first | with_reducible exact a0 | with_reducible exact a1 | with_reducible apply isxf_X_bound
def isx_X_near (z : Int32) : Prop := z = 0 ∨ z = 1
theorem isxf_X_near {c : Prop} {_ : Decidable c} {a b : Int32} (h1 : isx_X_near a) (h2 : isx_X_near b) : isx_X_near (if c then a else b) := by
  by_cases h : c
  · rw [if_pos h]; exact h1
  · rw [if_neg h]; exact h2
theorem mrv_X_near (g0 : Nat → Int32) (nC : Nat) (nD : Nat) (d : Int32) (k : Int32) : mrx_X_near g0 nC nD d k = 0 ∨ mrx_X_near g0 nC nD d k = 1 := by
  show isx_X_near (mrx_X_near g0 nC nD d k)
  have a0 : isx_X_near 0 := Or.inl rfl
  have a1 : isx_X_near 1 := Or.inr rfl
  unfold mrx_X_near
  repeat' first | with_reducible exact a0 | with_reducible exact a1 | with_reducible apply isxf_X_near
def isx_X_slack (z : Int32) : Prop := z = 0 ∨ z = 2
theorem isxf_X_slack {c : Prop} {_ : Decidable c} {a b : Int32} (h1 : isx_X_slack a) (h2 : isx_X_slack b) : isx_X_slack (if c then a else b) := by
  by_cases h : c
  · rw [if_pos h]; exact h1
  · rw [if_neg h]; exact h2
theorem mrv_X_slack (x : Int32) : mrx_X_slack x = 0 ∨ mrx_X_slack x = 2 := by
  show isx_X_slack (mrx_X_slack x)
  have a0 : isx_X_slack 0 := Or.inl rfl
  have a2 : isx_X_slack 2 := Or.inr rfl
  unfold mrx_X_slack
  repeat' first | with_reducible exact a0 | with_reducible exact a2 | with_reducible apply isxf_X_slack
def isx_X_walk (z : Int32) : Prop := z = 0 ∨ z = 1 ∨ z = 2 ∨ z = 4
theorem isxf_X_walk {c : Prop} {_ : Decidable c} {a b : Int32} (h1 : isx_X_walk a) (h2 : isx_X_walk b) : isx_X_walk (if c then a else b) := by
  by_cases h : c
  · rw [if_pos h]; exact h1
  · rw [if_neg h]; exact h2
theorem mrv_X_walk (g8 : Nat → Int32) (g9 : Nat → Int32) (g10 : Nat → Int32) (g11 : Nat → Int32) (nC : Nat) (nD : Nat) (d : Int32) (sp : Int32) : mrx_X_walk g8 g9 g10 g11 nC nD d sp = 0 ∨ mrx_X_walk g8 g9 g10 g11 nC nD d sp = 1 ∨ mrx_X_walk g8 g9 g10 g11 nC nD d sp = 2 ∨ mrx_X_walk g8 g9 g10 g11 nC nD d sp = 4 := by
  show isx_X_walk (mrx_X_walk g8 g9 g10 g11 nC nD d sp)
  have a0 : isx_X_walk 0 := Or.inl rfl
  have a1 : isx_X_walk 1 := Or.inr (Or.inl rfl)
  have a2 : isx_X_walk 2 := Or.inr (Or.inr (Or.inl rfl))
  have a4 : isx_X_walk 4 := Or.inr (Or.inr (Or.inr rfl))
  unfold mrx_X_walk
  repeat' first | with_reducible exact a0 | with_reducible exact a1 | with_reducible exact a2 | with_reducible exact a4 | with_reducible apply isxf_X_walk
def isx_X_matters (z : Int32) : Prop := z = 0 ∨ z = 1
theorem isxf_X_matters {c : Prop} {_ : Decidable c} {a b : Int32} (h1 : isx_X_matters a) (h2 : isx_X_matters b) : isx_X_matters (if c then a else b) := by
  by_cases h : c
  · rw [if_pos h]; exact h1
  · rw [if_neg h]; exact h2
theorem mrv_X_matters (nC : Nat) (nD : Nat) (ch : Int32) (nu : Int32) : mrx_X_matters nC nD ch nu = 0 ∨ mrx_X_matters nC nD ch nu = 1 := by
  show isx_X_matters (mrx_X_matters nC nD ch nu)
  have a0 : isx_X_matters 0 := Or.inl rfl
  have a1 : isx_X_matters 1 := Or.inr rfl
  unfold mrx_X_matters
  repeat' first | with_reducible exact a0 | with_reducible exact a1 | with_reducible apply isxf_X_matters
def isx_X_sweep (z : Int32) : Prop := z = 0 ∨ z = 2 ∨ z = 4
theorem isxf_X_sweep {c : Prop} {_ : Decidable c} {a b : Int32} (h1 : isx_X_sweep a) (h2 : isx_X_sweep b) : isx_X_sweep (if c then a else b) := by
  by_cases h : c
  · rw [if_pos h]; exact h1
  · rw [if_neg h]; exact h2
theorem mrv_X_sweep (f1 : Int32) (f13 : Int32) (nD : Nat) (pl : Nat) (n : Int32) : mrx_X_sweep f1 f13 nD pl n = 0 ∨ mrx_X_sweep f1 f13 nD pl n = 2 ∨ mrx_X_sweep f1 f13 nD pl n = 4 := by
  show isx_X_sweep (mrx_X_sweep f1 f13 nD pl n)
  have a0 : isx_X_sweep 0 := Or.inl rfl
  have a2 : isx_X_sweep 2 := Or.inr (Or.inl rfl)
  have a4 : isx_X_sweep 4 := Or.inr (Or.inr rfl)
  unfold mrx_X_sweep
  repeat' first | with_reducible exact a0 | with_reducible exact a2 | with_reducible exact a4 | with_reducible apply isxf_X_sweep
set_option maxHeartbeats 4000000 in
set_option maxRecDepth 100000 in
theorem w_choice (l : Launch) (hlt : l.stackTraces = false) (Z : State) (hZ : xZ Z) (D : va_G) (cl : List vw_C) (hcl : cOK cl) (oa ca : Nat → Nat) (ck : Nat → ClassId) (F : Nat → Int32) (G : Nat → Nat → Int32) {H0 : Heap} (bo : Nat) (kl : ClassId) (fo : Nat → Int64) (hP : va_P D cl (lW bo kl fo oa ca ck F G) H0) (hD : va_D (fun _ => True) (lW bo kl fo oa ca ck F G)) (hZ0 : Z.heap.size ≤ H0.size) (hZH : ∀ q : Nat, q < Z.heap.size → H0[q]? = Z.heap[q]?) (hZA : ∀ q : Nat, q < Z.heap.size → ¬ va_A (lW bo kl fo oa ca ck F G) H0.size q) (nC : Nat) (nD : Nat) (v : Int32) (k0 : F 0 = nI nC) (hC : nC ≤ 8) (k1 : F 1 = nI nD) (hN : nD ≤ 4096) (z11 : ∀ j, G 11 j = 0 ∨ G 11 j = 1) : Met l yL_choice wsL_choice ({ frames := 7, cells := 1, slots := 6, locals := 103 } : Room) (tx_P Z D cl (lT kl ck) H0 [.ref (oa 0), .int v, .ref bo]) (ww_Q D cl (some (.int (if mrx_X_choice nC nD v = 0 then 0 else if mrx_X_choice nC nD v = 2 then 1 else 2 : Int32))) (lW bo kl (if mrx_X_choice nC nD v = 0 then vp_updL fo 0 (((mr_X_choice (F 0) (F 1) (F 5) (F 13) (F 14) (G 0) (G 1) (G 10) (G 11) nC nD v).1).toInt64) else fo) oa ca ck (upd (upd (upd (upd (upd F 0 ((mr_X_choice (F 0) (F 1) (F 5) (F 13) (F 14) (G 0) (G 1) (G 10) (G 11) nC nD v).2.1)) 1 ((mr_X_choice (F 0) (F 1) (F 5) (F 13) (F 14) (G 0) (G 1) (G 10) (G 11) nC nD v).2.2.1)) 5 ((mr_X_choice (F 0) (F 1) (F 5) (F 13) (F 14) (G 0) (G 1) (G 10) (G 11) nC nD v).2.2.2.1)) 13 ((mr_X_choice (F 0) (F 1) (F 5) (F 13) (F 14) (G 0) (G 1) (G 10) (G 11) nC nD v).2.2.2.2.1)) 14 ((mr_X_choice (F 0) (F 1) (F 5) (F 13) (F 14) (G 0) (G 1) (G 10) (G 11) nC nD v).2.2.2.2.2.1)) (va_up (va_up (va_up (va_up G 0 ((mr_X_choice (F 0) (F 1) (F 5) (F 13) (F 14) (G 0) (G 1) (G 10) (G 11) nC nD v).2.2.2.2.2.2.1)) 1 ((mr_X_choice (F 0) (F 1) (F 5) (F 13) (F 14) (G 0) (G 1) (G 10) (G 11) nC nD v).2.2.2.2.2.2.2.1)) 10 ((mr_X_choice (F 0) (F 1) (F 5) (F 13) (F 14) (G 0) (G 1) (G 10) (G 11) nC nD v).2.2.2.2.2.2.2.2.1)) 11 ((mr_X_choice (F 0) (F 1) (F 5) (F 13) (F 14) (G 0) (G 1) (G 10) (G 11) nC nD v).2.2.2.2.2.2.2.2.2))) (va_A (lW bo kl fo oa ca ck F G) H0.size)) 1 6 (va_A (lW bo kl fo oa ca ck F G) H0.size) := by
  refine wk_met (by decide) rfl (Nat.le_of_ble_eq_true rfl) hP hD ?_
  intro p e s m args below meth c Q A hadm hAe Sx hK hZw htab hP hD hS hA ls hl hret
  obtain ⟨hx, hb, hml, hown, hts⟩ := id Sx
  have hl : lv_has ls 4 [(0, .ref (oa 0)), (1, .int v), (2, .ref bo)] := hl
  have hPc : va_P D cl (cW oa ca ck F G) H0 := fun k q hk => hP (k + 1) q hk
  have hDc : va_D (fun _ => True) (cW oa ca ck F G) := ⟨fun i j x z hi hj e9 => by have := hD.1 (i + 1) (j + 1) x z hi hj e9; omega, fun _ _ _ => trivial⟩
  have hKc : va_K D cl (cT ck) s := ⟨hK.1, fun k q hk => hK.2 (k + 1) q hk⟩
  have hZAc : ∀ q : Nat, q < Z.heap.size → ¬ va_A (cW oa ca ck F G) H0.size q := fun q hq h => hZA q hq (by rcases h with ⟨k, e9, h⟩ | h; exact Or.inl ⟨k + 1, e9, h⟩; exact Or.inr h)
  refine lv_aload_n hx hb dL_choice_0 rfl (lv_at hl 2 rfl) ?_
  refine lv_iconst (v := 0) hx hb dL_choice_1 (by decide) ?_
  refine lv_aload_n hx hb dL_choice_2 rfl (lv_at hl 0 rfl) ?_
  refine lv_iload_n hx hb dL_choice_3 rfl (lv_at hl 1 rfl) ?_
  rcases mrv_X_choice nC nD v with h0 | h0 | h0
  · refine wk_callV (o := (bo, .inl (kl, 1, .inr (.inl fo)))) (w := cW oa ca ck F G) (w' := cW oa ca ck (upd (upd (upd (upd (upd F 0 ((mr_X_choice (F 0) (F 1) (F 5) (F 13) (F 14) (G 0) (G 1) (G 10) (G 11) nC nD v).2.1)) 1 ((mr_X_choice (F 0) (F 1) (F 5) (F 13) (F 14) (G 0) (G 1) (G 10) (G 11) nC nD v).2.2.1)) 5 ((mr_X_choice (F 0) (F 1) (F 5) (F 13) (F 14) (G 0) (G 1) (G 10) (G 11) nC nD v).2.2.2.1)) 13 ((mr_X_choice (F 0) (F 1) (F 5) (F 13) (F 14) (G 0) (G 1) (G 10) (G 11) nC nD v).2.2.2.2.1)) 14 ((mr_X_choice (F 0) (F 1) (F 5) (F 13) (F 14) (G 0) (G 1) (G 10) (G 11) nC nD v).2.2.2.2.2.1)) (va_up (va_up (va_up (va_up G 0 ((mr_X_choice (F 0) (F 1) (F 5) (F 13) (F 14) (G 0) (G 1) (G 10) (G 11) nC nD v).2.2.2.2.2.2.1)) 1 ((mr_X_choice (F 0) (F 1) (F 5) (F 13) (F 14) (G 0) (G 1) (G 10) (G 11) nC nD v).2.2.2.2.2.2.2.1)) 10 ((mr_X_choice (F 0) (F 1) (F 5) (F 13) (F 14) (G 0) (G 1) (G 10) (G 11) nC nD v).2.2.2.2.2.2.2.2.1)) 11 ((mr_X_choice (F 0) (F 1) (F 5) (F 13) (F 14) (G 0) (G 1) (G 10) (G 11) nC nD v).2.2.2.2.2.2.2.2.2))) (r := some (.int ((mr_X_choice (F 0) (F 1) (F 5) (F 13) (F 14) (G 0) (G 1) (G 10) (G 11) nC nD v).1))) (As := [.int v]) (rest := [.int 0, .ref bo]) Sx (c_X_choice l D cl hcl oa ca ck F G hPc hDc nC nD v k0 hC k1 hN z11 h0) (cwV 1 hts gL_choice rfl rfl rfl (by decide +kernel) ⟨Nat.le_of_ble_eq_true rfl, Nat.le_of_ble_eq_true rfl⟩) hKc (va_recv hK hP (ci := 1) (q0 := 1) hcl.1 rfl) rfl hl.1 rfl (Nat.le_of_ble_eq_true rfl) dL_choice_4 ⟨Nat.zero_le _, Nat.zero_le _⟩ hP hD hS hA (fun H locs hP hD hS => ?_)
    refine lv_i2l hx hb dL_choice_7 rfl ?_
    refine va_last (f := fo) (x := ((mr_X_choice (F 0) (F 1) (F 5) (F 13) (F 14) (G 0) (G 1) (G 10) (G 11) nC nD v).1).toInt64) hx hb hK hP hD hS 0 0 rfl rfl (show vp_in 0 1 by unfold vp_in; decide) dL_choice_8 (fun H locs hP hD hS => ?_)
    rw [sb_cl0] at hP hD
    refine lv_goto (tgt := 18) hx hb dL_choice_9 (by decide) ?_
    refine lv_iconst (v := 0) hx hb dL_choice_18 (by decide) ?_
    refine W.widen (k := 1) (n := 6) (by decide) (by decide) ?_
    exact hret _ _ _ (lW bo kl (vp_updL fo 0 (((mr_X_choice (F 0) (F 1) (F 5) (F 13) (F 14) (G 0) (G 1) (G 10) (G 11) nC nD v).1).toInt64)) oa ca ck (upd (upd (upd (upd (upd F 0 ((mr_X_choice (F 0) (F 1) (F 5) (F 13) (F 14) (G 0) (G 1) (G 10) (G 11) nC nD v).2.1)) 1 ((mr_X_choice (F 0) (F 1) (F 5) (F 13) (F 14) (G 0) (G 1) (G 10) (G 11) nC nD v).2.2.1)) 5 ((mr_X_choice (F 0) (F 1) (F 5) (F 13) (F 14) (G 0) (G 1) (G 10) (G 11) nC nD v).2.2.2.1)) 13 ((mr_X_choice (F 0) (F 1) (F 5) (F 13) (F 14) (G 0) (G 1) (G 10) (G 11) nC nD v).2.2.2.2.1)) 14 ((mr_X_choice (F 0) (F 1) (F 5) (F 13) (F 14) (G 0) (G 1) (G 10) (G 11) nC nD v).2.2.2.2.2.1)) (va_up (va_up (va_up (va_up G 0 ((mr_X_choice (F 0) (F 1) (F 5) (F 13) (F 14) (G 0) (G 1) (G 10) (G 11) nC nD v).2.2.2.2.2.2.1)) 1 ((mr_X_choice (F 0) (F 1) (F 5) (F 13) (F 14) (G 0) (G 1) (G 10) (G 11) nC nD v).2.2.2.2.2.2.2.1)) 10 ((mr_X_choice (F 0) (F 1) (F 5) (F 13) (F 14) (G 0) (G 1) (G 10) (G 11) nC nD v).2.2.2.2.2.2.2.2.1)) 11 ((mr_X_choice (F 0) (F 1) (F 5) (F 13) (F 14) (G 0) (G 1) (G 10) (G 11) nC nD v).2.2.2.2.2.2.2.2.2))) _ _ (by rw [if_pos h0]) (by rw [if_pos h0]) hP hD hS dL_choice_19
  · have ht := t_X_choice l hlt Z hZ.1 D cl hcl oa ca ck F G hPc hDc hZ0 hZH hZAc nC nD v k0 hC k1 hN z11 (by rw [h0]; decide)
    rw [h0, exn_2] at ht
    refine wk_throwV (Z := Z) (E := "java/lang/IllegalArgumentException") (o := (bo, .inl (kl, 1, .inr (.inl fo)))) (w := cW oa ca ck F G) (w' := cW oa ca ck (upd (upd (upd (upd (upd F 0 ((mr_X_choice (F 0) (F 1) (F 5) (F 13) (F 14) (G 0) (G 1) (G 10) (G 11) nC nD v).2.1)) 1 ((mr_X_choice (F 0) (F 1) (F 5) (F 13) (F 14) (G 0) (G 1) (G 10) (G 11) nC nD v).2.2.1)) 5 ((mr_X_choice (F 0) (F 1) (F 5) (F 13) (F 14) (G 0) (G 1) (G 10) (G 11) nC nD v).2.2.2.1)) 13 ((mr_X_choice (F 0) (F 1) (F 5) (F 13) (F 14) (G 0) (G 1) (G 10) (G 11) nC nD v).2.2.2.2.1)) 14 ((mr_X_choice (F 0) (F 1) (F 5) (F 13) (F 14) (G 0) (G 1) (G 10) (G 11) nC nD v).2.2.2.2.2.1)) (va_up (va_up (va_up (va_up G 0 ((mr_X_choice (F 0) (F 1) (F 5) (F 13) (F 14) (G 0) (G 1) (G 10) (G 11) nC nD v).2.2.2.2.2.2.1)) 1 ((mr_X_choice (F 0) (F 1) (F 5) (F 13) (F 14) (G 0) (G 1) (G 10) (G 11) nC nD v).2.2.2.2.2.2.2.1)) 10 ((mr_X_choice (F 0) (F 1) (F 5) (F 13) (F 14) (G 0) (G 1) (G 10) (G 11) nC nD v).2.2.2.2.2.2.2.2.1)) 11 ((mr_X_choice (F 0) (F 1) (F 5) (F 13) (F 14) (G 0) (G 1) (G 10) (G 11) nC nD v).2.2.2.2.2.2.2.2.2))) (As := [.int v]) (rest := [.int 0, .ref bo]) Sx ht (cwV 1 hts gL_choice rfl rfl rfl (by decide +kernel) ⟨Nat.le_of_ble_eq_true rfl, Nat.le_of_ble_eq_true rfl⟩) hKc hZw (va_recv hK hP (ci := 1) (q0 := 1) hcl.1 rfl) rfl hl.1 rfl (Nat.le_of_ble_eq_true rfl) dL_choice_4 ⟨Nat.le_refl _, Nat.le_refl _⟩ hP hD hS hA (fun q ce H locs hq hv hcE hP hD hS => ?_)
    obtain ⟨x0, x1, etab, ex0, ex1⟩ := tb2 htab
    have fx0 : x0.startPc = 0 ∧ x0.endPc = 9 ∧ x0.handlerPc = 12 ∧ x0.catchType = 13 := by simpa only [tb4, Prod.mk.injEq] using ex0
    have fx1 : x1.startPc = 0 ∧ x1.endPc = 9 ∧ x1.handlerPc = 15 ∧ x1.catchType = 15 := by simpa only [tb4, Prod.mk.injEq] using ex1
    refine tx_catch (cc := cL_choice) (own := RL) hown [] x0 [x1] etab hq hv (Vm.classAt_of_findClass hcE) (fun y hy => absurd hy List.not_mem_nil) (cx_row hadm hown (tb_cov ex0 (by decide) (by decide)) (by rw [fx0.2.2.2]; decide) (by rw [fx0.2.2.2]; exact hts _ (List.mem_cons_of_mem _ (List.mem_append_left _ mxL_13))) (fit_yes hcE)) ?_
    rw [fx0.2.2.1]
    refine lv_astore_n (lv' := [(3, .ref q), (0, .ref (oa 0)), (1, .int v), (2, .ref bo)]) hx hb dL_choice_12 rfl hl (by decide) rfl (fun ls hl => ?_)
    refine lv_iconst (v := 1) hx hb dL_choice_13 (by decide) ?_
    exact hret _ _ _ (lW bo kl fo oa ca ck (upd (upd (upd (upd (upd F 0 ((mr_X_choice (F 0) (F 1) (F 5) (F 13) (F 14) (G 0) (G 1) (G 10) (G 11) nC nD v).2.1)) 1 ((mr_X_choice (F 0) (F 1) (F 5) (F 13) (F 14) (G 0) (G 1) (G 10) (G 11) nC nD v).2.2.1)) 5 ((mr_X_choice (F 0) (F 1) (F 5) (F 13) (F 14) (G 0) (G 1) (G 10) (G 11) nC nD v).2.2.2.1)) 13 ((mr_X_choice (F 0) (F 1) (F 5) (F 13) (F 14) (G 0) (G 1) (G 10) (G 11) nC nD v).2.2.2.2.1)) 14 ((mr_X_choice (F 0) (F 1) (F 5) (F 13) (F 14) (G 0) (G 1) (G 10) (G 11) nC nD v).2.2.2.2.2.1)) (va_up (va_up (va_up (va_up G 0 ((mr_X_choice (F 0) (F 1) (F 5) (F 13) (F 14) (G 0) (G 1) (G 10) (G 11) nC nD v).2.2.2.2.2.2.1)) 1 ((mr_X_choice (F 0) (F 1) (F 5) (F 13) (F 14) (G 0) (G 1) (G 10) (G 11) nC nD v).2.2.2.2.2.2.2.1)) 10 ((mr_X_choice (F 0) (F 1) (F 5) (F 13) (F 14) (G 0) (G 1) (G 10) (G 11) nC nD v).2.2.2.2.2.2.2.2.1)) 11 ((mr_X_choice (F 0) (F 1) (F 5) (F 13) (F 14) (G 0) (G 1) (G 10) (G 11) nC nD v).2.2.2.2.2.2.2.2.2))) _ _ (by rw [h0]; decide) (by rw [if_neg (show ¬ mrx_X_choice nC nD v = 0 by rw [h0]; decide)]) hP hD hS dL_choice_14
  · have ht := t_X_choice l hlt Z hZ.1 D cl hcl oa ca ck F G hPc hDc hZ0 hZH hZAc nC nD v k0 hC k1 hN z11 (by rw [h0]; decide)
    rw [h0, exn_3] at ht
    refine wk_throwV (Z := Z) (E := "java/lang/UnsupportedOperationException") (o := (bo, .inl (kl, 1, .inr (.inl fo)))) (w := cW oa ca ck F G) (w' := cW oa ca ck (upd (upd (upd (upd (upd F 0 ((mr_X_choice (F 0) (F 1) (F 5) (F 13) (F 14) (G 0) (G 1) (G 10) (G 11) nC nD v).2.1)) 1 ((mr_X_choice (F 0) (F 1) (F 5) (F 13) (F 14) (G 0) (G 1) (G 10) (G 11) nC nD v).2.2.1)) 5 ((mr_X_choice (F 0) (F 1) (F 5) (F 13) (F 14) (G 0) (G 1) (G 10) (G 11) nC nD v).2.2.2.1)) 13 ((mr_X_choice (F 0) (F 1) (F 5) (F 13) (F 14) (G 0) (G 1) (G 10) (G 11) nC nD v).2.2.2.2.1)) 14 ((mr_X_choice (F 0) (F 1) (F 5) (F 13) (F 14) (G 0) (G 1) (G 10) (G 11) nC nD v).2.2.2.2.2.1)) (va_up (va_up (va_up (va_up G 0 ((mr_X_choice (F 0) (F 1) (F 5) (F 13) (F 14) (G 0) (G 1) (G 10) (G 11) nC nD v).2.2.2.2.2.2.1)) 1 ((mr_X_choice (F 0) (F 1) (F 5) (F 13) (F 14) (G 0) (G 1) (G 10) (G 11) nC nD v).2.2.2.2.2.2.2.1)) 10 ((mr_X_choice (F 0) (F 1) (F 5) (F 13) (F 14) (G 0) (G 1) (G 10) (G 11) nC nD v).2.2.2.2.2.2.2.2.1)) 11 ((mr_X_choice (F 0) (F 1) (F 5) (F 13) (F 14) (G 0) (G 1) (G 10) (G 11) nC nD v).2.2.2.2.2.2.2.2.2))) (As := [.int v]) (rest := [.int 0, .ref bo]) Sx ht (cwV 1 hts gL_choice rfl rfl rfl (by decide +kernel) ⟨Nat.le_of_ble_eq_true rfl, Nat.le_of_ble_eq_true rfl⟩) hKc hZw (va_recv hK hP (ci := 1) (q0 := 1) hcl.1 rfl) rfl hl.1 rfl (Nat.le_of_ble_eq_true rfl) dL_choice_4 ⟨Nat.le_refl _, Nat.le_refl _⟩ hP hD hS hA (fun q ce H locs hq hv hcE hP hD hS => ?_)
    obtain ⟨x0, x1, etab, ex0, ex1⟩ := tb2 htab
    have fx0 : x0.startPc = 0 ∧ x0.endPc = 9 ∧ x0.handlerPc = 12 ∧ x0.catchType = 13 := by simpa only [tb4, Prod.mk.injEq] using ex0
    have fx1 : x1.startPc = 0 ∧ x1.endPc = 9 ∧ x1.handlerPc = 15 ∧ x1.catchType = 15 := by simpa only [tb4, Prod.mk.injEq] using ex1
    refine tx_catch (cc := cL_choice) (own := RL) hown [x0] x1 [] etab hq hv (Vm.classAt_of_findClass hcE) (fun y hy => by rw [List.mem_singleton.mp hy]; exact cx_row hadm hown (tb_cov ex0 (by decide) (by decide)) (by rw [fx0.2.2.2]; decide) (by rw [fx0.2.2.2]; exact hts _ (List.mem_cons_of_mem _ (List.mem_append_left _ mxL_13))) (fit_no hZ hZw (by decide) (by decide) (by decide) hcE)) (cx_row hadm hown (tb_cov ex1 (by decide) (by decide)) (by rw [fx1.2.2.2]; decide) (by rw [fx1.2.2.2]; exact hts _ (List.mem_cons_of_mem _ (List.mem_append_left _ mxL_15))) (fit_yes hcE)) ?_
    rw [fx1.2.2.1]
    refine lv_astore_n (lv' := [(3, .ref q), (0, .ref (oa 0)), (1, .int v), (2, .ref bo)]) hx hb dL_choice_15 rfl hl (by decide) rfl (fun ls hl => ?_)
    refine lv_iconst (v := 2) hx hb dL_choice_16 (by decide) ?_
    exact hret _ _ _ (lW bo kl fo oa ca ck (upd (upd (upd (upd (upd F 0 ((mr_X_choice (F 0) (F 1) (F 5) (F 13) (F 14) (G 0) (G 1) (G 10) (G 11) nC nD v).2.1)) 1 ((mr_X_choice (F 0) (F 1) (F 5) (F 13) (F 14) (G 0) (G 1) (G 10) (G 11) nC nD v).2.2.1)) 5 ((mr_X_choice (F 0) (F 1) (F 5) (F 13) (F 14) (G 0) (G 1) (G 10) (G 11) nC nD v).2.2.2.1)) 13 ((mr_X_choice (F 0) (F 1) (F 5) (F 13) (F 14) (G 0) (G 1) (G 10) (G 11) nC nD v).2.2.2.2.1)) 14 ((mr_X_choice (F 0) (F 1) (F 5) (F 13) (F 14) (G 0) (G 1) (G 10) (G 11) nC nD v).2.2.2.2.2.1)) (va_up (va_up (va_up (va_up G 0 ((mr_X_choice (F 0) (F 1) (F 5) (F 13) (F 14) (G 0) (G 1) (G 10) (G 11) nC nD v).2.2.2.2.2.2.1)) 1 ((mr_X_choice (F 0) (F 1) (F 5) (F 13) (F 14) (G 0) (G 1) (G 10) (G 11) nC nD v).2.2.2.2.2.2.2.1)) 10 ((mr_X_choice (F 0) (F 1) (F 5) (F 13) (F 14) (G 0) (G 1) (G 10) (G 11) nC nD v).2.2.2.2.2.2.2.2.1)) 11 ((mr_X_choice (F 0) (F 1) (F 5) (F 13) (F 14) (G 0) (G 1) (G 10) (G 11) nC nD v).2.2.2.2.2.2.2.2.2))) _ _ (by rw [h0]; decide) (by rw [if_neg (show ¬ mrx_X_choice nC nD v = 0 by rw [h0]; decide)]) hP hD hS dL_choice_17
set_option maxHeartbeats 4000000 in
set_option maxRecDepth 100000 in
theorem w_term (l : Launch) (hlt : l.stackTraces = false) (Z : State) (hZ : xZ Z) (D : va_G) (cl : List vw_C) (hcl : cOK cl) (oa ca : Nat → Nat) (ck : Nat → ClassId) (F : Nat → Int32) (G : Nat → Nat → Int32) {H0 : Heap} (bo : Nat) (kl : ClassId) (fo : Nat → Int64) (hP : va_P D cl (lW bo kl fo oa ca ck F G) H0) (hD : va_D (fun _ => True) (lW bo kl fo oa ca ck F G)) (hZ0 : Z.heap.size ≤ H0.size) (hZH : ∀ q : Nat, q < Z.heap.size → H0[q]? = Z.heap[q]?) (hZA : ∀ q : Nat, q < Z.heap.size → ¬ va_A (lW bo kl fo oa ca ck F G) H0.size q) (nC : Nat) (nD : Nat) (nT : Nat) (nu : Int32) (a : Int32) (va : Int32) (b : Int32) (vb : Int32) (w : Int32) (k0 : F 0 = nI nC) (hC : nC ≤ 8) (k1 : F 1 = nI nD) (hN : nD ≤ 4096) (k2 : F 2 = nI nT) (hT : nT ≤ 100) (mQT : ∀ n, n < 4 → ∃ t : Nat, t < nT + 1 ∧ G 6 n = nI t) : Met l yL_term wsL_term ({ frames := 7, cells := 1, slots := 6, locals := 109 } : Room) (tx_P Z D cl (lT kl ck) H0 [.ref (oa 0), .int nu, .int a, .int va, .int b, .int vb, .int w, .ref bo]) (ww_Q D cl (some (.int (if mrx_X_term (G 0) nC nD nT nu a va b vb w = 0 then 0 else if mrx_X_term (G 0) nC nD nT nu a va b vb w = 1 then 1 else if mrx_X_term (G 0) nC nD nT nu a va b vb w = 2 then 2 else 3 : Int32))) (lW bo kl (if mrx_X_term (G 0) nC nD nT nu a va b vb w = 0 then vp_updL fo 0 (((mr_X_term (F 2) (F 5) (G 0) (G 1) (G 2) (G 3) (G 4) (G 5) (G 6) (G 7) (G 10) nC nD nT nu a va b vb w).1).toInt64) else fo) oa ca ck (upd (upd F 2 ((mr_X_term (F 2) (F 5) (G 0) (G 1) (G 2) (G 3) (G 4) (G 5) (G 6) (G 7) (G 10) nC nD nT nu a va b vb w).2.1)) 5 ((mr_X_term (F 2) (F 5) (G 0) (G 1) (G 2) (G 3) (G 4) (G 5) (G 6) (G 7) (G 10) nC nD nT nu a va b vb w).2.2.1)) (va_up (va_up (va_up (va_up (va_up (va_up (va_up G 2 ((mr_X_term (F 2) (F 5) (G 0) (G 1) (G 2) (G 3) (G 4) (G 5) (G 6) (G 7) (G 10) nC nD nT nu a va b vb w).2.2.2.1)) 3 ((mr_X_term (F 2) (F 5) (G 0) (G 1) (G 2) (G 3) (G 4) (G 5) (G 6) (G 7) (G 10) nC nD nT nu a va b vb w).2.2.2.2.1)) 4 ((mr_X_term (F 2) (F 5) (G 0) (G 1) (G 2) (G 3) (G 4) (G 5) (G 6) (G 7) (G 10) nC nD nT nu a va b vb w).2.2.2.2.2.1)) 5 ((mr_X_term (F 2) (F 5) (G 0) (G 1) (G 2) (G 3) (G 4) (G 5) (G 6) (G 7) (G 10) nC nD nT nu a va b vb w).2.2.2.2.2.2.1)) 6 ((mr_X_term (F 2) (F 5) (G 0) (G 1) (G 2) (G 3) (G 4) (G 5) (G 6) (G 7) (G 10) nC nD nT nu a va b vb w).2.2.2.2.2.2.2.1)) 7 ((mr_X_term (F 2) (F 5) (G 0) (G 1) (G 2) (G 3) (G 4) (G 5) (G 6) (G 7) (G 10) nC nD nT nu a va b vb w).2.2.2.2.2.2.2.2.1)) 10 ((mr_X_term (F 2) (F 5) (G 0) (G 1) (G 2) (G 3) (G 4) (G 5) (G 6) (G 7) (G 10) nC nD nT nu a va b vb w).2.2.2.2.2.2.2.2.2))) (va_A (lW bo kl fo oa ca ck F G) H0.size)) 1 6 (va_A (lW bo kl fo oa ca ck F G) H0.size) := by
  refine wk_met (by decide) rfl (Nat.le_of_ble_eq_true rfl) hP hD ?_
  intro p e s m args below meth c Q A hadm hAe Sx hK hZw htab hP hD hS hA ls hl hret
  obtain ⟨hx, hb, hml, hown, hts⟩ := id Sx
  have hl : lv_has ls 9 [(0, .ref (oa 0)), (1, .int nu), (2, .int a), (3, .int va), (4, .int b), (5, .int vb), (6, .int w), (7, .ref bo)] := hl
  have hPc : va_P D cl (cW oa ca ck F G) H0 := fun k q hk => hP (k + 1) q hk
  have hDc : va_D (fun _ => True) (cW oa ca ck F G) := ⟨fun i j x z hi hj e9 => by have := hD.1 (i + 1) (j + 1) x z hi hj e9; omega, fun _ _ _ => trivial⟩
  have hKc : va_K D cl (cT ck) s := ⟨hK.1, fun k q hk => hK.2 (k + 1) q hk⟩
  have hZAc : ∀ q : Nat, q < Z.heap.size → ¬ va_A (cW oa ca ck F G) H0.size q := fun q hq h => hZA q hq (by rcases h with ⟨k, e9, h⟩ | h; exact Or.inl ⟨k + 1, e9, h⟩; exact Or.inr h)
  refine lv_aload hx hb dL_term_0 (lv_at hl 7 rfl) ?_
  refine lv_iconst (v := 0) hx hb dL_term_2 (by decide) ?_
  refine lv_aload_n hx hb dL_term_3 rfl (lv_at hl 0 rfl) ?_
  refine lv_iload_n hx hb dL_term_4 rfl (lv_at hl 1 rfl) ?_
  refine lv_iload_n hx hb dL_term_5 rfl (lv_at hl 2 rfl) ?_
  refine lv_iload_n hx hb dL_term_6 rfl (lv_at hl 3 rfl) ?_
  refine lv_iload hx hb dL_term_7 (lv_at hl 4 rfl) ?_
  refine lv_iload hx hb dL_term_9 (lv_at hl 5 rfl) ?_
  refine lv_iload hx hb dL_term_11 (lv_at hl 6 rfl) ?_
  rcases mrv_X_term (G 0) nC nD nT nu a va b vb w with h0 | h0 | h0 | h0
  · refine wk_callV (o := (bo, .inl (kl, 1, .inr (.inl fo)))) (w := cW oa ca ck F G) (w' := cW oa ca ck (upd (upd F 2 ((mr_X_term (F 2) (F 5) (G 0) (G 1) (G 2) (G 3) (G 4) (G 5) (G 6) (G 7) (G 10) nC nD nT nu a va b vb w).2.1)) 5 ((mr_X_term (F 2) (F 5) (G 0) (G 1) (G 2) (G 3) (G 4) (G 5) (G 6) (G 7) (G 10) nC nD nT nu a va b vb w).2.2.1)) (va_up (va_up (va_up (va_up (va_up (va_up (va_up G 2 ((mr_X_term (F 2) (F 5) (G 0) (G 1) (G 2) (G 3) (G 4) (G 5) (G 6) (G 7) (G 10) nC nD nT nu a va b vb w).2.2.2.1)) 3 ((mr_X_term (F 2) (F 5) (G 0) (G 1) (G 2) (G 3) (G 4) (G 5) (G 6) (G 7) (G 10) nC nD nT nu a va b vb w).2.2.2.2.1)) 4 ((mr_X_term (F 2) (F 5) (G 0) (G 1) (G 2) (G 3) (G 4) (G 5) (G 6) (G 7) (G 10) nC nD nT nu a va b vb w).2.2.2.2.2.1)) 5 ((mr_X_term (F 2) (F 5) (G 0) (G 1) (G 2) (G 3) (G 4) (G 5) (G 6) (G 7) (G 10) nC nD nT nu a va b vb w).2.2.2.2.2.2.1)) 6 ((mr_X_term (F 2) (F 5) (G 0) (G 1) (G 2) (G 3) (G 4) (G 5) (G 6) (G 7) (G 10) nC nD nT nu a va b vb w).2.2.2.2.2.2.2.1)) 7 ((mr_X_term (F 2) (F 5) (G 0) (G 1) (G 2) (G 3) (G 4) (G 5) (G 6) (G 7) (G 10) nC nD nT nu a va b vb w).2.2.2.2.2.2.2.2.1)) 10 ((mr_X_term (F 2) (F 5) (G 0) (G 1) (G 2) (G 3) (G 4) (G 5) (G 6) (G 7) (G 10) nC nD nT nu a va b vb w).2.2.2.2.2.2.2.2.2))) (r := some (.int ((mr_X_term (F 2) (F 5) (G 0) (G 1) (G 2) (G 3) (G 4) (G 5) (G 6) (G 7) (G 10) nC nD nT nu a va b vb w).1))) (As := [.int nu, .int a, .int va, .int b, .int vb, .int w]) (rest := [.int 0, .ref bo]) Sx (c_X_term l D cl hcl oa ca ck F G hPc hDc nC nD nT nu a va b vb w k0 hC k1 hN k2 hT mQT h0) (cwV 6 hts gL_term rfl rfl rfl (by decide +kernel) ⟨Nat.le_of_ble_eq_true rfl, Nat.le_of_ble_eq_true rfl⟩) hKc (va_recv hK hP (ci := 1) (q0 := 1) hcl.1 rfl) rfl hl.1 rfl (Nat.le_of_ble_eq_true rfl) dL_term_13 ⟨Nat.zero_le _, Nat.zero_le _⟩ hP hD hS hA (fun H locs hP hD hS => ?_)
    refine lv_i2l hx hb dL_term_16 rfl ?_
    refine va_last (f := fo) (x := ((mr_X_term (F 2) (F 5) (G 0) (G 1) (G 2) (G 3) (G 4) (G 5) (G 6) (G 7) (G 10) nC nD nT nu a va b vb w).1).toInt64) hx hb hK hP hD hS 0 0 rfl rfl (show vp_in 0 1 by unfold vp_in; decide) dL_term_17 (fun H locs hP hD hS => ?_)
    rw [sb_cl0] at hP hD
    refine lv_goto (tgt := 33) hx hb dL_term_18 (by decide) ?_
    refine lv_iconst (v := 0) hx hb dL_term_33 (by decide) ?_
    refine W.widen (k := 1) (n := 6) (by decide) (by decide) ?_
    exact hret _ _ _ (lW bo kl (vp_updL fo 0 (((mr_X_term (F 2) (F 5) (G 0) (G 1) (G 2) (G 3) (G 4) (G 5) (G 6) (G 7) (G 10) nC nD nT nu a va b vb w).1).toInt64)) oa ca ck (upd (upd F 2 ((mr_X_term (F 2) (F 5) (G 0) (G 1) (G 2) (G 3) (G 4) (G 5) (G 6) (G 7) (G 10) nC nD nT nu a va b vb w).2.1)) 5 ((mr_X_term (F 2) (F 5) (G 0) (G 1) (G 2) (G 3) (G 4) (G 5) (G 6) (G 7) (G 10) nC nD nT nu a va b vb w).2.2.1)) (va_up (va_up (va_up (va_up (va_up (va_up (va_up G 2 ((mr_X_term (F 2) (F 5) (G 0) (G 1) (G 2) (G 3) (G 4) (G 5) (G 6) (G 7) (G 10) nC nD nT nu a va b vb w).2.2.2.1)) 3 ((mr_X_term (F 2) (F 5) (G 0) (G 1) (G 2) (G 3) (G 4) (G 5) (G 6) (G 7) (G 10) nC nD nT nu a va b vb w).2.2.2.2.1)) 4 ((mr_X_term (F 2) (F 5) (G 0) (G 1) (G 2) (G 3) (G 4) (G 5) (G 6) (G 7) (G 10) nC nD nT nu a va b vb w).2.2.2.2.2.1)) 5 ((mr_X_term (F 2) (F 5) (G 0) (G 1) (G 2) (G 3) (G 4) (G 5) (G 6) (G 7) (G 10) nC nD nT nu a va b vb w).2.2.2.2.2.2.1)) 6 ((mr_X_term (F 2) (F 5) (G 0) (G 1) (G 2) (G 3) (G 4) (G 5) (G 6) (G 7) (G 10) nC nD nT nu a va b vb w).2.2.2.2.2.2.2.1)) 7 ((mr_X_term (F 2) (F 5) (G 0) (G 1) (G 2) (G 3) (G 4) (G 5) (G 6) (G 7) (G 10) nC nD nT nu a va b vb w).2.2.2.2.2.2.2.2.1)) 10 ((mr_X_term (F 2) (F 5) (G 0) (G 1) (G 2) (G 3) (G 4) (G 5) (G 6) (G 7) (G 10) nC nD nT nu a va b vb w).2.2.2.2.2.2.2.2.2))) _ _ (by rw [if_pos h0]) (by rw [if_pos h0]) hP hD hS dL_term_34
  · have ht := t_X_term l hlt Z hZ.1 D cl hcl oa ca ck F G hPc hDc hZ0 hZH hZAc nC nD nT nu a va b vb w k0 hC k1 hN k2 hT mQT (by rw [h0]; decide)
    rw [h0, exn_1] at ht
    refine wk_throwV (Z := Z) (E := "java/lang/IndexOutOfBoundsException") (o := (bo, .inl (kl, 1, .inr (.inl fo)))) (w := cW oa ca ck F G) (w' := cW oa ca ck (upd (upd F 2 ((mr_X_term (F 2) (F 5) (G 0) (G 1) (G 2) (G 3) (G 4) (G 5) (G 6) (G 7) (G 10) nC nD nT nu a va b vb w).2.1)) 5 ((mr_X_term (F 2) (F 5) (G 0) (G 1) (G 2) (G 3) (G 4) (G 5) (G 6) (G 7) (G 10) nC nD nT nu a va b vb w).2.2.1)) (va_up (va_up (va_up (va_up (va_up (va_up (va_up G 2 ((mr_X_term (F 2) (F 5) (G 0) (G 1) (G 2) (G 3) (G 4) (G 5) (G 6) (G 7) (G 10) nC nD nT nu a va b vb w).2.2.2.1)) 3 ((mr_X_term (F 2) (F 5) (G 0) (G 1) (G 2) (G 3) (G 4) (G 5) (G 6) (G 7) (G 10) nC nD nT nu a va b vb w).2.2.2.2.1)) 4 ((mr_X_term (F 2) (F 5) (G 0) (G 1) (G 2) (G 3) (G 4) (G 5) (G 6) (G 7) (G 10) nC nD nT nu a va b vb w).2.2.2.2.2.1)) 5 ((mr_X_term (F 2) (F 5) (G 0) (G 1) (G 2) (G 3) (G 4) (G 5) (G 6) (G 7) (G 10) nC nD nT nu a va b vb w).2.2.2.2.2.2.1)) 6 ((mr_X_term (F 2) (F 5) (G 0) (G 1) (G 2) (G 3) (G 4) (G 5) (G 6) (G 7) (G 10) nC nD nT nu a va b vb w).2.2.2.2.2.2.2.1)) 7 ((mr_X_term (F 2) (F 5) (G 0) (G 1) (G 2) (G 3) (G 4) (G 5) (G 6) (G 7) (G 10) nC nD nT nu a va b vb w).2.2.2.2.2.2.2.2.1)) 10 ((mr_X_term (F 2) (F 5) (G 0) (G 1) (G 2) (G 3) (G 4) (G 5) (G 6) (G 7) (G 10) nC nD nT nu a va b vb w).2.2.2.2.2.2.2.2.2))) (As := [.int nu, .int a, .int va, .int b, .int vb, .int w]) (rest := [.int 0, .ref bo]) Sx ht (cwV 6 hts gL_term rfl rfl rfl (by decide +kernel) ⟨Nat.le_of_ble_eq_true rfl, Nat.le_of_ble_eq_true rfl⟩) hKc hZw (va_recv hK hP (ci := 1) (q0 := 1) hcl.1 rfl) rfl hl.1 rfl (Nat.le_of_ble_eq_true rfl) dL_term_13 ⟨Nat.le_refl _, Nat.le_refl _⟩ hP hD hS hA (fun q ce H locs hq hv hcE hP hD hS => ?_)
    obtain ⟨x0, x1, x2, etab, ex0, ex1, ex2⟩ := tb3 htab
    have fx0 : x0.startPc = 0 ∧ x0.endPc = 18 ∧ x0.handlerPc = 21 ∧ x0.catchType = 21 := by simpa only [tb4, Prod.mk.injEq] using ex0
    have fx1 : x1.startPc = 0 ∧ x1.endPc = 18 ∧ x1.handlerPc = 25 ∧ x1.catchType = 13 := by simpa only [tb4, Prod.mk.injEq] using ex1
    have fx2 : x2.startPc = 0 ∧ x2.endPc = 18 ∧ x2.handlerPc = 29 ∧ x2.catchType = 15 := by simpa only [tb4, Prod.mk.injEq] using ex2
    refine tx_catch (cc := cL_term) (own := RL) hown [] x0 [x1, x2] etab hq hv (Vm.classAt_of_findClass hcE) (fun y hy => absurd hy List.not_mem_nil) (cx_row hadm hown (tb_cov ex0 (by decide) (by decide)) (by rw [fx0.2.2.2]; decide) (by rw [fx0.2.2.2]; exact hts _ (List.mem_cons_of_mem _ (List.mem_append_left _ mxL_21))) (fit_yes hcE)) ?_
    rw [fx0.2.2.1]
    refine lv_astore (lv' := [(8, .ref q), (0, .ref (oa 0)), (1, .int nu), (2, .int a), (3, .int va), (4, .int b), (5, .int vb), (6, .int w), (7, .ref bo)]) hx hb dL_term_21 hl (by decide) rfl (fun ls hl => ?_)
    refine lv_iconst (v := 1) hx hb dL_term_23 (by decide) ?_
    exact hret _ _ _ (lW bo kl fo oa ca ck (upd (upd F 2 ((mr_X_term (F 2) (F 5) (G 0) (G 1) (G 2) (G 3) (G 4) (G 5) (G 6) (G 7) (G 10) nC nD nT nu a va b vb w).2.1)) 5 ((mr_X_term (F 2) (F 5) (G 0) (G 1) (G 2) (G 3) (G 4) (G 5) (G 6) (G 7) (G 10) nC nD nT nu a va b vb w).2.2.1)) (va_up (va_up (va_up (va_up (va_up (va_up (va_up G 2 ((mr_X_term (F 2) (F 5) (G 0) (G 1) (G 2) (G 3) (G 4) (G 5) (G 6) (G 7) (G 10) nC nD nT nu a va b vb w).2.2.2.1)) 3 ((mr_X_term (F 2) (F 5) (G 0) (G 1) (G 2) (G 3) (G 4) (G 5) (G 6) (G 7) (G 10) nC nD nT nu a va b vb w).2.2.2.2.1)) 4 ((mr_X_term (F 2) (F 5) (G 0) (G 1) (G 2) (G 3) (G 4) (G 5) (G 6) (G 7) (G 10) nC nD nT nu a va b vb w).2.2.2.2.2.1)) 5 ((mr_X_term (F 2) (F 5) (G 0) (G 1) (G 2) (G 3) (G 4) (G 5) (G 6) (G 7) (G 10) nC nD nT nu a va b vb w).2.2.2.2.2.2.1)) 6 ((mr_X_term (F 2) (F 5) (G 0) (G 1) (G 2) (G 3) (G 4) (G 5) (G 6) (G 7) (G 10) nC nD nT nu a va b vb w).2.2.2.2.2.2.2.1)) 7 ((mr_X_term (F 2) (F 5) (G 0) (G 1) (G 2) (G 3) (G 4) (G 5) (G 6) (G 7) (G 10) nC nD nT nu a va b vb w).2.2.2.2.2.2.2.2.1)) 10 ((mr_X_term (F 2) (F 5) (G 0) (G 1) (G 2) (G 3) (G 4) (G 5) (G 6) (G 7) (G 10) nC nD nT nu a va b vb w).2.2.2.2.2.2.2.2.2))) _ _ (by rw [h0]; decide) (by rw [if_neg (show ¬ mrx_X_term (G 0) nC nD nT nu a va b vb w = 0 by rw [h0]; decide)]) hP hD hS dL_term_24
  · have ht := t_X_term l hlt Z hZ.1 D cl hcl oa ca ck F G hPc hDc hZ0 hZH hZAc nC nD nT nu a va b vb w k0 hC k1 hN k2 hT mQT (by rw [h0]; decide)
    rw [h0, exn_2] at ht
    refine wk_throwV (Z := Z) (E := "java/lang/IllegalArgumentException") (o := (bo, .inl (kl, 1, .inr (.inl fo)))) (w := cW oa ca ck F G) (w' := cW oa ca ck (upd (upd F 2 ((mr_X_term (F 2) (F 5) (G 0) (G 1) (G 2) (G 3) (G 4) (G 5) (G 6) (G 7) (G 10) nC nD nT nu a va b vb w).2.1)) 5 ((mr_X_term (F 2) (F 5) (G 0) (G 1) (G 2) (G 3) (G 4) (G 5) (G 6) (G 7) (G 10) nC nD nT nu a va b vb w).2.2.1)) (va_up (va_up (va_up (va_up (va_up (va_up (va_up G 2 ((mr_X_term (F 2) (F 5) (G 0) (G 1) (G 2) (G 3) (G 4) (G 5) (G 6) (G 7) (G 10) nC nD nT nu a va b vb w).2.2.2.1)) 3 ((mr_X_term (F 2) (F 5) (G 0) (G 1) (G 2) (G 3) (G 4) (G 5) (G 6) (G 7) (G 10) nC nD nT nu a va b vb w).2.2.2.2.1)) 4 ((mr_X_term (F 2) (F 5) (G 0) (G 1) (G 2) (G 3) (G 4) (G 5) (G 6) (G 7) (G 10) nC nD nT nu a va b vb w).2.2.2.2.2.1)) 5 ((mr_X_term (F 2) (F 5) (G 0) (G 1) (G 2) (G 3) (G 4) (G 5) (G 6) (G 7) (G 10) nC nD nT nu a va b vb w).2.2.2.2.2.2.1)) 6 ((mr_X_term (F 2) (F 5) (G 0) (G 1) (G 2) (G 3) (G 4) (G 5) (G 6) (G 7) (G 10) nC nD nT nu a va b vb w).2.2.2.2.2.2.2.1)) 7 ((mr_X_term (F 2) (F 5) (G 0) (G 1) (G 2) (G 3) (G 4) (G 5) (G 6) (G 7) (G 10) nC nD nT nu a va b vb w).2.2.2.2.2.2.2.2.1)) 10 ((mr_X_term (F 2) (F 5) (G 0) (G 1) (G 2) (G 3) (G 4) (G 5) (G 6) (G 7) (G 10) nC nD nT nu a va b vb w).2.2.2.2.2.2.2.2.2))) (As := [.int nu, .int a, .int va, .int b, .int vb, .int w]) (rest := [.int 0, .ref bo]) Sx ht (cwV 6 hts gL_term rfl rfl rfl (by decide +kernel) ⟨Nat.le_of_ble_eq_true rfl, Nat.le_of_ble_eq_true rfl⟩) hKc hZw (va_recv hK hP (ci := 1) (q0 := 1) hcl.1 rfl) rfl hl.1 rfl (Nat.le_of_ble_eq_true rfl) dL_term_13 ⟨Nat.le_refl _, Nat.le_refl _⟩ hP hD hS hA (fun q ce H locs hq hv hcE hP hD hS => ?_)
    obtain ⟨x0, x1, x2, etab, ex0, ex1, ex2⟩ := tb3 htab
    have fx0 : x0.startPc = 0 ∧ x0.endPc = 18 ∧ x0.handlerPc = 21 ∧ x0.catchType = 21 := by simpa only [tb4, Prod.mk.injEq] using ex0
    have fx1 : x1.startPc = 0 ∧ x1.endPc = 18 ∧ x1.handlerPc = 25 ∧ x1.catchType = 13 := by simpa only [tb4, Prod.mk.injEq] using ex1
    have fx2 : x2.startPc = 0 ∧ x2.endPc = 18 ∧ x2.handlerPc = 29 ∧ x2.catchType = 15 := by simpa only [tb4, Prod.mk.injEq] using ex2
    refine tx_catch (cc := cL_term) (own := RL) hown [x0] x1 [x2] etab hq hv (Vm.classAt_of_findClass hcE) (fun y hy => by rw [List.mem_singleton.mp hy]; exact cx_row hadm hown (tb_cov ex0 (by decide) (by decide)) (by rw [fx0.2.2.2]; decide) (by rw [fx0.2.2.2]; exact hts _ (List.mem_cons_of_mem _ (List.mem_append_left _ mxL_21))) (fit_no hZ hZw (by decide) (by decide) (by decide) hcE)) (cx_row hadm hown (tb_cov ex1 (by decide) (by decide)) (by rw [fx1.2.2.2]; decide) (by rw [fx1.2.2.2]; exact hts _ (List.mem_cons_of_mem _ (List.mem_append_left _ mxL_13))) (fit_yes hcE)) ?_
    rw [fx1.2.2.1]
    refine lv_astore (lv' := [(8, .ref q), (0, .ref (oa 0)), (1, .int nu), (2, .int a), (3, .int va), (4, .int b), (5, .int vb), (6, .int w), (7, .ref bo)]) hx hb dL_term_25 hl (by decide) rfl (fun ls hl => ?_)
    refine lv_iconst (v := 2) hx hb dL_term_27 (by decide) ?_
    exact hret _ _ _ (lW bo kl fo oa ca ck (upd (upd F 2 ((mr_X_term (F 2) (F 5) (G 0) (G 1) (G 2) (G 3) (G 4) (G 5) (G 6) (G 7) (G 10) nC nD nT nu a va b vb w).2.1)) 5 ((mr_X_term (F 2) (F 5) (G 0) (G 1) (G 2) (G 3) (G 4) (G 5) (G 6) (G 7) (G 10) nC nD nT nu a va b vb w).2.2.1)) (va_up (va_up (va_up (va_up (va_up (va_up (va_up G 2 ((mr_X_term (F 2) (F 5) (G 0) (G 1) (G 2) (G 3) (G 4) (G 5) (G 6) (G 7) (G 10) nC nD nT nu a va b vb w).2.2.2.1)) 3 ((mr_X_term (F 2) (F 5) (G 0) (G 1) (G 2) (G 3) (G 4) (G 5) (G 6) (G 7) (G 10) nC nD nT nu a va b vb w).2.2.2.2.1)) 4 ((mr_X_term (F 2) (F 5) (G 0) (G 1) (G 2) (G 3) (G 4) (G 5) (G 6) (G 7) (G 10) nC nD nT nu a va b vb w).2.2.2.2.2.1)) 5 ((mr_X_term (F 2) (F 5) (G 0) (G 1) (G 2) (G 3) (G 4) (G 5) (G 6) (G 7) (G 10) nC nD nT nu a va b vb w).2.2.2.2.2.2.1)) 6 ((mr_X_term (F 2) (F 5) (G 0) (G 1) (G 2) (G 3) (G 4) (G 5) (G 6) (G 7) (G 10) nC nD nT nu a va b vb w).2.2.2.2.2.2.2.1)) 7 ((mr_X_term (F 2) (F 5) (G 0) (G 1) (G 2) (G 3) (G 4) (G 5) (G 6) (G 7) (G 10) nC nD nT nu a va b vb w).2.2.2.2.2.2.2.2.1)) 10 ((mr_X_term (F 2) (F 5) (G 0) (G 1) (G 2) (G 3) (G 4) (G 5) (G 6) (G 7) (G 10) nC nD nT nu a va b vb w).2.2.2.2.2.2.2.2.2))) _ _ (by rw [h0]; decide) (by rw [if_neg (show ¬ mrx_X_term (G 0) nC nD nT nu a va b vb w = 0 by rw [h0]; decide)]) hP hD hS dL_term_28
  · have ht := t_X_term l hlt Z hZ.1 D cl hcl oa ca ck F G hPc hDc hZ0 hZH hZAc nC nD nT nu a va b vb w k0 hC k1 hN k2 hT mQT (by rw [h0]; decide)
    rw [h0, exn_3] at ht
    refine wk_throwV (Z := Z) (E := "java/lang/UnsupportedOperationException") (o := (bo, .inl (kl, 1, .inr (.inl fo)))) (w := cW oa ca ck F G) (w' := cW oa ca ck (upd (upd F 2 ((mr_X_term (F 2) (F 5) (G 0) (G 1) (G 2) (G 3) (G 4) (G 5) (G 6) (G 7) (G 10) nC nD nT nu a va b vb w).2.1)) 5 ((mr_X_term (F 2) (F 5) (G 0) (G 1) (G 2) (G 3) (G 4) (G 5) (G 6) (G 7) (G 10) nC nD nT nu a va b vb w).2.2.1)) (va_up (va_up (va_up (va_up (va_up (va_up (va_up G 2 ((mr_X_term (F 2) (F 5) (G 0) (G 1) (G 2) (G 3) (G 4) (G 5) (G 6) (G 7) (G 10) nC nD nT nu a va b vb w).2.2.2.1)) 3 ((mr_X_term (F 2) (F 5) (G 0) (G 1) (G 2) (G 3) (G 4) (G 5) (G 6) (G 7) (G 10) nC nD nT nu a va b vb w).2.2.2.2.1)) 4 ((mr_X_term (F 2) (F 5) (G 0) (G 1) (G 2) (G 3) (G 4) (G 5) (G 6) (G 7) (G 10) nC nD nT nu a va b vb w).2.2.2.2.2.1)) 5 ((mr_X_term (F 2) (F 5) (G 0) (G 1) (G 2) (G 3) (G 4) (G 5) (G 6) (G 7) (G 10) nC nD nT nu a va b vb w).2.2.2.2.2.2.1)) 6 ((mr_X_term (F 2) (F 5) (G 0) (G 1) (G 2) (G 3) (G 4) (G 5) (G 6) (G 7) (G 10) nC nD nT nu a va b vb w).2.2.2.2.2.2.2.1)) 7 ((mr_X_term (F 2) (F 5) (G 0) (G 1) (G 2) (G 3) (G 4) (G 5) (G 6) (G 7) (G 10) nC nD nT nu a va b vb w).2.2.2.2.2.2.2.2.1)) 10 ((mr_X_term (F 2) (F 5) (G 0) (G 1) (G 2) (G 3) (G 4) (G 5) (G 6) (G 7) (G 10) nC nD nT nu a va b vb w).2.2.2.2.2.2.2.2.2))) (As := [.int nu, .int a, .int va, .int b, .int vb, .int w]) (rest := [.int 0, .ref bo]) Sx ht (cwV 6 hts gL_term rfl rfl rfl (by decide +kernel) ⟨Nat.le_of_ble_eq_true rfl, Nat.le_of_ble_eq_true rfl⟩) hKc hZw (va_recv hK hP (ci := 1) (q0 := 1) hcl.1 rfl) rfl hl.1 rfl (Nat.le_of_ble_eq_true rfl) dL_term_13 ⟨Nat.le_refl _, Nat.le_refl _⟩ hP hD hS hA (fun q ce H locs hq hv hcE hP hD hS => ?_)
    obtain ⟨x0, x1, x2, etab, ex0, ex1, ex2⟩ := tb3 htab
    have fx0 : x0.startPc = 0 ∧ x0.endPc = 18 ∧ x0.handlerPc = 21 ∧ x0.catchType = 21 := by simpa only [tb4, Prod.mk.injEq] using ex0
    have fx1 : x1.startPc = 0 ∧ x1.endPc = 18 ∧ x1.handlerPc = 25 ∧ x1.catchType = 13 := by simpa only [tb4, Prod.mk.injEq] using ex1
    have fx2 : x2.startPc = 0 ∧ x2.endPc = 18 ∧ x2.handlerPc = 29 ∧ x2.catchType = 15 := by simpa only [tb4, Prod.mk.injEq] using ex2
    have hps : ∀ y ∈ [x0, x1], cx_R e s (F0 m 13 ls [.int 0, .ref bo]) ce.cls false y := by
      intro y hy
      rcases List.mem_cons.mp hy with hy | hy
      · rw [hy]; exact cx_row hadm hown (tb_cov ex0 (by decide) (by decide)) (by rw [fx0.2.2.2]; decide) (by rw [fx0.2.2.2]; exact hts _ (List.mem_cons_of_mem _ (List.mem_append_left _ mxL_21))) (fit_no hZ hZw (by decide) (by decide) (by decide) hcE)
      · rw [List.mem_singleton.mp hy]; exact cx_row hadm hown (tb_cov ex1 (by decide) (by decide)) (by rw [fx1.2.2.2]; decide) (by rw [fx1.2.2.2]; exact hts _ (List.mem_cons_of_mem _ (List.mem_append_left _ mxL_13))) (fit_no hZ hZw (by decide) (by decide) (by decide) hcE)
    refine tx_catch (cc := cL_term) (own := RL) hown [x0, x1] x2 [] etab hq hv (Vm.classAt_of_findClass hcE) hps (cx_row hadm hown (tb_cov ex2 (by decide) (by decide)) (by rw [fx2.2.2.2]; decide) (by rw [fx2.2.2.2]; exact hts _ (List.mem_cons_of_mem _ (List.mem_append_left _ mxL_15))) (fit_yes hcE)) ?_
    rw [fx2.2.2.1]
    refine lv_astore (lv' := [(8, .ref q), (0, .ref (oa 0)), (1, .int nu), (2, .int a), (3, .int va), (4, .int b), (5, .int vb), (6, .int w), (7, .ref bo)]) hx hb dL_term_29 hl (by decide) rfl (fun ls hl => ?_)
    refine lv_iconst (v := 3) hx hb dL_term_31 (by decide) ?_
    exact hret _ _ _ (lW bo kl fo oa ca ck (upd (upd F 2 ((mr_X_term (F 2) (F 5) (G 0) (G 1) (G 2) (G 3) (G 4) (G 5) (G 6) (G 7) (G 10) nC nD nT nu a va b vb w).2.1)) 5 ((mr_X_term (F 2) (F 5) (G 0) (G 1) (G 2) (G 3) (G 4) (G 5) (G 6) (G 7) (G 10) nC nD nT nu a va b vb w).2.2.1)) (va_up (va_up (va_up (va_up (va_up (va_up (va_up G 2 ((mr_X_term (F 2) (F 5) (G 0) (G 1) (G 2) (G 3) (G 4) (G 5) (G 6) (G 7) (G 10) nC nD nT nu a va b vb w).2.2.2.1)) 3 ((mr_X_term (F 2) (F 5) (G 0) (G 1) (G 2) (G 3) (G 4) (G 5) (G 6) (G 7) (G 10) nC nD nT nu a va b vb w).2.2.2.2.1)) 4 ((mr_X_term (F 2) (F 5) (G 0) (G 1) (G 2) (G 3) (G 4) (G 5) (G 6) (G 7) (G 10) nC nD nT nu a va b vb w).2.2.2.2.2.1)) 5 ((mr_X_term (F 2) (F 5) (G 0) (G 1) (G 2) (G 3) (G 4) (G 5) (G 6) (G 7) (G 10) nC nD nT nu a va b vb w).2.2.2.2.2.2.1)) 6 ((mr_X_term (F 2) (F 5) (G 0) (G 1) (G 2) (G 3) (G 4) (G 5) (G 6) (G 7) (G 10) nC nD nT nu a va b vb w).2.2.2.2.2.2.2.1)) 7 ((mr_X_term (F 2) (F 5) (G 0) (G 1) (G 2) (G 3) (G 4) (G 5) (G 6) (G 7) (G 10) nC nD nT nu a va b vb w).2.2.2.2.2.2.2.2.1)) 10 ((mr_X_term (F 2) (F 5) (G 0) (G 1) (G 2) (G 3) (G 4) (G 5) (G 6) (G 7) (G 10) nC nD nT nu a va b vb w).2.2.2.2.2.2.2.2.2))) _ _ (by rw [h0]; decide) (by rw [if_neg (show ¬ mrx_X_term (G 0) nC nD nT nu a va b vb w = 0 by rw [h0]; decide)]) hP hD hS dL_term_32
set_option maxHeartbeats 4000000 in
set_option maxRecDepth 100000 in
theorem w_rule (l : Launch) (hlt : l.stackTraces = false) (Z : State) (hZ : xZ Z) (D : va_G) (cl : List vw_C) (hcl : cOK cl) (oa ca : Nat → Nat) (ck : Nat → ClassId) (F : Nat → Int32) (G : Nat → Nat → Int32) {H0 : Heap} (bo : Nat) (kl : ClassId) (fo : Nat → Int64) (hP : va_P D cl (lW bo kl fo oa ca ck F G) H0) (hD : va_D (fun _ => True) (lW bo kl fo oa ca ck F G)) (hZ0 : Z.heap.size ≤ H0.size) (hZH : ∀ q : Nat, q < Z.heap.size → H0[q]? = Z.heap[q]?) (hZA : ∀ q : Nat, q < Z.heap.size → ¬ va_A (lW bo kl fo oa ca ck F G) H0.size q) (nC : Nat) (nD : Nat) (nR : Nat) (a : Int32) (va : Int32) (b : Int32) (vb : Int32) (k0 : F 0 = nI nC) (hC : nC ≤ 8) (k1 : F 1 = nI nD) (hN : nD ≤ 4096) (k3 : F 3 = nI nR) (hR : nR ≤ 40) : Met l yL_rule wsL_rule ({ frames := 7, cells := 1, slots := 6, locals := 106 } : Room) (tx_P Z D cl (lT kl ck) H0 [.ref (oa 0), .int a, .int va, .int b, .int vb, .ref bo]) (ww_Q D cl (some (.int (if mrx_X_rule (G 0) nC nD nR a va b vb = 0 then 0 else if mrx_X_rule (G 0) nC nD nR a va b vb = 1 then 1 else if mrx_X_rule (G 0) nC nD nR a va b vb = 2 then 2 else 3 : Int32))) (lW bo kl (if mrx_X_rule (G 0) nC nD nR a va b vb = 0 then vp_updL fo 0 (((mr_X_rule (F 3) (F 5) (G 0) (G 1) (G 2) (G 3) (G 4) (G 5) (G 11) nC nD nR a va b vb).1).toInt64) else fo) oa ca ck (upd (upd F 3 ((mr_X_rule (F 3) (F 5) (G 0) (G 1) (G 2) (G 3) (G 4) (G 5) (G 11) nC nD nR a va b vb).2.1)) 5 ((mr_X_rule (F 3) (F 5) (G 0) (G 1) (G 2) (G 3) (G 4) (G 5) (G 11) nC nD nR a va b vb).2.2.1)) (va_up (va_up (va_up (va_up (va_up G 2 ((mr_X_rule (F 3) (F 5) (G 0) (G 1) (G 2) (G 3) (G 4) (G 5) (G 11) nC nD nR a va b vb).2.2.2.1)) 3 ((mr_X_rule (F 3) (F 5) (G 0) (G 1) (G 2) (G 3) (G 4) (G 5) (G 11) nC nD nR a va b vb).2.2.2.2.1)) 4 ((mr_X_rule (F 3) (F 5) (G 0) (G 1) (G 2) (G 3) (G 4) (G 5) (G 11) nC nD nR a va b vb).2.2.2.2.2.1)) 5 ((mr_X_rule (F 3) (F 5) (G 0) (G 1) (G 2) (G 3) (G 4) (G 5) (G 11) nC nD nR a va b vb).2.2.2.2.2.2.1)) 11 ((mr_X_rule (F 3) (F 5) (G 0) (G 1) (G 2) (G 3) (G 4) (G 5) (G 11) nC nD nR a va b vb).2.2.2.2.2.2.2))) (va_A (lW bo kl fo oa ca ck F G) H0.size)) 1 6 (va_A (lW bo kl fo oa ca ck F G) H0.size) := by
  refine wk_met (by decide) rfl (Nat.le_of_ble_eq_true rfl) hP hD ?_
  intro p e s m args below meth c Q A hadm hAe Sx hK hZw htab hP hD hS hA ls hl hret
  obtain ⟨hx, hb, hml, hown, hts⟩ := id Sx
  have hl : lv_has ls 7 [(0, .ref (oa 0)), (1, .int a), (2, .int va), (3, .int b), (4, .int vb), (5, .ref bo)] := hl
  have hPc : va_P D cl (cW oa ca ck F G) H0 := fun k q hk => hP (k + 1) q hk
  have hDc : va_D (fun _ => True) (cW oa ca ck F G) := ⟨fun i j x z hi hj e9 => by have := hD.1 (i + 1) (j + 1) x z hi hj e9; omega, fun _ _ _ => trivial⟩
  have hKc : va_K D cl (cT ck) s := ⟨hK.1, fun k q hk => hK.2 (k + 1) q hk⟩
  have hZAc : ∀ q : Nat, q < Z.heap.size → ¬ va_A (cW oa ca ck F G) H0.size q := fun q hq h => hZA q hq (by rcases h with ⟨k, e9, h⟩ | h; exact Or.inl ⟨k + 1, e9, h⟩; exact Or.inr h)
  refine lv_aload hx hb dL_rule_0 (lv_at hl 5 rfl) ?_
  refine lv_iconst (v := 0) hx hb dL_rule_2 (by decide) ?_
  refine lv_aload_n hx hb dL_rule_3 rfl (lv_at hl 0 rfl) ?_
  refine lv_iload_n hx hb dL_rule_4 rfl (lv_at hl 1 rfl) ?_
  refine lv_iload_n hx hb dL_rule_5 rfl (lv_at hl 2 rfl) ?_
  refine lv_iload_n hx hb dL_rule_6 rfl (lv_at hl 3 rfl) ?_
  refine lv_iload hx hb dL_rule_7 (lv_at hl 4 rfl) ?_
  rcases mrv_X_rule (G 0) nC nD nR a va b vb with h0 | h0 | h0 | h0
  · refine wk_callV (o := (bo, .inl (kl, 1, .inr (.inl fo)))) (w := cW oa ca ck F G) (w' := cW oa ca ck (upd (upd F 3 ((mr_X_rule (F 3) (F 5) (G 0) (G 1) (G 2) (G 3) (G 4) (G 5) (G 11) nC nD nR a va b vb).2.1)) 5 ((mr_X_rule (F 3) (F 5) (G 0) (G 1) (G 2) (G 3) (G 4) (G 5) (G 11) nC nD nR a va b vb).2.2.1)) (va_up (va_up (va_up (va_up (va_up G 2 ((mr_X_rule (F 3) (F 5) (G 0) (G 1) (G 2) (G 3) (G 4) (G 5) (G 11) nC nD nR a va b vb).2.2.2.1)) 3 ((mr_X_rule (F 3) (F 5) (G 0) (G 1) (G 2) (G 3) (G 4) (G 5) (G 11) nC nD nR a va b vb).2.2.2.2.1)) 4 ((mr_X_rule (F 3) (F 5) (G 0) (G 1) (G 2) (G 3) (G 4) (G 5) (G 11) nC nD nR a va b vb).2.2.2.2.2.1)) 5 ((mr_X_rule (F 3) (F 5) (G 0) (G 1) (G 2) (G 3) (G 4) (G 5) (G 11) nC nD nR a va b vb).2.2.2.2.2.2.1)) 11 ((mr_X_rule (F 3) (F 5) (G 0) (G 1) (G 2) (G 3) (G 4) (G 5) (G 11) nC nD nR a va b vb).2.2.2.2.2.2.2))) (r := some (.int ((mr_X_rule (F 3) (F 5) (G 0) (G 1) (G 2) (G 3) (G 4) (G 5) (G 11) nC nD nR a va b vb).1))) (As := [.int a, .int va, .int b, .int vb]) (rest := [.int 0, .ref bo]) Sx (c_X_rule l D cl hcl oa ca ck F G hPc hDc nC nD nR a va b vb k0 hC k1 hN k3 hR h0) (cwV 4 hts gL_rule rfl rfl rfl (by decide +kernel) ⟨Nat.le_of_ble_eq_true rfl, Nat.le_of_ble_eq_true rfl⟩) hKc (va_recv hK hP (ci := 1) (q0 := 1) hcl.1 rfl) rfl hl.1 rfl (Nat.le_of_ble_eq_true rfl) dL_rule_9 ⟨Nat.zero_le _, Nat.zero_le _⟩ hP hD hS hA (fun H locs hP hD hS => ?_)
    refine lv_i2l hx hb dL_rule_12 rfl ?_
    refine va_last (f := fo) (x := ((mr_X_rule (F 3) (F 5) (G 0) (G 1) (G 2) (G 3) (G 4) (G 5) (G 11) nC nD nR a va b vb).1).toInt64) hx hb hK hP hD hS 0 0 rfl rfl (show vp_in 0 1 by unfold vp_in; decide) dL_rule_13 (fun H locs hP hD hS => ?_)
    rw [sb_cl0] at hP hD
    refine lv_goto (tgt := 29) hx hb dL_rule_14 (by decide) ?_
    refine lv_iconst (v := 0) hx hb dL_rule_29 (by decide) ?_
    refine W.widen (k := 1) (n := 6) (by decide) (by decide) ?_
    exact hret _ _ _ (lW bo kl (vp_updL fo 0 (((mr_X_rule (F 3) (F 5) (G 0) (G 1) (G 2) (G 3) (G 4) (G 5) (G 11) nC nD nR a va b vb).1).toInt64)) oa ca ck (upd (upd F 3 ((mr_X_rule (F 3) (F 5) (G 0) (G 1) (G 2) (G 3) (G 4) (G 5) (G 11) nC nD nR a va b vb).2.1)) 5 ((mr_X_rule (F 3) (F 5) (G 0) (G 1) (G 2) (G 3) (G 4) (G 5) (G 11) nC nD nR a va b vb).2.2.1)) (va_up (va_up (va_up (va_up (va_up G 2 ((mr_X_rule (F 3) (F 5) (G 0) (G 1) (G 2) (G 3) (G 4) (G 5) (G 11) nC nD nR a va b vb).2.2.2.1)) 3 ((mr_X_rule (F 3) (F 5) (G 0) (G 1) (G 2) (G 3) (G 4) (G 5) (G 11) nC nD nR a va b vb).2.2.2.2.1)) 4 ((mr_X_rule (F 3) (F 5) (G 0) (G 1) (G 2) (G 3) (G 4) (G 5) (G 11) nC nD nR a va b vb).2.2.2.2.2.1)) 5 ((mr_X_rule (F 3) (F 5) (G 0) (G 1) (G 2) (G 3) (G 4) (G 5) (G 11) nC nD nR a va b vb).2.2.2.2.2.2.1)) 11 ((mr_X_rule (F 3) (F 5) (G 0) (G 1) (G 2) (G 3) (G 4) (G 5) (G 11) nC nD nR a va b vb).2.2.2.2.2.2.2))) _ _ (by rw [if_pos h0]) (by rw [if_pos h0]) hP hD hS dL_rule_30
  · have ht := t_X_rule l hlt Z hZ.1 D cl hcl oa ca ck F G hPc hDc hZ0 hZH hZAc nC nD nR a va b vb k0 hC k1 hN k3 hR (by rw [h0]; decide)
    rw [h0, exn_1] at ht
    refine wk_throwV (Z := Z) (E := "java/lang/IndexOutOfBoundsException") (o := (bo, .inl (kl, 1, .inr (.inl fo)))) (w := cW oa ca ck F G) (w' := cW oa ca ck (upd (upd F 3 ((mr_X_rule (F 3) (F 5) (G 0) (G 1) (G 2) (G 3) (G 4) (G 5) (G 11) nC nD nR a va b vb).2.1)) 5 ((mr_X_rule (F 3) (F 5) (G 0) (G 1) (G 2) (G 3) (G 4) (G 5) (G 11) nC nD nR a va b vb).2.2.1)) (va_up (va_up (va_up (va_up (va_up G 2 ((mr_X_rule (F 3) (F 5) (G 0) (G 1) (G 2) (G 3) (G 4) (G 5) (G 11) nC nD nR a va b vb).2.2.2.1)) 3 ((mr_X_rule (F 3) (F 5) (G 0) (G 1) (G 2) (G 3) (G 4) (G 5) (G 11) nC nD nR a va b vb).2.2.2.2.1)) 4 ((mr_X_rule (F 3) (F 5) (G 0) (G 1) (G 2) (G 3) (G 4) (G 5) (G 11) nC nD nR a va b vb).2.2.2.2.2.1)) 5 ((mr_X_rule (F 3) (F 5) (G 0) (G 1) (G 2) (G 3) (G 4) (G 5) (G 11) nC nD nR a va b vb).2.2.2.2.2.2.1)) 11 ((mr_X_rule (F 3) (F 5) (G 0) (G 1) (G 2) (G 3) (G 4) (G 5) (G 11) nC nD nR a va b vb).2.2.2.2.2.2.2))) (As := [.int a, .int va, .int b, .int vb]) (rest := [.int 0, .ref bo]) Sx ht (cwV 4 hts gL_rule rfl rfl rfl (by decide +kernel) ⟨Nat.le_of_ble_eq_true rfl, Nat.le_of_ble_eq_true rfl⟩) hKc hZw (va_recv hK hP (ci := 1) (q0 := 1) hcl.1 rfl) rfl hl.1 rfl (Nat.le_of_ble_eq_true rfl) dL_rule_9 ⟨Nat.le_refl _, Nat.le_refl _⟩ hP hD hS hA (fun q ce H locs hq hv hcE hP hD hS => ?_)
    obtain ⟨x0, x1, x2, etab, ex0, ex1, ex2⟩ := tb3 htab
    have fx0 : x0.startPc = 0 ∧ x0.endPc = 14 ∧ x0.handlerPc = 17 ∧ x0.catchType = 21 := by simpa only [tb4, Prod.mk.injEq] using ex0
    have fx1 : x1.startPc = 0 ∧ x1.endPc = 14 ∧ x1.handlerPc = 21 ∧ x1.catchType = 13 := by simpa only [tb4, Prod.mk.injEq] using ex1
    have fx2 : x2.startPc = 0 ∧ x2.endPc = 14 ∧ x2.handlerPc = 25 ∧ x2.catchType = 15 := by simpa only [tb4, Prod.mk.injEq] using ex2
    refine tx_catch (cc := cL_rule) (own := RL) hown [] x0 [x1, x2] etab hq hv (Vm.classAt_of_findClass hcE) (fun y hy => absurd hy List.not_mem_nil) (cx_row hadm hown (tb_cov ex0 (by decide) (by decide)) (by rw [fx0.2.2.2]; decide) (by rw [fx0.2.2.2]; exact hts _ (List.mem_cons_of_mem _ (List.mem_append_left _ mxL_21))) (fit_yes hcE)) ?_
    rw [fx0.2.2.1]
    refine lv_astore (lv' := [(6, .ref q), (0, .ref (oa 0)), (1, .int a), (2, .int va), (3, .int b), (4, .int vb), (5, .ref bo)]) hx hb dL_rule_17 hl (by decide) rfl (fun ls hl => ?_)
    refine lv_iconst (v := 1) hx hb dL_rule_19 (by decide) ?_
    exact hret _ _ _ (lW bo kl fo oa ca ck (upd (upd F 3 ((mr_X_rule (F 3) (F 5) (G 0) (G 1) (G 2) (G 3) (G 4) (G 5) (G 11) nC nD nR a va b vb).2.1)) 5 ((mr_X_rule (F 3) (F 5) (G 0) (G 1) (G 2) (G 3) (G 4) (G 5) (G 11) nC nD nR a va b vb).2.2.1)) (va_up (va_up (va_up (va_up (va_up G 2 ((mr_X_rule (F 3) (F 5) (G 0) (G 1) (G 2) (G 3) (G 4) (G 5) (G 11) nC nD nR a va b vb).2.2.2.1)) 3 ((mr_X_rule (F 3) (F 5) (G 0) (G 1) (G 2) (G 3) (G 4) (G 5) (G 11) nC nD nR a va b vb).2.2.2.2.1)) 4 ((mr_X_rule (F 3) (F 5) (G 0) (G 1) (G 2) (G 3) (G 4) (G 5) (G 11) nC nD nR a va b vb).2.2.2.2.2.1)) 5 ((mr_X_rule (F 3) (F 5) (G 0) (G 1) (G 2) (G 3) (G 4) (G 5) (G 11) nC nD nR a va b vb).2.2.2.2.2.2.1)) 11 ((mr_X_rule (F 3) (F 5) (G 0) (G 1) (G 2) (G 3) (G 4) (G 5) (G 11) nC nD nR a va b vb).2.2.2.2.2.2.2))) _ _ (by rw [h0]; decide) (by rw [if_neg (show ¬ mrx_X_rule (G 0) nC nD nR a va b vb = 0 by rw [h0]; decide)]) hP hD hS dL_rule_20
  · have ht := t_X_rule l hlt Z hZ.1 D cl hcl oa ca ck F G hPc hDc hZ0 hZH hZAc nC nD nR a va b vb k0 hC k1 hN k3 hR (by rw [h0]; decide)
    rw [h0, exn_2] at ht
    refine wk_throwV (Z := Z) (E := "java/lang/IllegalArgumentException") (o := (bo, .inl (kl, 1, .inr (.inl fo)))) (w := cW oa ca ck F G) (w' := cW oa ca ck (upd (upd F 3 ((mr_X_rule (F 3) (F 5) (G 0) (G 1) (G 2) (G 3) (G 4) (G 5) (G 11) nC nD nR a va b vb).2.1)) 5 ((mr_X_rule (F 3) (F 5) (G 0) (G 1) (G 2) (G 3) (G 4) (G 5) (G 11) nC nD nR a va b vb).2.2.1)) (va_up (va_up (va_up (va_up (va_up G 2 ((mr_X_rule (F 3) (F 5) (G 0) (G 1) (G 2) (G 3) (G 4) (G 5) (G 11) nC nD nR a va b vb).2.2.2.1)) 3 ((mr_X_rule (F 3) (F 5) (G 0) (G 1) (G 2) (G 3) (G 4) (G 5) (G 11) nC nD nR a va b vb).2.2.2.2.1)) 4 ((mr_X_rule (F 3) (F 5) (G 0) (G 1) (G 2) (G 3) (G 4) (G 5) (G 11) nC nD nR a va b vb).2.2.2.2.2.1)) 5 ((mr_X_rule (F 3) (F 5) (G 0) (G 1) (G 2) (G 3) (G 4) (G 5) (G 11) nC nD nR a va b vb).2.2.2.2.2.2.1)) 11 ((mr_X_rule (F 3) (F 5) (G 0) (G 1) (G 2) (G 3) (G 4) (G 5) (G 11) nC nD nR a va b vb).2.2.2.2.2.2.2))) (As := [.int a, .int va, .int b, .int vb]) (rest := [.int 0, .ref bo]) Sx ht (cwV 4 hts gL_rule rfl rfl rfl (by decide +kernel) ⟨Nat.le_of_ble_eq_true rfl, Nat.le_of_ble_eq_true rfl⟩) hKc hZw (va_recv hK hP (ci := 1) (q0 := 1) hcl.1 rfl) rfl hl.1 rfl (Nat.le_of_ble_eq_true rfl) dL_rule_9 ⟨Nat.le_refl _, Nat.le_refl _⟩ hP hD hS hA (fun q ce H locs hq hv hcE hP hD hS => ?_)
    obtain ⟨x0, x1, x2, etab, ex0, ex1, ex2⟩ := tb3 htab
    have fx0 : x0.startPc = 0 ∧ x0.endPc = 14 ∧ x0.handlerPc = 17 ∧ x0.catchType = 21 := by simpa only [tb4, Prod.mk.injEq] using ex0
    have fx1 : x1.startPc = 0 ∧ x1.endPc = 14 ∧ x1.handlerPc = 21 ∧ x1.catchType = 13 := by simpa only [tb4, Prod.mk.injEq] using ex1
    have fx2 : x2.startPc = 0 ∧ x2.endPc = 14 ∧ x2.handlerPc = 25 ∧ x2.catchType = 15 := by simpa only [tb4, Prod.mk.injEq] using ex2
    refine tx_catch (cc := cL_rule) (own := RL) hown [x0] x1 [x2] etab hq hv (Vm.classAt_of_findClass hcE) (fun y hy => by rw [List.mem_singleton.mp hy]; exact cx_row hadm hown (tb_cov ex0 (by decide) (by decide)) (by rw [fx0.2.2.2]; decide) (by rw [fx0.2.2.2]; exact hts _ (List.mem_cons_of_mem _ (List.mem_append_left _ mxL_21))) (fit_no hZ hZw (by decide) (by decide) (by decide) hcE)) (cx_row hadm hown (tb_cov ex1 (by decide) (by decide)) (by rw [fx1.2.2.2]; decide) (by rw [fx1.2.2.2]; exact hts _ (List.mem_cons_of_mem _ (List.mem_append_left _ mxL_13))) (fit_yes hcE)) ?_
    rw [fx1.2.2.1]
    refine lv_astore (lv' := [(6, .ref q), (0, .ref (oa 0)), (1, .int a), (2, .int va), (3, .int b), (4, .int vb), (5, .ref bo)]) hx hb dL_rule_21 hl (by decide) rfl (fun ls hl => ?_)
    refine lv_iconst (v := 2) hx hb dL_rule_23 (by decide) ?_
    exact hret _ _ _ (lW bo kl fo oa ca ck (upd (upd F 3 ((mr_X_rule (F 3) (F 5) (G 0) (G 1) (G 2) (G 3) (G 4) (G 5) (G 11) nC nD nR a va b vb).2.1)) 5 ((mr_X_rule (F 3) (F 5) (G 0) (G 1) (G 2) (G 3) (G 4) (G 5) (G 11) nC nD nR a va b vb).2.2.1)) (va_up (va_up (va_up (va_up (va_up G 2 ((mr_X_rule (F 3) (F 5) (G 0) (G 1) (G 2) (G 3) (G 4) (G 5) (G 11) nC nD nR a va b vb).2.2.2.1)) 3 ((mr_X_rule (F 3) (F 5) (G 0) (G 1) (G 2) (G 3) (G 4) (G 5) (G 11) nC nD nR a va b vb).2.2.2.2.1)) 4 ((mr_X_rule (F 3) (F 5) (G 0) (G 1) (G 2) (G 3) (G 4) (G 5) (G 11) nC nD nR a va b vb).2.2.2.2.2.1)) 5 ((mr_X_rule (F 3) (F 5) (G 0) (G 1) (G 2) (G 3) (G 4) (G 5) (G 11) nC nD nR a va b vb).2.2.2.2.2.2.1)) 11 ((mr_X_rule (F 3) (F 5) (G 0) (G 1) (G 2) (G 3) (G 4) (G 5) (G 11) nC nD nR a va b vb).2.2.2.2.2.2.2))) _ _ (by rw [h0]; decide) (by rw [if_neg (show ¬ mrx_X_rule (G 0) nC nD nR a va b vb = 0 by rw [h0]; decide)]) hP hD hS dL_rule_24
  · have ht := t_X_rule l hlt Z hZ.1 D cl hcl oa ca ck F G hPc hDc hZ0 hZH hZAc nC nD nR a va b vb k0 hC k1 hN k3 hR (by rw [h0]; decide)
    rw [h0, exn_3] at ht
    refine wk_throwV (Z := Z) (E := "java/lang/UnsupportedOperationException") (o := (bo, .inl (kl, 1, .inr (.inl fo)))) (w := cW oa ca ck F G) (w' := cW oa ca ck (upd (upd F 3 ((mr_X_rule (F 3) (F 5) (G 0) (G 1) (G 2) (G 3) (G 4) (G 5) (G 11) nC nD nR a va b vb).2.1)) 5 ((mr_X_rule (F 3) (F 5) (G 0) (G 1) (G 2) (G 3) (G 4) (G 5) (G 11) nC nD nR a va b vb).2.2.1)) (va_up (va_up (va_up (va_up (va_up G 2 ((mr_X_rule (F 3) (F 5) (G 0) (G 1) (G 2) (G 3) (G 4) (G 5) (G 11) nC nD nR a va b vb).2.2.2.1)) 3 ((mr_X_rule (F 3) (F 5) (G 0) (G 1) (G 2) (G 3) (G 4) (G 5) (G 11) nC nD nR a va b vb).2.2.2.2.1)) 4 ((mr_X_rule (F 3) (F 5) (G 0) (G 1) (G 2) (G 3) (G 4) (G 5) (G 11) nC nD nR a va b vb).2.2.2.2.2.1)) 5 ((mr_X_rule (F 3) (F 5) (G 0) (G 1) (G 2) (G 3) (G 4) (G 5) (G 11) nC nD nR a va b vb).2.2.2.2.2.2.1)) 11 ((mr_X_rule (F 3) (F 5) (G 0) (G 1) (G 2) (G 3) (G 4) (G 5) (G 11) nC nD nR a va b vb).2.2.2.2.2.2.2))) (As := [.int a, .int va, .int b, .int vb]) (rest := [.int 0, .ref bo]) Sx ht (cwV 4 hts gL_rule rfl rfl rfl (by decide +kernel) ⟨Nat.le_of_ble_eq_true rfl, Nat.le_of_ble_eq_true rfl⟩) hKc hZw (va_recv hK hP (ci := 1) (q0 := 1) hcl.1 rfl) rfl hl.1 rfl (Nat.le_of_ble_eq_true rfl) dL_rule_9 ⟨Nat.le_refl _, Nat.le_refl _⟩ hP hD hS hA (fun q ce H locs hq hv hcE hP hD hS => ?_)
    obtain ⟨x0, x1, x2, etab, ex0, ex1, ex2⟩ := tb3 htab
    have fx0 : x0.startPc = 0 ∧ x0.endPc = 14 ∧ x0.handlerPc = 17 ∧ x0.catchType = 21 := by simpa only [tb4, Prod.mk.injEq] using ex0
    have fx1 : x1.startPc = 0 ∧ x1.endPc = 14 ∧ x1.handlerPc = 21 ∧ x1.catchType = 13 := by simpa only [tb4, Prod.mk.injEq] using ex1
    have fx2 : x2.startPc = 0 ∧ x2.endPc = 14 ∧ x2.handlerPc = 25 ∧ x2.catchType = 15 := by simpa only [tb4, Prod.mk.injEq] using ex2
    have hps : ∀ y ∈ [x0, x1], cx_R e s (F0 m 9 ls [.int 0, .ref bo]) ce.cls false y := by
      intro y hy
      rcases List.mem_cons.mp hy with hy | hy
      · rw [hy]; exact cx_row hadm hown (tb_cov ex0 (by decide) (by decide)) (by rw [fx0.2.2.2]; decide) (by rw [fx0.2.2.2]; exact hts _ (List.mem_cons_of_mem _ (List.mem_append_left _ mxL_21))) (fit_no hZ hZw (by decide) (by decide) (by decide) hcE)
      · rw [List.mem_singleton.mp hy]; exact cx_row hadm hown (tb_cov ex1 (by decide) (by decide)) (by rw [fx1.2.2.2]; decide) (by rw [fx1.2.2.2]; exact hts _ (List.mem_cons_of_mem _ (List.mem_append_left _ mxL_13))) (fit_no hZ hZw (by decide) (by decide) (by decide) hcE)
    refine tx_catch (cc := cL_rule) (own := RL) hown [x0, x1] x2 [] etab hq hv (Vm.classAt_of_findClass hcE) hps (cx_row hadm hown (tb_cov ex2 (by decide) (by decide)) (by rw [fx2.2.2.2]; decide) (by rw [fx2.2.2.2]; exact hts _ (List.mem_cons_of_mem _ (List.mem_append_left _ mxL_15))) (fit_yes hcE)) ?_
    rw [fx2.2.2.1]
    refine lv_astore (lv' := [(6, .ref q), (0, .ref (oa 0)), (1, .int a), (2, .int va), (3, .int b), (4, .int vb), (5, .ref bo)]) hx hb dL_rule_25 hl (by decide) rfl (fun ls hl => ?_)
    refine lv_iconst (v := 3) hx hb dL_rule_27 (by decide) ?_
    exact hret _ _ _ (lW bo kl fo oa ca ck (upd (upd F 3 ((mr_X_rule (F 3) (F 5) (G 0) (G 1) (G 2) (G 3) (G 4) (G 5) (G 11) nC nD nR a va b vb).2.1)) 5 ((mr_X_rule (F 3) (F 5) (G 0) (G 1) (G 2) (G 3) (G 4) (G 5) (G 11) nC nD nR a va b vb).2.2.1)) (va_up (va_up (va_up (va_up (va_up G 2 ((mr_X_rule (F 3) (F 5) (G 0) (G 1) (G 2) (G 3) (G 4) (G 5) (G 11) nC nD nR a va b vb).2.2.2.1)) 3 ((mr_X_rule (F 3) (F 5) (G 0) (G 1) (G 2) (G 3) (G 4) (G 5) (G 11) nC nD nR a va b vb).2.2.2.2.1)) 4 ((mr_X_rule (F 3) (F 5) (G 0) (G 1) (G 2) (G 3) (G 4) (G 5) (G 11) nC nD nR a va b vb).2.2.2.2.2.1)) 5 ((mr_X_rule (F 3) (F 5) (G 0) (G 1) (G 2) (G 3) (G 4) (G 5) (G 11) nC nD nR a va b vb).2.2.2.2.2.2.1)) 11 ((mr_X_rule (F 3) (F 5) (G 0) (G 1) (G 2) (G 3) (G 4) (G 5) (G 11) nC nD nR a va b vb).2.2.2.2.2.2.2))) _ _ (by rw [h0]; decide) (by rw [if_neg (show ¬ mrx_X_rule (G 0) nC nD nR a va b vb = 0 by rw [h0]; decide)]) hP hD hS dL_rule_28
set_option maxHeartbeats 4000000 in
set_option maxRecDepth 100000 in
theorem w_limit (l : Launch) (hlt : l.stackTraces = false) (Z : State) (hZ : xZ Z) (D : va_G) (cl : List vw_C) (hcl : cOK cl) (oa ca : Nat → Nat) (ck : Nat → ClassId) (F : Nat → Int32) (G : Nat → Nat → Int32) {H0 : Heap} (bo : Nat) (kl : ClassId) (fo : Nat → Int64) (hP : va_P D cl (lW bo kl fo oa ca ck F G) H0) (hD : va_D (fun _ => True) (lW bo kl fo oa ca ck F G)) (hZ0 : Z.heap.size ≤ H0.size) (hZH : ∀ q : Nat, q < Z.heap.size → H0[q]? = Z.heap[q]?) (hZA : ∀ q : Nat, q < Z.heap.size → ¬ va_A (lW bo kl fo oa ca ck F G) H0.size q) (nu : Int32) (on : Int32) (mo : Int32) (z8 : ∀ j, G 8 j = 0 ∨ G 8 j = 1) (hon : on = 0 ∨ on = 1) : Met l yL_limit wsL_limit ({ frames := 7, cells := 1, slots := 6, locals := 106 } : Room) (tx_P Z D cl (lT kl ck) H0 [.ref (oa 0), .int nu, .int on, .int mo, .ref bo]) (ww_Q D cl (some (.int (if mrx_X_limit nu on mo = 0 then 0 else 1 : Int32))) (lW bo kl (if mrx_X_limit nu on mo = 0 then vp_updL fo 0 (if (mr_X_limit (F 5) (G 8) (G 9) nu on mo).1 = 0 then 0 else 1 : Int64) else fo) oa ca ck (upd F 5 ((mr_X_limit (F 5) (G 8) (G 9) nu on mo).2.1)) (va_up (va_up G 8 ((mr_X_limit (F 5) (G 8) (G 9) nu on mo).2.2.1)) 9 ((mr_X_limit (F 5) (G 8) (G 9) nu on mo).2.2.2))) (va_A (lW bo kl fo oa ca ck F G) H0.size)) 1 6 (va_A (lW bo kl fo oa ca ck F G) H0.size) := by
  refine wk_met (by decide) rfl (Nat.le_of_ble_eq_true rfl) hP hD ?_
  intro p e s m args below meth c Q A hadm hAe Sx hK hZw htab hP hD hS hA ls hl hret
  obtain ⟨hx, hb, hml, hown, hts⟩ := id Sx
  have hl : lv_has ls 6 [(0, .ref (oa 0)), (1, .int nu), (2, .int on), (3, .int mo), (4, .ref bo)] := hl
  have hPc : va_P D cl (cW oa ca ck F G) H0 := fun k q hk => hP (k + 1) q hk
  have hDc : va_D (fun _ => True) (cW oa ca ck F G) := ⟨fun i j x z hi hj e9 => by have := hD.1 (i + 1) (j + 1) x z hi hj e9; omega, fun _ _ _ => trivial⟩
  have hKc : va_K D cl (cT ck) s := ⟨hK.1, fun k q hk => hK.2 (k + 1) q hk⟩
  have hZAc : ∀ q : Nat, q < Z.heap.size → ¬ va_A (cW oa ca ck F G) H0.size q := fun q hq h => hZA q hq (by rcases h with ⟨k, e9, h⟩ | h; exact Or.inl ⟨k + 1, e9, h⟩; exact Or.inr h)
  refine lv_aload hx hb dL_limit_0 (lv_at hl 4 rfl) ?_
  refine lv_iconst (v := 0) hx hb dL_limit_2 (by decide) ?_
  refine lv_aload_n hx hb dL_limit_3 rfl (lv_at hl 0 rfl) ?_
  refine lv_iload_n hx hb dL_limit_4 rfl (lv_at hl 1 rfl) ?_
  refine lv_iload_n hx hb dL_limit_5 rfl (lv_at hl 2 rfl) ?_
  refine lv_iload_n hx hb dL_limit_6 rfl (lv_at hl 3 rfl) ?_
  rcases mrv_X_limit nu on mo with h0 | h0
  · refine wk_callV (o := (bo, .inl (kl, 1, .inr (.inl fo)))) (w := cW oa ca ck F G) (w' := cW oa ca ck (upd F 5 ((mr_X_limit (F 5) (G 8) (G 9) nu on mo).2.1)) (va_up (va_up G 8 ((mr_X_limit (F 5) (G 8) (G 9) nu on mo).2.2.1)) 9 ((mr_X_limit (F 5) (G 8) (G 9) nu on mo).2.2.2))) (r := some (.int ((mr_X_limit (F 5) (G 8) (G 9) nu on mo).1))) (As := [.int nu, .int on, .int mo]) (rest := [.int 0, .ref bo]) Sx (c_X_limit l D cl hcl oa ca ck F G hPc hDc nu on mo z8 hon h0) (cwV 3 hts gL_limit rfl rfl rfl (by decide +kernel) ⟨Nat.le_of_ble_eq_true rfl, Nat.le_of_ble_eq_true rfl⟩) hKc (va_recv hK hP (ci := 1) (q0 := 1) hcl.1 rfl) rfl hl.1 rfl (Nat.le_of_ble_eq_true rfl) dL_limit_7 ⟨Nat.zero_le _, Nat.zero_le _⟩ hP hD hS hA (fun H locs hP hD hS => ?_)
    refine lv_if_eq (tgt := 17) hx hb dL_limit_10 (by decide) (fun cz => ?_) (fun cz => ?_)
    · refine lv_lconst (v := 0) hx hb dL_limit_17 (by decide) ?_
      refine va_last (f := fo) (x := 0) hx hb hK hP hD hS 0 0 rfl rfl (show vp_in 0 1 by unfold vp_in; decide) dL_limit_18 (fun H locs hP hD hS => ?_)
      rw [sb_cl0] at hP hD
      refine lv_goto (tgt := 26) hx hb dL_limit_19 (by decide) ?_
      refine lv_iconst (v := 0) hx hb dL_limit_26 (by decide) ?_
      refine W.widen (k := 1) (n := 6) (by decide) (by decide) ?_
      exact hret _ _ _ (lW bo kl (vp_updL fo 0 0) oa ca ck (upd F 5 ((mr_X_limit (F 5) (G 8) (G 9) nu on mo).2.1)) (va_up (va_up G 8 ((mr_X_limit (F 5) (G 8) (G 9) nu on mo).2.2.1)) 9 ((mr_X_limit (F 5) (G 8) (G 9) nu on mo).2.2.2))) _ _ (by rw [if_pos h0]) (by rw [if_pos h0, if_pos cz]) hP hD hS dL_limit_27
    · refine lv_lconst (v := 1) hx hb dL_limit_13 (by decide) ?_
      refine lv_goto (tgt := 18) hx hb dL_limit_14 (by decide) ?_
      refine va_last (f := fo) (x := 1) hx hb hK hP hD hS 0 0 rfl rfl (show vp_in 0 1 by unfold vp_in; decide) dL_limit_18 (fun H locs hP hD hS => ?_)
      rw [sb_cl0] at hP hD
      refine lv_goto (tgt := 26) hx hb dL_limit_19 (by decide) ?_
      refine lv_iconst (v := 0) hx hb dL_limit_26 (by decide) ?_
      refine W.widen (k := 1) (n := 6) (by decide) (by decide) ?_
      exact hret _ _ _ (lW bo kl (vp_updL fo 0 1) oa ca ck (upd F 5 ((mr_X_limit (F 5) (G 8) (G 9) nu on mo).2.1)) (va_up (va_up G 8 ((mr_X_limit (F 5) (G 8) (G 9) nu on mo).2.2.1)) 9 ((mr_X_limit (F 5) (G 8) (G 9) nu on mo).2.2.2))) _ _ (by rw [if_pos h0]) (by rw [if_pos h0, if_neg cz]) hP hD hS dL_limit_27
  · have ht := t_X_limit l hlt Z hZ.1 D cl hcl oa ca ck F G hPc hDc hZ0 hZH hZAc nu on mo z8 hon (by rw [h0]; decide)
    rw [h0, exn_1] at ht
    refine wk_throwV (Z := Z) (E := "java/lang/IndexOutOfBoundsException") (o := (bo, .inl (kl, 1, .inr (.inl fo)))) (w := cW oa ca ck F G) (w' := cW oa ca ck (upd F 5 ((mr_X_limit (F 5) (G 8) (G 9) nu on mo).2.1)) (va_up (va_up G 8 ((mr_X_limit (F 5) (G 8) (G 9) nu on mo).2.2.1)) 9 ((mr_X_limit (F 5) (G 8) (G 9) nu on mo).2.2.2))) (As := [.int nu, .int on, .int mo]) (rest := [.int 0, .ref bo]) Sx ht (cwV 3 hts gL_limit rfl rfl rfl (by decide +kernel) ⟨Nat.le_of_ble_eq_true rfl, Nat.le_of_ble_eq_true rfl⟩) hKc hZw (va_recv hK hP (ci := 1) (q0 := 1) hcl.1 rfl) rfl hl.1 rfl (Nat.le_of_ble_eq_true rfl) dL_limit_7 ⟨Nat.le_refl _, Nat.le_refl _⟩ hP hD hS hA (fun q ce H locs hq hv hcE hP hD hS => ?_)
    obtain ⟨x0, etab, ex0⟩ := tb1 htab
    have fx0 : x0.startPc = 0 ∧ x0.endPc = 19 ∧ x0.handlerPc = 22 ∧ x0.catchType = 21 := by simpa only [tb4, Prod.mk.injEq] using ex0
    refine tx_catch (cc := cL_limit) (own := RL) hown [] x0 [] etab hq hv (Vm.classAt_of_findClass hcE) (fun y hy => absurd hy List.not_mem_nil) (cx_row hadm hown (tb_cov ex0 (by decide) (by decide)) (by rw [fx0.2.2.2]; decide) (by rw [fx0.2.2.2]; exact hts _ (List.mem_cons_of_mem _ (List.mem_append_left _ mxL_21))) (fit_yes hcE)) ?_
    rw [fx0.2.2.1]
    refine lv_astore (lv' := [(5, .ref q), (0, .ref (oa 0)), (1, .int nu), (2, .int on), (3, .int mo), (4, .ref bo)]) hx hb dL_limit_22 hl (by decide) rfl (fun ls hl => ?_)
    refine lv_iconst (v := 1) hx hb dL_limit_24 (by decide) ?_
    exact hret _ _ _ (lW bo kl fo oa ca ck (upd F 5 ((mr_X_limit (F 5) (G 8) (G 9) nu on mo).2.1)) (va_up (va_up G 8 ((mr_X_limit (F 5) (G 8) (G 9) nu on mo).2.2.1)) 9 ((mr_X_limit (F 5) (G 8) (G 9) nu on mo).2.2.2))) _ _ (by rw [h0]; decide) (by rw [if_neg (show ¬ mrx_X_limit nu on mo = 0 by rw [h0]; decide)]) hP hD hS dL_limit_25
set_option maxHeartbeats 4000000 in
set_option maxRecDepth 100000 in
theorem w_number (l : Launch) (hlt : l.stackTraces = false) (Z : State) (hZ : xZ Z) (D : va_G) (cl : List vw_C) (hcl : cOK cl) (oa ca : Nat → Nat) (ck : Nat → ClassId) (F : Nat → Int32) (G : Nat → Nat → Int32) {H0 : Heap} (bo : Nat) (kl : ClassId) (fo : Nat → Int64) (hP : va_P D cl (lW bo kl fo oa ca ck F G) H0) (hD : va_D (fun _ => True) (lW bo kl fo oa ca ck F G)) (hZ0 : Z.heap.size ≤ H0.size) (hZH : ∀ q : Nat, q < Z.heap.size → H0[q]? = Z.heap[q]?) (hZA : ∀ q : Nat, q < Z.heap.size → ¬ va_A (lW bo kl fo oa ca ck F G) H0.size q) (nD : Nat) (d : Int32) (nu : Int32) (k1 : F 1 = nI nD) (hN : nD ≤ 4096) : Met l yL_number wsL_number ({ frames := 7, cells := 1, slots := 6, locals := 104 } : Room) (tx_P Z D cl (lT kl ck) H0 [.ref (oa 0), .int d, .int nu, .ref bo]) (ww_Q D cl (some (.int (if mrx_X_number nD d nu = 0 then 0 else 1 : Int32))) (lW bo kl (if mrx_X_number nD d nu = 0 then vp_updL fo 0 ((mr_X_number (G 10) nD d nu).toInt64) else fo) oa ca ck F G) (va_A (lW bo kl fo oa ca ck F G) H0.size)) 1 6 (va_A (lW bo kl fo oa ca ck F G) H0.size) := by
  refine wk_met (by decide) rfl (Nat.le_of_ble_eq_true rfl) hP hD ?_
  intro p e s m args below meth c Q A hadm hAe Sx hK hZw htab hP hD hS hA ls hl hret
  obtain ⟨hx, hb, hml, hown, hts⟩ := id Sx
  have hl : lv_has ls 5 [(0, .ref (oa 0)), (1, .int d), (2, .int nu), (3, .ref bo)] := hl
  have hPc : va_P D cl (cW oa ca ck F G) H0 := fun k q hk => hP (k + 1) q hk
  have hDc : va_D (fun _ => True) (cW oa ca ck F G) := ⟨fun i j x z hi hj e9 => by have := hD.1 (i + 1) (j + 1) x z hi hj e9; omega, fun _ _ _ => trivial⟩
  have hKc : va_K D cl (cT ck) s := ⟨hK.1, fun k q hk => hK.2 (k + 1) q hk⟩
  have hZAc : ∀ q : Nat, q < Z.heap.size → ¬ va_A (cW oa ca ck F G) H0.size q := fun q hq h => hZA q hq (by rcases h with ⟨k, e9, h⟩ | h; exact Or.inl ⟨k + 1, e9, h⟩; exact Or.inr h)
  refine lv_aload_n hx hb dL_number_0 rfl (lv_at hl 3 rfl) ?_
  refine lv_iconst (v := 0) hx hb dL_number_1 (by decide) ?_
  refine lv_aload_n hx hb dL_number_2 rfl (lv_at hl 0 rfl) ?_
  refine lv_iload_n hx hb dL_number_3 rfl (lv_at hl 1 rfl) ?_
  refine lv_iload_n hx hb dL_number_4 rfl (lv_at hl 2 rfl) ?_
  rcases mrv_X_number nD d nu with h0 | h0
  · refine ro_callV (r := .int (mr_X_number (G 10) nD d nu)) (As := [.int d, .int nu]) (rest := [.int 0, .ref bo]) Sx (c_X_number l D cl hcl oa ca ck F G hPc nD d nu k1 hN h0) (cwV 2 hts gL_number rfl rfl rfl (by decide +kernel) ⟨Nat.le_of_ble_eq_true rfl, Nat.le_of_ble_eq_true rfl⟩) hKc (va_recv hK hP (ci := 1) (q0 := 1) hcl.1 rfl) rfl hl.1 rfl (Nat.le_of_ble_eq_true rfl) dL_number_5 ⟨Nat.zero_le _, Nat.zero_le _⟩ ?_
    obtain ⟨H, eH⟩ : ∃ H : Heap, H = H0 := ⟨_, rfl⟩
    obtain ⟨locs, eL⟩ : ∃ L : List Loc, L = [] := ⟨_, rfl⟩
    rw [← eH] at hP
    have hS : va_S A H0 H locs := by rw [eH, eL]; exact hS
    rw [show (W p l e ({ frames := 7, cells := 1, slots := 6, locals := 104 } : Room) s m args below meth c H0 [] 0 0 Q) = (W p l e ({ frames := 7, cells := 1, slots := 6, locals := 104 } : Room) s m args below meth c H locs 0 0 Q) by rw [eH, eL]]
    clear eH eL
    refine lv_i2l hx hb dL_number_8 rfl ?_
    refine va_last (f := fo) (x := (mr_X_number (G 10) nD d nu).toInt64) hx hb hK hP hD hS 0 0 rfl rfl (show vp_in 0 1 by unfold vp_in; decide) dL_number_9 (fun H locs hP hD hS => ?_)
    rw [sb_cl0] at hP hD
    refine lv_goto (tgt := 17) hx hb dL_number_10 (by decide) ?_
    refine lv_iconst (v := 0) hx hb dL_number_17 (by decide) ?_
    refine W.widen (k := 1) (n := 6) (by decide) (by decide) ?_
    exact hret _ _ _ (lW bo kl (vp_updL fo 0 ((mr_X_number (G 10) nD d nu).toInt64)) oa ca ck F G) _ _ (by rw [if_pos h0]) (by rw [if_pos h0]) hP hD hS dL_number_18
  · have ht := t_X_number l hlt Z hZ.1 D cl hcl oa ca ck F G hPc hDc hZ0 hZH hZAc nD d nu k1 hN (by rw [h0]; decide)
    rw [h0, exn_1] at ht
    refine wk_throwV (Z := Z) (E := "java/lang/IndexOutOfBoundsException") (o := (bo, .inl (kl, 1, .inr (.inl fo)))) (w := cW oa ca ck F G) (w' := cW oa ca ck F G) (As := [.int d, .int nu]) (rest := [.int 0, .ref bo]) Sx ht (cwV 2 hts gL_number rfl rfl rfl (by decide +kernel) ⟨Nat.le_of_ble_eq_true rfl, Nat.le_of_ble_eq_true rfl⟩) hKc hZw (va_recv hK hP (ci := 1) (q0 := 1) hcl.1 rfl) rfl hl.1 rfl (Nat.le_of_ble_eq_true rfl) dL_number_5 ⟨Nat.le_refl _, Nat.le_refl _⟩ hP hD hS hA (fun q ce H locs hq hv hcE hP hD hS => ?_)
    obtain ⟨x0, etab, ex0⟩ := tb1 htab
    have fx0 : x0.startPc = 0 ∧ x0.endPc = 10 ∧ x0.handlerPc = 13 ∧ x0.catchType = 21 := by simpa only [tb4, Prod.mk.injEq] using ex0
    refine tx_catch (cc := cL_number) (own := RL) hown [] x0 [] etab hq hv (Vm.classAt_of_findClass hcE) (fun y hy => absurd hy List.not_mem_nil) (cx_row hadm hown (tb_cov ex0 (by decide) (by decide)) (by rw [fx0.2.2.2]; decide) (by rw [fx0.2.2.2]; exact hts _ (List.mem_cons_of_mem _ (List.mem_append_left _ mxL_21))) (fit_yes hcE)) ?_
    rw [fx0.2.2.1]
    refine lv_astore (lv' := [(4, .ref q), (0, .ref (oa 0)), (1, .int d), (2, .int nu), (3, .ref bo)]) hx hb dL_number_13 hl (by decide) rfl (fun ls hl => ?_)
    refine lv_iconst (v := 1) hx hb dL_number_15 (by decide) ?_
    exact hret _ _ _ (lW bo kl fo oa ca ck F G) _ _ (by rw [h0]; decide) (by rw [if_neg (show ¬ mrx_X_number nD d nu = 0 by rw [h0]; decide)]) hP hD hS dL_number_16
set_option maxHeartbeats 4000000 in
set_option maxRecDepth 100000 in
theorem w_value (l : Launch) (hlt : l.stackTraces = false) (Z : State) (hZ : xZ Z) (D : va_G) (cl : List vw_C) (hcl : cOK cl) (oa ca : Nat → Nat) (ck : Nat → ClassId) (F : Nat → Int32) (G : Nat → Nat → Int32) {H0 : Heap} (bo : Nat) (kl : ClassId) (fo : Nat → Int64) (hP : va_P D cl (lW bo kl fo oa ca ck F G) H0) (hD : va_D (fun _ => True) (lW bo kl fo oa ca ck F G)) (hZ0 : Z.heap.size ≤ H0.size) (hZH : ∀ q : Nat, q < Z.heap.size → H0[q]? = Z.heap[q]?) (hZA : ∀ q : Nat, q < Z.heap.size → ¬ va_A (lW bo kl fo oa ca ck F G) H0.size q) (nC : Nat) (nD : Nat) (d : Int32) (ch : Int32) (k0 : F 0 = nI nC) (hC : nC ≤ 8) (k1 : F 1 = nI nD) (hN : nD ≤ 4096) : Met l yL_value wsL_value ({ frames := 7, cells := 1, slots := 6, locals := 104 } : Room) (tx_P Z D cl (lT kl ck) H0 [.ref (oa 0), .int d, .int ch, .ref bo]) (ww_Q D cl (some (.int (if mrx_X_value nC nD d ch = 0 then 0 else 1 : Int32))) (lW bo kl (if mrx_X_value nC nD d ch = 0 then vp_updL fo 0 ((mr_X_value (G 0) (G 1) nC nD d ch).toInt64) else fo) oa ca ck F G) (va_A (lW bo kl fo oa ca ck F G) H0.size)) 1 6 (va_A (lW bo kl fo oa ca ck F G) H0.size) := by
  refine wk_met (by decide) rfl (Nat.le_of_ble_eq_true rfl) hP hD ?_
  intro p e s m args below meth c Q A hadm hAe Sx hK hZw htab hP hD hS hA ls hl hret
  obtain ⟨hx, hb, hml, hown, hts⟩ := id Sx
  have hl : lv_has ls 5 [(0, .ref (oa 0)), (1, .int d), (2, .int ch), (3, .ref bo)] := hl
  have hPc : va_P D cl (cW oa ca ck F G) H0 := fun k q hk => hP (k + 1) q hk
  have hDc : va_D (fun _ => True) (cW oa ca ck F G) := ⟨fun i j x z hi hj e9 => by have := hD.1 (i + 1) (j + 1) x z hi hj e9; omega, fun _ _ _ => trivial⟩
  have hKc : va_K D cl (cT ck) s := ⟨hK.1, fun k q hk => hK.2 (k + 1) q hk⟩
  have hZAc : ∀ q : Nat, q < Z.heap.size → ¬ va_A (cW oa ca ck F G) H0.size q := fun q hq h => hZA q hq (by rcases h with ⟨k, e9, h⟩ | h; exact Or.inl ⟨k + 1, e9, h⟩; exact Or.inr h)
  refine lv_aload_n hx hb dL_value_0 rfl (lv_at hl 3 rfl) ?_
  refine lv_iconst (v := 0) hx hb dL_value_1 (by decide) ?_
  refine lv_aload_n hx hb dL_value_2 rfl (lv_at hl 0 rfl) ?_
  refine lv_iload_n hx hb dL_value_3 rfl (lv_at hl 1 rfl) ?_
  refine lv_iload_n hx hb dL_value_4 rfl (lv_at hl 2 rfl) ?_
  rcases mrv_X_value nC nD d ch with h0 | h0
  · refine ro_callV (r := .int (mr_X_value (G 0) (G 1) nC nD d ch)) (As := [.int d, .int ch]) (rest := [.int 0, .ref bo]) Sx (c_X_value l D cl hcl oa ca ck F G hPc nC nD d ch k0 hC k1 hN h0) (cwV 2 hts gL_value rfl rfl rfl (by decide +kernel) ⟨Nat.le_of_ble_eq_true rfl, Nat.le_of_ble_eq_true rfl⟩) hKc (va_recv hK hP (ci := 1) (q0 := 1) hcl.1 rfl) rfl hl.1 rfl (Nat.le_of_ble_eq_true rfl) dL_value_5 ⟨Nat.zero_le _, Nat.zero_le _⟩ ?_
    obtain ⟨H, eH⟩ : ∃ H : Heap, H = H0 := ⟨_, rfl⟩
    obtain ⟨locs, eL⟩ : ∃ L : List Loc, L = [] := ⟨_, rfl⟩
    rw [← eH] at hP
    have hS : va_S A H0 H locs := by rw [eH, eL]; exact hS
    rw [show (W p l e ({ frames := 7, cells := 1, slots := 6, locals := 104 } : Room) s m args below meth c H0 [] 0 0 Q) = (W p l e ({ frames := 7, cells := 1, slots := 6, locals := 104 } : Room) s m args below meth c H locs 0 0 Q) by rw [eH, eL]]
    clear eH eL
    refine lv_i2l hx hb dL_value_8 rfl ?_
    refine va_last (f := fo) (x := (mr_X_value (G 0) (G 1) nC nD d ch).toInt64) hx hb hK hP hD hS 0 0 rfl rfl (show vp_in 0 1 by unfold vp_in; decide) dL_value_9 (fun H locs hP hD hS => ?_)
    rw [sb_cl0] at hP hD
    refine lv_goto (tgt := 17) hx hb dL_value_10 (by decide) ?_
    refine lv_iconst (v := 0) hx hb dL_value_17 (by decide) ?_
    refine W.widen (k := 1) (n := 6) (by decide) (by decide) ?_
    exact hret _ _ _ (lW bo kl (vp_updL fo 0 ((mr_X_value (G 0) (G 1) nC nD d ch).toInt64)) oa ca ck F G) _ _ (by rw [if_pos h0]) (by rw [if_pos h0]) hP hD hS dL_value_18
  · have ht := t_X_value l hlt Z hZ.1 D cl hcl oa ca ck F G hPc hDc hZ0 hZH hZAc nC nD d ch k0 hC k1 hN (by rw [h0]; decide)
    rw [h0, exn_1] at ht
    refine wk_throwV (Z := Z) (E := "java/lang/IndexOutOfBoundsException") (o := (bo, .inl (kl, 1, .inr (.inl fo)))) (w := cW oa ca ck F G) (w' := cW oa ca ck F G) (As := [.int d, .int ch]) (rest := [.int 0, .ref bo]) Sx ht (cwV 2 hts gL_value rfl rfl rfl (by decide +kernel) ⟨Nat.le_of_ble_eq_true rfl, Nat.le_of_ble_eq_true rfl⟩) hKc hZw (va_recv hK hP (ci := 1) (q0 := 1) hcl.1 rfl) rfl hl.1 rfl (Nat.le_of_ble_eq_true rfl) dL_value_5 ⟨Nat.le_refl _, Nat.le_refl _⟩ hP hD hS hA (fun q ce H locs hq hv hcE hP hD hS => ?_)
    obtain ⟨x0, etab, ex0⟩ := tb1 htab
    have fx0 : x0.startPc = 0 ∧ x0.endPc = 10 ∧ x0.handlerPc = 13 ∧ x0.catchType = 21 := by simpa only [tb4, Prod.mk.injEq] using ex0
    refine tx_catch (cc := cL_value) (own := RL) hown [] x0 [] etab hq hv (Vm.classAt_of_findClass hcE) (fun y hy => absurd hy List.not_mem_nil) (cx_row hadm hown (tb_cov ex0 (by decide) (by decide)) (by rw [fx0.2.2.2]; decide) (by rw [fx0.2.2.2]; exact hts _ (List.mem_cons_of_mem _ (List.mem_append_left _ mxL_21))) (fit_yes hcE)) ?_
    rw [fx0.2.2.1]
    refine lv_astore (lv' := [(4, .ref q), (0, .ref (oa 0)), (1, .int d), (2, .int ch), (3, .ref bo)]) hx hb dL_value_13 hl (by decide) rfl (fun ls hl => ?_)
    refine lv_iconst (v := 1) hx hb dL_value_15 (by decide) ?_
    exact hret _ _ _ (lW bo kl fo oa ca ck F G) _ _ (by rw [h0]; decide) (by rw [if_neg (show ¬ mrx_X_value nC nD d ch = 0 by rw [h0]; decide)]) hP hD hS dL_value_16
set_option maxHeartbeats 4000000 in
set_option maxRecDepth 100000 in
theorem w_legal (l : Launch) (hlt : l.stackTraces = false) (Z : State) (hZ : xZ Z) (D : va_G) (cl : List vw_C) (hcl : cOK cl) (oa ca : Nat → Nat) (ck : Nat → ClassId) (F : Nat → Int32) (G : Nat → Nat → Int32) {H0 : Heap} (bo : Nat) (kl : ClassId) (fo : Nat → Int64) (hP : va_P D cl (lW bo kl fo oa ca ck F G) H0) (hD : va_D (fun _ => True) (lW bo kl fo oa ca ck F G)) (hZ0 : Z.heap.size ≤ H0.size) (hZH : ∀ q : Nat, q < Z.heap.size → H0[q]? = Z.heap[q]?) (hZA : ∀ q : Nat, q < Z.heap.size → ¬ va_A (lW bo kl fo oa ca ck F G) H0.size q) (nD : Nat) (d : Int32) (k1 : F 1 = nI nD) (hN : nD ≤ 4096) : Met l yL_legal wsL_legal ({ frames := 7, cells := 1, slots := 6, locals := 103 } : Room) (tx_P Z D cl (lT kl ck) H0 [.ref (oa 0), .int d, .ref bo]) (ww_Q D cl (some (.int (if mrx_X_legal nD d = 0 then 0 else 1 : Int32))) (lW bo kl (if mrx_X_legal nD d = 0 then vp_updL fo 0 (if mr_X_legal (G 8) (G 9) (G 10) (G 11) nD d = 0 then 0 else 1 : Int64) else fo) oa ca ck F G) (va_A (lW bo kl fo oa ca ck F G) H0.size)) 1 6 (va_A (lW bo kl fo oa ca ck F G) H0.size) := by
  refine wk_met (by decide) rfl (Nat.le_of_ble_eq_true rfl) hP hD ?_
  intro p e s m args below meth c Q A hadm hAe Sx hK hZw htab hP hD hS hA ls hl hret
  obtain ⟨hx, hb, hml, hown, hts⟩ := id Sx
  have hl : lv_has ls 4 [(0, .ref (oa 0)), (1, .int d), (2, .ref bo)] := hl
  have hPc : va_P D cl (cW oa ca ck F G) H0 := fun k q hk => hP (k + 1) q hk
  have hDc : va_D (fun _ => True) (cW oa ca ck F G) := ⟨fun i j x z hi hj e9 => by have := hD.1 (i + 1) (j + 1) x z hi hj e9; omega, fun _ _ _ => trivial⟩
  have hKc : va_K D cl (cT ck) s := ⟨hK.1, fun k q hk => hK.2 (k + 1) q hk⟩
  have hZAc : ∀ q : Nat, q < Z.heap.size → ¬ va_A (cW oa ca ck F G) H0.size q := fun q hq h => hZA q hq (by rcases h with ⟨k, e9, h⟩ | h; exact Or.inl ⟨k + 1, e9, h⟩; exact Or.inr h)
  refine lv_aload_n hx hb dL_legal_0 rfl (lv_at hl 2 rfl) ?_
  refine lv_iconst (v := 0) hx hb dL_legal_1 (by decide) ?_
  refine lv_aload_n hx hb dL_legal_2 rfl (lv_at hl 0 rfl) ?_
  refine lv_iload_n hx hb dL_legal_3 rfl (lv_at hl 1 rfl) ?_
  rcases mrv_X_legal nD d with h0 | h0
  · refine ro_callV (r := .int (mr_X_legal (G 8) (G 9) (G 10) (G 11) nD d)) (As := [.int d]) (rest := [.int 0, .ref bo]) Sx (c_X_legal l D cl hcl oa ca ck F G hPc nD d k1 hN h0) (cwV 1 hts gL_legal rfl rfl rfl (by decide +kernel) ⟨Nat.le_of_ble_eq_true rfl, Nat.le_of_ble_eq_true rfl⟩) hKc (va_recv hK hP (ci := 1) (q0 := 1) hcl.1 rfl) rfl hl.1 rfl (Nat.le_of_ble_eq_true rfl) dL_legal_4 ⟨Nat.zero_le _, Nat.zero_le _⟩ ?_
    obtain ⟨H, eH⟩ : ∃ H : Heap, H = H0 := ⟨_, rfl⟩
    obtain ⟨locs, eL⟩ : ∃ L : List Loc, L = [] := ⟨_, rfl⟩
    rw [← eH] at hP
    have hS : va_S A H0 H locs := by rw [eH, eL]; exact hS
    rw [show (W p l e ({ frames := 7, cells := 1, slots := 6, locals := 103 } : Room) s m args below meth c H0 [] 0 0 Q) = (W p l e ({ frames := 7, cells := 1, slots := 6, locals := 103 } : Room) s m args below meth c H locs 0 0 Q) by rw [eH, eL]]
    clear eH eL
    refine lv_if_eq (tgt := 14) hx hb dL_legal_7 (by decide) (fun cz => ?_) (fun cz => ?_)
    · refine lv_lconst (v := 0) hx hb dL_legal_14 (by decide) ?_
      refine va_last (f := fo) (x := 0) hx hb hK hP hD hS 0 0 rfl rfl (show vp_in 0 1 by unfold vp_in; decide) dL_legal_15 (fun H locs hP hD hS => ?_)
      rw [sb_cl0] at hP hD
      refine lv_goto (tgt := 22) hx hb dL_legal_16 (by decide) ?_
      refine lv_iconst (v := 0) hx hb dL_legal_22 (by decide) ?_
      refine W.widen (k := 1) (n := 6) (by decide) (by decide) ?_
      exact hret _ _ _ (lW bo kl (vp_updL fo 0 0) oa ca ck F G) _ _ (by rw [if_pos h0]) (by rw [if_pos h0, if_pos cz]) hP hD hS dL_legal_23
    · refine lv_lconst (v := 1) hx hb dL_legal_10 (by decide) ?_
      refine lv_goto (tgt := 15) hx hb dL_legal_11 (by decide) ?_
      refine va_last (f := fo) (x := 1) hx hb hK hP hD hS 0 0 rfl rfl (show vp_in 0 1 by unfold vp_in; decide) dL_legal_15 (fun H locs hP hD hS => ?_)
      rw [sb_cl0] at hP hD
      refine lv_goto (tgt := 22) hx hb dL_legal_16 (by decide) ?_
      refine lv_iconst (v := 0) hx hb dL_legal_22 (by decide) ?_
      refine W.widen (k := 1) (n := 6) (by decide) (by decide) ?_
      exact hret _ _ _ (lW bo kl (vp_updL fo 0 1) oa ca ck F G) _ _ (by rw [if_pos h0]) (by rw [if_pos h0, if_neg cz]) hP hD hS dL_legal_23
  · have ht := t_X_legal l hlt Z hZ.1 D cl hcl oa ca ck F G hPc hDc hZ0 hZH hZAc nD d k1 hN (by rw [h0]; decide)
    rw [h0, exn_1] at ht
    refine wk_throwV (Z := Z) (E := "java/lang/IndexOutOfBoundsException") (o := (bo, .inl (kl, 1, .inr (.inl fo)))) (w := cW oa ca ck F G) (w' := cW oa ca ck F G) (As := [.int d]) (rest := [.int 0, .ref bo]) Sx ht (cwV 1 hts gL_legal rfl rfl rfl (by decide +kernel) ⟨Nat.le_of_ble_eq_true rfl, Nat.le_of_ble_eq_true rfl⟩) hKc hZw (va_recv hK hP (ci := 1) (q0 := 1) hcl.1 rfl) rfl hl.1 rfl (Nat.le_of_ble_eq_true rfl) dL_legal_4 ⟨Nat.le_refl _, Nat.le_refl _⟩ hP hD hS hA (fun q ce H locs hq hv hcE hP hD hS => ?_)
    obtain ⟨x0, etab, ex0⟩ := tb1 htab
    have fx0 : x0.startPc = 0 ∧ x0.endPc = 16 ∧ x0.handlerPc = 19 ∧ x0.catchType = 21 := by simpa only [tb4, Prod.mk.injEq] using ex0
    refine tx_catch (cc := cL_legal) (own := RL) hown [] x0 [] etab hq hv (Vm.classAt_of_findClass hcE) (fun y hy => absurd hy List.not_mem_nil) (cx_row hadm hown (tb_cov ex0 (by decide) (by decide)) (by rw [fx0.2.2.2]; decide) (by rw [fx0.2.2.2]; exact hts _ (List.mem_cons_of_mem _ (List.mem_append_left _ mxL_21))) (fit_yes hcE)) ?_
    rw [fx0.2.2.1]
    refine lv_astore_n (lv' := [(3, .ref q), (0, .ref (oa 0)), (1, .int d), (2, .ref bo)]) hx hb dL_legal_19 rfl hl (by decide) rfl (fun ls hl => ?_)
    refine lv_iconst (v := 1) hx hb dL_legal_20 (by decide) ?_
    exact hret _ _ _ (lW bo kl fo oa ca ck F G) _ _ (by rw [h0]; decide) (by rw [if_neg (show ¬ mrx_X_legal nD d = 0 by rw [h0]; decide)]) hP hD hS dL_legal_21
set_option maxHeartbeats 4000000 in
set_option maxRecDepth 100000 in
theorem w_beats (l : Launch) (hlt : l.stackTraces = false) (Z : State) (hZ : xZ Z) (D : va_G) (cl : List vw_C) (hcl : cOK cl) (oa ca : Nat → Nat) (ck : Nat → ClassId) (F : Nat → Int32) (G : Nat → Nat → Int32) {H0 : Heap} (bo : Nat) (kl : ClassId) (fo : Nat → Int64) (hP : va_P D cl (lW bo kl fo oa ca ck F G) H0) (hD : va_D (fun _ => True) (lW bo kl fo oa ca ck F G)) (hZ0 : Z.heap.size ≤ H0.size) (hZH : ∀ q : Nat, q < Z.heap.size → H0[q]? = Z.heap[q]?) (hZA : ∀ q : Nat, q < Z.heap.size → ¬ va_A (lW bo kl fo oa ca ck F G) H0.size q) (nD : Nat) (d : Int32) (o : Int32) (k1 : F 1 = nI nD) (hN : nD ≤ 4096) : Met l yL_beats wsL_beats ({ frames := 7, cells := 1, slots := 6, locals := 104 } : Room) (tx_P Z D cl (lT kl ck) H0 [.ref (oa 0), .int d, .int o, .ref bo]) (ww_Q D cl (some (.int (if mrx_X_beats (G 8) (G 9) (G 10) (G 11) nD d o = 0 then 0 else if mrx_X_beats (G 8) (G 9) (G 10) (G 11) nD d o = 1 then 1 else 2 : Int32))) (lW bo kl (if mrx_X_beats (G 8) (G 9) (G 10) (G 11) nD d o = 0 then vp_updL fo 0 (if mr_X_beats (G 8) (G 9) (G 10) (G 11) nD d o = 0 then 0 else 1 : Int64) else fo) oa ca ck F G) (va_A (lW bo kl fo oa ca ck F G) H0.size)) 1 6 (va_A (lW bo kl fo oa ca ck F G) H0.size) := by
  refine wk_met (by decide) rfl (Nat.le_of_ble_eq_true rfl) hP hD ?_
  intro p e s m args below meth c Q A hadm hAe Sx hK hZw htab hP hD hS hA ls hl hret
  obtain ⟨hx, hb, hml, hown, hts⟩ := id Sx
  have hl : lv_has ls 5 [(0, .ref (oa 0)), (1, .int d), (2, .int o), (3, .ref bo)] := hl
  have hPc : va_P D cl (cW oa ca ck F G) H0 := fun k q hk => hP (k + 1) q hk
  have hDc : va_D (fun _ => True) (cW oa ca ck F G) := ⟨fun i j x z hi hj e9 => by have := hD.1 (i + 1) (j + 1) x z hi hj e9; omega, fun _ _ _ => trivial⟩
  have hKc : va_K D cl (cT ck) s := ⟨hK.1, fun k q hk => hK.2 (k + 1) q hk⟩
  have hZAc : ∀ q : Nat, q < Z.heap.size → ¬ va_A (cW oa ca ck F G) H0.size q := fun q hq h => hZA q hq (by rcases h with ⟨k, e9, h⟩ | h; exact Or.inl ⟨k + 1, e9, h⟩; exact Or.inr h)
  refine lv_aload_n hx hb dL_beats_0 rfl (lv_at hl 3 rfl) ?_
  refine lv_iconst (v := 0) hx hb dL_beats_1 (by decide) ?_
  refine lv_aload_n hx hb dL_beats_2 rfl (lv_at hl 0 rfl) ?_
  refine lv_iload_n hx hb dL_beats_3 rfl (lv_at hl 1 rfl) ?_
  refine lv_iload_n hx hb dL_beats_4 rfl (lv_at hl 2 rfl) ?_
  rcases mrv_X_beats (G 8) (G 9) (G 10) (G 11) nD d o with h0 | h0 | h0
  · refine ro_callV (r := .int (mr_X_beats (G 8) (G 9) (G 10) (G 11) nD d o)) (As := [.int d, .int o]) (rest := [.int 0, .ref bo]) Sx (c_X_beats l D cl hcl oa ca ck F G hPc nD d o k1 hN h0) (cwV 2 hts gL_beats rfl rfl rfl (by decide +kernel) ⟨Nat.le_of_ble_eq_true rfl, Nat.le_of_ble_eq_true rfl⟩) hKc (va_recv hK hP (ci := 1) (q0 := 1) hcl.1 rfl) rfl hl.1 rfl (Nat.le_of_ble_eq_true rfl) dL_beats_5 ⟨Nat.zero_le _, Nat.zero_le _⟩ ?_
    obtain ⟨H, eH⟩ : ∃ H : Heap, H = H0 := ⟨_, rfl⟩
    obtain ⟨locs, eL⟩ : ∃ L : List Loc, L = [] := ⟨_, rfl⟩
    rw [← eH] at hP
    have hS : va_S A H0 H locs := by rw [eH, eL]; exact hS
    rw [show (W p l e ({ frames := 7, cells := 1, slots := 6, locals := 104 } : Room) s m args below meth c H0 [] 0 0 Q) = (W p l e ({ frames := 7, cells := 1, slots := 6, locals := 104 } : Room) s m args below meth c H locs 0 0 Q) by rw [eH, eL]]
    clear eH eL
    refine lv_if_eq (tgt := 15) hx hb dL_beats_8 (by decide) (fun cz => ?_) (fun cz => ?_)
    · refine lv_lconst (v := 0) hx hb dL_beats_15 (by decide) ?_
      refine va_last (f := fo) (x := 0) hx hb hK hP hD hS 0 0 rfl rfl (show vp_in 0 1 by unfold vp_in; decide) dL_beats_16 (fun H locs hP hD hS => ?_)
      rw [sb_cl0] at hP hD
      refine lv_goto (tgt := 28) hx hb dL_beats_17 (by decide) ?_
      refine lv_iconst (v := 0) hx hb dL_beats_28 (by decide) ?_
      refine W.widen (k := 1) (n := 6) (by decide) (by decide) ?_
      exact hret _ _ _ (lW bo kl (vp_updL fo 0 0) oa ca ck F G) _ _ (by rw [if_pos h0]) (by rw [if_pos h0, if_pos cz]) hP hD hS dL_beats_29
    · refine lv_lconst (v := 1) hx hb dL_beats_11 (by decide) ?_
      refine lv_goto (tgt := 16) hx hb dL_beats_12 (by decide) ?_
      refine va_last (f := fo) (x := 1) hx hb hK hP hD hS 0 0 rfl rfl (show vp_in 0 1 by unfold vp_in; decide) dL_beats_16 (fun H locs hP hD hS => ?_)
      rw [sb_cl0] at hP hD
      refine lv_goto (tgt := 28) hx hb dL_beats_17 (by decide) ?_
      refine lv_iconst (v := 0) hx hb dL_beats_28 (by decide) ?_
      refine W.widen (k := 1) (n := 6) (by decide) (by decide) ?_
      exact hret _ _ _ (lW bo kl (vp_updL fo 0 1) oa ca ck F G) _ _ (by rw [if_pos h0]) (by rw [if_pos h0, if_neg cz]) hP hD hS dL_beats_29
  · have ht := t_X_beats l hlt Z hZ.1 D cl hcl oa ca ck F G hPc hDc hZ0 hZH hZAc nD d o k1 hN (by rw [h0]; decide)
    rw [h0, exn_1] at ht
    refine wk_throwV (Z := Z) (E := "java/lang/IndexOutOfBoundsException") (o := (bo, .inl (kl, 1, .inr (.inl fo)))) (w := cW oa ca ck F G) (w' := cW oa ca ck F G) (As := [.int d, .int o]) (rest := [.int 0, .ref bo]) Sx ht (cwV 2 hts gL_beats rfl rfl rfl (by decide +kernel) ⟨Nat.le_of_ble_eq_true rfl, Nat.le_of_ble_eq_true rfl⟩) hKc hZw (va_recv hK hP (ci := 1) (q0 := 1) hcl.1 rfl) rfl hl.1 rfl (Nat.le_of_ble_eq_true rfl) dL_beats_5 ⟨Nat.le_refl _, Nat.le_refl _⟩ hP hD hS hA (fun q ce H locs hq hv hcE hP hD hS => ?_)
    obtain ⟨x0, x1, etab, ex0, ex1⟩ := tb2 htab
    have fx0 : x0.startPc = 0 ∧ x0.endPc = 17 ∧ x0.handlerPc = 20 ∧ x0.catchType = 21 := by simpa only [tb4, Prod.mk.injEq] using ex0
    have fx1 : x1.startPc = 0 ∧ x1.endPc = 17 ∧ x1.handlerPc = 24 ∧ x1.catchType = 13 := by simpa only [tb4, Prod.mk.injEq] using ex1
    refine tx_catch (cc := cL_beats) (own := RL) hown [] x0 [x1] etab hq hv (Vm.classAt_of_findClass hcE) (fun y hy => absurd hy List.not_mem_nil) (cx_row hadm hown (tb_cov ex0 (by decide) (by decide)) (by rw [fx0.2.2.2]; decide) (by rw [fx0.2.2.2]; exact hts _ (List.mem_cons_of_mem _ (List.mem_append_left _ mxL_21))) (fit_yes hcE)) ?_
    rw [fx0.2.2.1]
    refine lv_astore (lv' := [(4, .ref q), (0, .ref (oa 0)), (1, .int d), (2, .int o), (3, .ref bo)]) hx hb dL_beats_20 hl (by decide) rfl (fun ls hl => ?_)
    refine lv_iconst (v := 1) hx hb dL_beats_22 (by decide) ?_
    exact hret _ _ _ (lW bo kl fo oa ca ck F G) _ _ (by rw [h0]; decide) (by rw [if_neg (show ¬ mrx_X_beats (G 8) (G 9) (G 10) (G 11) nD d o = 0 by rw [h0]; decide)]) hP hD hS dL_beats_23
  · have ht := t_X_beats l hlt Z hZ.1 D cl hcl oa ca ck F G hPc hDc hZ0 hZH hZAc nD d o k1 hN (by rw [h0]; decide)
    rw [h0, exn_2] at ht
    refine wk_throwV (Z := Z) (E := "java/lang/IllegalArgumentException") (o := (bo, .inl (kl, 1, .inr (.inl fo)))) (w := cW oa ca ck F G) (w' := cW oa ca ck F G) (As := [.int d, .int o]) (rest := [.int 0, .ref bo]) Sx ht (cwV 2 hts gL_beats rfl rfl rfl (by decide +kernel) ⟨Nat.le_of_ble_eq_true rfl, Nat.le_of_ble_eq_true rfl⟩) hKc hZw (va_recv hK hP (ci := 1) (q0 := 1) hcl.1 rfl) rfl hl.1 rfl (Nat.le_of_ble_eq_true rfl) dL_beats_5 ⟨Nat.le_refl _, Nat.le_refl _⟩ hP hD hS hA (fun q ce H locs hq hv hcE hP hD hS => ?_)
    obtain ⟨x0, x1, etab, ex0, ex1⟩ := tb2 htab
    have fx0 : x0.startPc = 0 ∧ x0.endPc = 17 ∧ x0.handlerPc = 20 ∧ x0.catchType = 21 := by simpa only [tb4, Prod.mk.injEq] using ex0
    have fx1 : x1.startPc = 0 ∧ x1.endPc = 17 ∧ x1.handlerPc = 24 ∧ x1.catchType = 13 := by simpa only [tb4, Prod.mk.injEq] using ex1
    refine tx_catch (cc := cL_beats) (own := RL) hown [x0] x1 [] etab hq hv (Vm.classAt_of_findClass hcE) (fun y hy => by rw [List.mem_singleton.mp hy]; exact cx_row hadm hown (tb_cov ex0 (by decide) (by decide)) (by rw [fx0.2.2.2]; decide) (by rw [fx0.2.2.2]; exact hts _ (List.mem_cons_of_mem _ (List.mem_append_left _ mxL_21))) (fit_no hZ hZw (by decide) (by decide) (by decide) hcE)) (cx_row hadm hown (tb_cov ex1 (by decide) (by decide)) (by rw [fx1.2.2.2]; decide) (by rw [fx1.2.2.2]; exact hts _ (List.mem_cons_of_mem _ (List.mem_append_left _ mxL_13))) (fit_yes hcE)) ?_
    rw [fx1.2.2.1]
    refine lv_astore (lv' := [(4, .ref q), (0, .ref (oa 0)), (1, .int d), (2, .int o), (3, .ref bo)]) hx hb dL_beats_24 hl (by decide) rfl (fun ls hl => ?_)
    refine lv_iconst (v := 2) hx hb dL_beats_26 (by decide) ?_
    exact hret _ _ _ (lW bo kl fo oa ca ck F G) _ _ (by rw [h0]; decide) (by rw [if_neg (show ¬ mrx_X_beats (G 8) (G 9) (G 10) (G 11) nD d o = 0 by rw [h0]; decide)]) hP hD hS dL_beats_27
set_option maxHeartbeats 4000000 in
set_option maxRecDepth 100000 in
theorem w_at (l : Launch) (hlt : l.stackTraces = false) (Z : State) (hZ : xZ Z) (D : va_G) (cl : List vw_C) (hcl : cOK cl) (oa ca : Nat → Nat) (ck : Nat → ClassId) (F : Nat → Int32) (G : Nat → Nat → Int32) {H0 : Heap} (bo : Nat) (kl : ClassId) (fo : Nat → Int64) (hP : va_P D cl (lW bo kl fo oa ca ck F G) H0) (hD : va_D (fun _ => True) (lW bo kl fo oa ca ck F G)) (hZ0 : Z.heap.size ≤ H0.size) (hZH : ∀ q : Nat, q < Z.heap.size → H0[q]? = Z.heap[q]?) (hZA : ∀ q : Nat, q < Z.heap.size → ¬ va_A (lW bo kl fo oa ca ck F G) H0.size q) (nD : Nat) (sz : Nat) (k : Int32) (k1 : F 1 = nI nD) (hN : nD ≤ 4096) (k4 : F 4 = nI sz) (hsz : sz ≤ nD) : Met l yL_at wsL_at ({ frames := 7, cells := 1, slots := 6, locals := 111 } : Room) (tx_P Z D cl (lT kl ck) H0 [.ref (oa 0), .int k, .ref bo]) (ww_Q D cl (some (.int (if mrx_X_at (F 4) (F 5) (G 8) (G 9) (G 10) (G 11) (G 12) (G 13) nD sz k = 0 then 0 else 1 : Int32))) (lW bo kl (if mrx_X_at (F 4) (F 5) (G 8) (G 9) (G 10) (G 11) (G 12) (G 13) nD sz k = 0 then vp_updL fo 0 (((mr_X_at (F 4) (F 5) (G 8) (G 9) (G 10) (G 11) (G 12) (G 13) nD sz k).1).toInt64) else fo) oa ca ck (upd (upd F 4 ((mr_X_at (F 4) (F 5) (G 8) (G 9) (G 10) (G 11) (G 12) (G 13) nD sz k).2.1)) 5 ((mr_X_at (F 4) (F 5) (G 8) (G 9) (G 10) (G 11) (G 12) (G 13) nD sz k).2.2.1)) (va_up (va_up G 12 ((mr_X_at (F 4) (F 5) (G 8) (G 9) (G 10) (G 11) (G 12) (G 13) nD sz k).2.2.2.1)) 13 ((mr_X_at (F 4) (F 5) (G 8) (G 9) (G 10) (G 11) (G 12) (G 13) nD sz k).2.2.2.2))) (va_A (lW bo kl fo oa ca ck F G) H0.size)) 1 6 (va_A (lW bo kl fo oa ca ck F G) H0.size) := by
  refine wk_met (by decide) rfl (Nat.le_of_ble_eq_true rfl) hP hD ?_
  intro p e s m args below meth c Q A hadm hAe Sx hK hZw htab hP hD hS hA ls hl hret
  obtain ⟨hx, hb, hml, hown, hts⟩ := id Sx
  have hl : lv_has ls 4 [(0, .ref (oa 0)), (1, .int k), (2, .ref bo)] := hl
  have hPc : va_P D cl (cW oa ca ck F G) H0 := fun k q hk => hP (k + 1) q hk
  have hDc : va_D (fun _ => True) (cW oa ca ck F G) := ⟨fun i j x z hi hj e9 => by have := hD.1 (i + 1) (j + 1) x z hi hj e9; omega, fun _ _ _ => trivial⟩
  have hKc : va_K D cl (cT ck) s := ⟨hK.1, fun k q hk => hK.2 (k + 1) q hk⟩
  have hZAc : ∀ q : Nat, q < Z.heap.size → ¬ va_A (cW oa ca ck F G) H0.size q := fun q hq h => hZA q hq (by rcases h with ⟨k, e9, h⟩ | h; exact Or.inl ⟨k + 1, e9, h⟩; exact Or.inr h)
  refine lv_aload_n hx hb dL_at_0 rfl (lv_at hl 2 rfl) ?_
  refine lv_iconst (v := 0) hx hb dL_at_1 (by decide) ?_
  refine lv_aload_n hx hb dL_at_2 rfl (lv_at hl 0 rfl) ?_
  refine lv_iload_n hx hb dL_at_3 rfl (lv_at hl 1 rfl) ?_
  rcases mrv_X_at (F 4) (F 5) (G 8) (G 9) (G 10) (G 11) (G 12) (G 13) nD sz k with h0 | h0
  · refine wk_callV (o := (bo, .inl (kl, 1, .inr (.inl fo)))) (w := cW oa ca ck F G) (w' := cW oa ca ck (upd (upd F 4 ((mr_X_at (F 4) (F 5) (G 8) (G 9) (G 10) (G 11) (G 12) (G 13) nD sz k).2.1)) 5 ((mr_X_at (F 4) (F 5) (G 8) (G 9) (G 10) (G 11) (G 12) (G 13) nD sz k).2.2.1)) (va_up (va_up G 12 ((mr_X_at (F 4) (F 5) (G 8) (G 9) (G 10) (G 11) (G 12) (G 13) nD sz k).2.2.2.1)) 13 ((mr_X_at (F 4) (F 5) (G 8) (G 9) (G 10) (G 11) (G 12) (G 13) nD sz k).2.2.2.2))) (r := some (.int ((mr_X_at (F 4) (F 5) (G 8) (G 9) (G 10) (G 11) (G 12) (G 13) nD sz k).1))) (As := [.int k]) (rest := [.int 0, .ref bo]) Sx (c_X_at l D cl hcl oa ca ck F G hPc hDc nD sz k k1 hN k4 hsz h0) (cwV 1 hts gL_at rfl rfl rfl (by decide +kernel) ⟨Nat.le_of_ble_eq_true rfl, Nat.le_of_ble_eq_true rfl⟩) hKc (va_recv hK hP (ci := 1) (q0 := 1) hcl.1 rfl) rfl hl.1 rfl (Nat.le_of_ble_eq_true rfl) dL_at_4 ⟨Nat.zero_le _, Nat.zero_le _⟩ hP hD hS hA (fun H locs hP hD hS => ?_)
    refine lv_i2l hx hb dL_at_7 rfl ?_
    refine va_last (f := fo) (x := ((mr_X_at (F 4) (F 5) (G 8) (G 9) (G 10) (G 11) (G 12) (G 13) nD sz k).1).toInt64) hx hb hK hP hD hS 0 0 rfl rfl (show vp_in 0 1 by unfold vp_in; decide) dL_at_8 (fun H locs hP hD hS => ?_)
    rw [sb_cl0] at hP hD
    refine lv_goto (tgt := 15) hx hb dL_at_9 (by decide) ?_
    refine lv_iconst (v := 0) hx hb dL_at_15 (by decide) ?_
    refine W.widen (k := 1) (n := 6) (by decide) (by decide) ?_
    exact hret _ _ _ (lW bo kl (vp_updL fo 0 (((mr_X_at (F 4) (F 5) (G 8) (G 9) (G 10) (G 11) (G 12) (G 13) nD sz k).1).toInt64)) oa ca ck (upd (upd F 4 ((mr_X_at (F 4) (F 5) (G 8) (G 9) (G 10) (G 11) (G 12) (G 13) nD sz k).2.1)) 5 ((mr_X_at (F 4) (F 5) (G 8) (G 9) (G 10) (G 11) (G 12) (G 13) nD sz k).2.2.1)) (va_up (va_up G 12 ((mr_X_at (F 4) (F 5) (G 8) (G 9) (G 10) (G 11) (G 12) (G 13) nD sz k).2.2.2.1)) 13 ((mr_X_at (F 4) (F 5) (G 8) (G 9) (G 10) (G 11) (G 12) (G 13) nD sz k).2.2.2.2))) _ _ (by rw [if_pos h0]) (by rw [if_pos h0]) hP hD hS dL_at_16
  · have ht := t_X_at l hlt Z hZ.1 D cl hcl oa ca ck F G hPc hDc hZ0 hZH hZAc nD sz k k1 hN k4 hsz (by rw [h0]; decide)
    rw [h0, exn_1] at ht
    refine wk_throwV (Z := Z) (E := "java/lang/IndexOutOfBoundsException") (o := (bo, .inl (kl, 1, .inr (.inl fo)))) (w := cW oa ca ck F G) (w' := cW oa ca ck (upd (upd F 4 ((mr_X_at (F 4) (F 5) (G 8) (G 9) (G 10) (G 11) (G 12) (G 13) nD sz k).2.1)) 5 ((mr_X_at (F 4) (F 5) (G 8) (G 9) (G 10) (G 11) (G 12) (G 13) nD sz k).2.2.1)) (va_up (va_up G 12 ((mr_X_at (F 4) (F 5) (G 8) (G 9) (G 10) (G 11) (G 12) (G 13) nD sz k).2.2.2.1)) 13 ((mr_X_at (F 4) (F 5) (G 8) (G 9) (G 10) (G 11) (G 12) (G 13) nD sz k).2.2.2.2))) (As := [.int k]) (rest := [.int 0, .ref bo]) Sx ht (cwV 1 hts gL_at rfl rfl rfl (by decide +kernel) ⟨Nat.le_of_ble_eq_true rfl, Nat.le_of_ble_eq_true rfl⟩) hKc hZw (va_recv hK hP (ci := 1) (q0 := 1) hcl.1 rfl) rfl hl.1 rfl (Nat.le_of_ble_eq_true rfl) dL_at_4 ⟨Nat.le_refl _, Nat.le_refl _⟩ hP hD hS hA (fun q ce H locs hq hv hcE hP hD hS => ?_)
    obtain ⟨x0, etab, ex0⟩ := tb1 htab
    have fx0 : x0.startPc = 0 ∧ x0.endPc = 9 ∧ x0.handlerPc = 12 ∧ x0.catchType = 21 := by simpa only [tb4, Prod.mk.injEq] using ex0
    refine tx_catch (cc := cL_at) (own := RL) hown [] x0 [] etab hq hv (Vm.classAt_of_findClass hcE) (fun y hy => absurd hy List.not_mem_nil) (cx_row hadm hown (tb_cov ex0 (by decide) (by decide)) (by rw [fx0.2.2.2]; decide) (by rw [fx0.2.2.2]; exact hts _ (List.mem_cons_of_mem _ (List.mem_append_left _ mxL_21))) (fit_yes hcE)) ?_
    rw [fx0.2.2.1]
    refine lv_astore_n (lv' := [(3, .ref q), (0, .ref (oa 0)), (1, .int k), (2, .ref bo)]) hx hb dL_at_12 rfl hl (by decide) rfl (fun ls hl => ?_)
    refine lv_iconst (v := 1) hx hb dL_at_13 (by decide) ?_
    exact hret _ _ _ (lW bo kl fo oa ca ck (upd (upd F 4 ((mr_X_at (F 4) (F 5) (G 8) (G 9) (G 10) (G 11) (G 12) (G 13) nD sz k).2.1)) 5 ((mr_X_at (F 4) (F 5) (G 8) (G 9) (G 10) (G 11) (G 12) (G 13) nD sz k).2.2.1)) (va_up (va_up G 12 ((mr_X_at (F 4) (F 5) (G 8) (G 9) (G 10) (G 11) (G 12) (G 13) nD sz k).2.2.2.1)) 13 ((mr_X_at (F 4) (F 5) (G 8) (G 9) (G 10) (G 11) (G 12) (G 13) nD sz k).2.2.2.2))) _ _ (by rw [h0]; decide) (by rw [if_neg (show ¬ mrx_X_at (F 4) (F 5) (G 8) (G 9) (G 10) (G 11) (G 12) (G 13) nD sz k = 0 by rw [h0]; decide)]) hP hD hS dL_at_14
set_option maxHeartbeats 4000000 in
set_option maxRecDepth 100000 in
theorem w_best (l : Launch) (hlt : l.stackTraces = false) (Z : State) (hZ : xZ Z) (D : va_G) (cl : List vw_C) (hcl : cOK cl) (oa ca : Nat → Nat) (ck : Nat → ClassId) (F : Nat → Int32) (G : Nat → Nat → Int32) {H0 : Heap} (bo : Nat) (kl : ClassId) (fo : Nat → Int64) (hP : va_P D cl (lW bo kl fo oa ca ck F G) H0) (hD : va_D (fun _ => True) (lW bo kl fo oa ca ck F G)) (hZ0 : Z.heap.size ≤ H0.size) (hZH : ∀ q : Nat, q < Z.heap.size → H0[q]? = Z.heap[q]?) (hZA : ∀ q : Nat, q < Z.heap.size → ¬ va_A (lW bo kl fo oa ca ck F G) H0.size q) (nC : Nat) (nD : Nat) (nR : Nat) (nu : Int32) (k0 : F 0 = nI nC) (hC : nC ≤ 8) (s0 : ∀ c, c < nC → ∃ z : Nat, G 0 c = nI z ∧ 2 ≤ z ∧ z ≤ 6) (s1 : ∀ c, c < nC → G 1 c = nI (pc_ (zg (G 0)) nC c)) (hmp : mp (zg (G 0)) 0 nC = nD) (hN : nD ≤ 4096) (mA : ∀ s, s < 440 → ∃ x : Nat, x < 8 ∧ G 2 s = nI x) (mB : ∀ s, s < 440 → G 4 s = -1 ∨ ∃ x : Nat, x < 8 ∧ G 4 s = nI x) (mQ : ∀ n, n < 4 → ∃ t : Nat, t < 101 ∧ G 6 n = nI t) (k3 : F 3 = nI nR) (hR : nR ≤ 40) : Met l yL_best wsL_best ({ frames := 7, cells := 1, slots := 6, locals := 142 } : Room) (tx_P Z D cl (lT kl ck) H0 [.ref (oa 0), .int nu, .ref bo]) (ww_Q D cl (some (.int (if mrx_X_best nC nD nR nu = 0 then 0 else 1 : Int32))) (lW bo kl (if mrx_X_best nC nD nR nu = 0 then vp_updL fo 0 (((mr_X_best (F 6) (F 7) (F 8) (G 0) (G 1) (G 2) (G 3) (G 4) (G 5) (G 6) (G 7) (G 8) (G 9) (G 10) (G 14) nC nD nR nu).1).toInt64) else fo) oa ca ck (upd (upd (upd F 6 ((mr_X_best (F 6) (F 7) (F 8) (G 0) (G 1) (G 2) (G 3) (G 4) (G 5) (G 6) (G 7) (G 8) (G 9) (G 10) (G 14) nC nD nR nu).2.1)) 7 ((mr_X_best (F 6) (F 7) (F 8) (G 0) (G 1) (G 2) (G 3) (G 4) (G 5) (G 6) (G 7) (G 8) (G 9) (G 10) (G 14) nC nD nR nu).2.2.1)) 8 ((mr_X_best (F 6) (F 7) (F 8) (G 0) (G 1) (G 2) (G 3) (G 4) (G 5) (G 6) (G 7) (G 8) (G 9) (G 10) (G 14) nC nD nR nu).2.2.2.1)) (va_up G 14 ((mr_X_best (F 6) (F 7) (F 8) (G 0) (G 1) (G 2) (G 3) (G 4) (G 5) (G 6) (G 7) (G 8) (G 9) (G 10) (G 14) nC nD nR nu).2.2.2.2))) (va_A (lW bo kl fo oa ca ck F G) H0.size)) 1 6 (va_A (lW bo kl fo oa ca ck F G) H0.size) := by
  refine wk_met (by decide) rfl (Nat.le_of_ble_eq_true rfl) hP hD ?_
  intro p e s m args below meth c Q A hadm hAe Sx hK hZw htab hP hD hS hA ls hl hret
  obtain ⟨hx, hb, hml, hown, hts⟩ := id Sx
  have hl : lv_has ls 4 [(0, .ref (oa 0)), (1, .int nu), (2, .ref bo)] := hl
  have hPc : va_P D cl (cW oa ca ck F G) H0 := fun k q hk => hP (k + 1) q hk
  have hDc : va_D (fun _ => True) (cW oa ca ck F G) := ⟨fun i j x z hi hj e9 => by have := hD.1 (i + 1) (j + 1) x z hi hj e9; omega, fun _ _ _ => trivial⟩
  have hKc : va_K D cl (cT ck) s := ⟨hK.1, fun k q hk => hK.2 (k + 1) q hk⟩
  have hZAc : ∀ q : Nat, q < Z.heap.size → ¬ va_A (cW oa ca ck F G) H0.size q := fun q hq h => hZA q hq (by rcases h with ⟨k, e9, h⟩ | h; exact Or.inl ⟨k + 1, e9, h⟩; exact Or.inr h)
  refine lv_aload_n hx hb dL_best_0 rfl (lv_at hl 2 rfl) ?_
  refine lv_iconst (v := 0) hx hb dL_best_1 (by decide) ?_
  refine lv_aload_n hx hb dL_best_2 rfl (lv_at hl 0 rfl) ?_
  refine lv_iload_n hx hb dL_best_3 rfl (lv_at hl 1 rfl) ?_
  rcases mrv_X_best nC nD nR nu with h0 | h0
  · refine wk_callV (o := (bo, .inl (kl, 1, .inr (.inl fo)))) (w := cW oa ca ck F G) (w' := cW oa ca ck (upd (upd (upd F 6 ((mr_X_best (F 6) (F 7) (F 8) (G 0) (G 1) (G 2) (G 3) (G 4) (G 5) (G 6) (G 7) (G 8) (G 9) (G 10) (G 14) nC nD nR nu).2.1)) 7 ((mr_X_best (F 6) (F 7) (F 8) (G 0) (G 1) (G 2) (G 3) (G 4) (G 5) (G 6) (G 7) (G 8) (G 9) (G 10) (G 14) nC nD nR nu).2.2.1)) 8 ((mr_X_best (F 6) (F 7) (F 8) (G 0) (G 1) (G 2) (G 3) (G 4) (G 5) (G 6) (G 7) (G 8) (G 9) (G 10) (G 14) nC nD nR nu).2.2.2.1)) (va_up G 14 ((mr_X_best (F 6) (F 7) (F 8) (G 0) (G 1) (G 2) (G 3) (G 4) (G 5) (G 6) (G 7) (G 8) (G 9) (G 10) (G 14) nC nD nR nu).2.2.2.2))) (r := some (.int ((mr_X_best (F 6) (F 7) (F 8) (G 0) (G 1) (G 2) (G 3) (G 4) (G 5) (G 6) (G 7) (G 8) (G 9) (G 10) (G 14) nC nD nR nu).1))) (As := [.int nu]) (rest := [.int 0, .ref bo]) Sx (c_X_best l D cl hcl oa ca ck F G hPc hDc nC nD nR nu k0 hC s0 s1 hmp hN mA mB mQ k3 hR h0) (cwV 1 hts gL_best rfl rfl rfl (by decide +kernel) ⟨Nat.le_of_ble_eq_true rfl, Nat.le_of_ble_eq_true rfl⟩) hKc (va_recv hK hP (ci := 1) (q0 := 1) hcl.1 rfl) rfl hl.1 rfl (Nat.le_of_ble_eq_true rfl) dL_best_4 ⟨Nat.zero_le _, Nat.zero_le _⟩ hP hD hS hA (fun H locs hP hD hS => ?_)
    refine lv_i2l hx hb dL_best_7 rfl ?_
    refine va_last (f := fo) (x := ((mr_X_best (F 6) (F 7) (F 8) (G 0) (G 1) (G 2) (G 3) (G 4) (G 5) (G 6) (G 7) (G 8) (G 9) (G 10) (G 14) nC nD nR nu).1).toInt64) hx hb hK hP hD hS 0 0 rfl rfl (show vp_in 0 1 by unfold vp_in; decide) dL_best_8 (fun H locs hP hD hS => ?_)
    rw [sb_cl0] at hP hD
    refine lv_goto (tgt := 15) hx hb dL_best_9 (by decide) ?_
    refine lv_iconst (v := 0) hx hb dL_best_15 (by decide) ?_
    refine W.widen (k := 1) (n := 6) (by decide) (by decide) ?_
    exact hret _ _ _ (lW bo kl (vp_updL fo 0 (((mr_X_best (F 6) (F 7) (F 8) (G 0) (G 1) (G 2) (G 3) (G 4) (G 5) (G 6) (G 7) (G 8) (G 9) (G 10) (G 14) nC nD nR nu).1).toInt64)) oa ca ck (upd (upd (upd F 6 ((mr_X_best (F 6) (F 7) (F 8) (G 0) (G 1) (G 2) (G 3) (G 4) (G 5) (G 6) (G 7) (G 8) (G 9) (G 10) (G 14) nC nD nR nu).2.1)) 7 ((mr_X_best (F 6) (F 7) (F 8) (G 0) (G 1) (G 2) (G 3) (G 4) (G 5) (G 6) (G 7) (G 8) (G 9) (G 10) (G 14) nC nD nR nu).2.2.1)) 8 ((mr_X_best (F 6) (F 7) (F 8) (G 0) (G 1) (G 2) (G 3) (G 4) (G 5) (G 6) (G 7) (G 8) (G 9) (G 10) (G 14) nC nD nR nu).2.2.2.1)) (va_up G 14 ((mr_X_best (F 6) (F 7) (F 8) (G 0) (G 1) (G 2) (G 3) (G 4) (G 5) (G 6) (G 7) (G 8) (G 9) (G 10) (G 14) nC nD nR nu).2.2.2.2))) _ _ (by rw [if_pos h0]) (by rw [if_pos h0]) hP hD hS dL_best_16
  · have ht := t_X_best l hlt Z hZ.1 D cl hcl oa ca ck F G hPc hDc hZ0 hZH hZAc nC nD nR nu k0 hC s0 s1 hmp hN mA mB mQ k3 hR (by rw [h0]; decide)
    rw [h0, exn_1] at ht
    refine wk_throwV (Z := Z) (E := "java/lang/IndexOutOfBoundsException") (o := (bo, .inl (kl, 1, .inr (.inl fo)))) (w := cW oa ca ck F G) (w' := cW oa ca ck (upd (upd (upd F 6 ((mr_X_best (F 6) (F 7) (F 8) (G 0) (G 1) (G 2) (G 3) (G 4) (G 5) (G 6) (G 7) (G 8) (G 9) (G 10) (G 14) nC nD nR nu).2.1)) 7 ((mr_X_best (F 6) (F 7) (F 8) (G 0) (G 1) (G 2) (G 3) (G 4) (G 5) (G 6) (G 7) (G 8) (G 9) (G 10) (G 14) nC nD nR nu).2.2.1)) 8 ((mr_X_best (F 6) (F 7) (F 8) (G 0) (G 1) (G 2) (G 3) (G 4) (G 5) (G 6) (G 7) (G 8) (G 9) (G 10) (G 14) nC nD nR nu).2.2.2.1)) (va_up G 14 ((mr_X_best (F 6) (F 7) (F 8) (G 0) (G 1) (G 2) (G 3) (G 4) (G 5) (G 6) (G 7) (G 8) (G 9) (G 10) (G 14) nC nD nR nu).2.2.2.2))) (As := [.int nu]) (rest := [.int 0, .ref bo]) Sx ht (cwV 1 hts gL_best rfl rfl rfl (by decide +kernel) ⟨Nat.le_of_ble_eq_true rfl, Nat.le_of_ble_eq_true rfl⟩) hKc hZw (va_recv hK hP (ci := 1) (q0 := 1) hcl.1 rfl) rfl hl.1 rfl (Nat.le_of_ble_eq_true rfl) dL_best_4 ⟨Nat.le_refl _, Nat.le_refl _⟩ hP hD hS hA (fun q ce H locs hq hv hcE hP hD hS => ?_)
    obtain ⟨x0, etab, ex0⟩ := tb1 htab
    have fx0 : x0.startPc = 0 ∧ x0.endPc = 9 ∧ x0.handlerPc = 12 ∧ x0.catchType = 21 := by simpa only [tb4, Prod.mk.injEq] using ex0
    refine tx_catch (cc := cL_best) (own := RL) hown [] x0 [] etab hq hv (Vm.classAt_of_findClass hcE) (fun y hy => absurd hy List.not_mem_nil) (cx_row hadm hown (tb_cov ex0 (by decide) (by decide)) (by rw [fx0.2.2.2]; decide) (by rw [fx0.2.2.2]; exact hts _ (List.mem_cons_of_mem _ (List.mem_append_left _ mxL_21))) (fit_yes hcE)) ?_
    rw [fx0.2.2.1]
    refine lv_astore_n (lv' := [(3, .ref q), (0, .ref (oa 0)), (1, .int nu), (2, .ref bo)]) hx hb dL_best_12 rfl hl (by decide) rfl (fun ls hl => ?_)
    refine lv_iconst (v := 1) hx hb dL_best_13 (by decide) ?_
    exact hret _ _ _ (lW bo kl fo oa ca ck (upd (upd (upd F 6 ((mr_X_best (F 6) (F 7) (F 8) (G 0) (G 1) (G 2) (G 3) (G 4) (G 5) (G 6) (G 7) (G 8) (G 9) (G 10) (G 14) nC nD nR nu).2.1)) 7 ((mr_X_best (F 6) (F 7) (F 8) (G 0) (G 1) (G 2) (G 3) (G 4) (G 5) (G 6) (G 7) (G 8) (G 9) (G 10) (G 14) nC nD nR nu).2.2.1)) 8 ((mr_X_best (F 6) (F 7) (F 8) (G 0) (G 1) (G 2) (G 3) (G 4) (G 5) (G 6) (G 7) (G 8) (G 9) (G 10) (G 14) nC nD nR nu).2.2.2.1)) (va_up G 14 ((mr_X_best (F 6) (F 7) (F 8) (G 0) (G 1) (G 2) (G 3) (G 4) (G 5) (G 6) (G 7) (G 8) (G 9) (G 10) (G 14) nC nD nR nu).2.2.2.2))) _ _ (by rw [h0]; decide) (by rw [if_neg (show ¬ mrx_X_best nC nD nR nu = 0 by rw [h0]; decide)]) hP hD hS dL_best_14
set_option maxHeartbeats 4000000 in
set_option maxRecDepth 100000 in
theorem w_bound (l : Launch) (hlt : l.stackTraces = false) (Z : State) (hZ : xZ Z) (D : va_G) (cl : List vw_C) (hcl : cOK cl) (oa ca : Nat → Nat) (ck : Nat → ClassId) (F : Nat → Int32) (G : Nat → Nat → Int32) {H0 : Heap} (bo : Nat) (kl : ClassId) (fo : Nat → Int64) (hP : va_P D cl (lW bo kl fo oa ca ck F G) H0) (hD : va_D (fun _ => True) (lW bo kl fo oa ca ck F G)) (hZ0 : Z.heap.size ≤ H0.size) (hZH : ∀ q : Nat, q < Z.heap.size → H0[q]? = Z.heap[q]?) (hZA : ∀ q : Nat, q < Z.heap.size → ¬ va_A (lW bo kl fo oa ca ck F G) H0.size q) (nC : Nat) (nD : Nat) (nu : Int32) (d : Int32) (sx : Int32) (k0 : F 0 = nI nC) (hC : nC ≤ 8) (k1 : F 1 = nI nD) (hN : nD ≤ 4096) (mA : ∀ s, s < 440 → ∃ x : Nat, x < 8 ∧ G 2 s = nI x) (mB : ∀ s, s < 440 → G 4 s = -1 ∨ ∃ x : Nat, x < 8 ∧ G 4 s = nI x) (mQ : ∀ n, n < 4 → ∃ t : Nat, t < 101 ∧ G 6 n = nI t) : Met l yL_bound wsL_bound ({ frames := 7, cells := 1, slots := 6, locals := 105 } : Room) (tx_P Z D cl (lT kl ck) H0 [.ref (oa 0), .int nu, .int d, .int sx, .ref bo]) (ww_Q D cl (some (.int (if mrx_X_bound nC nD nu d sx = 0 then 0 else 1 : Int32))) (lW bo kl (if mrx_X_bound nC nD nu d sx = 0 then vp_updL fo 0 (((mr_X_bound (G 0) (G 1) (G 2) (G 3) (G 4) (G 5) (G 6) (G 7) (G 14) nC nD nu d sx).1).toInt64) else fo) oa ca ck F (va_up G 14 ((mr_X_bound (G 0) (G 1) (G 2) (G 3) (G 4) (G 5) (G 6) (G 7) (G 14) nC nD nu d sx).2))) (va_A (lW bo kl fo oa ca ck F G) H0.size)) 1 6 (va_A (lW bo kl fo oa ca ck F G) H0.size) := by
  refine wk_met (by decide) rfl (Nat.le_of_ble_eq_true rfl) hP hD ?_
  intro p e s m args below meth c Q A hadm hAe Sx hK hZw htab hP hD hS hA ls hl hret
  obtain ⟨hx, hb, hml, hown, hts⟩ := id Sx
  have hl : lv_has ls 6 [(0, .ref (oa 0)), (1, .int nu), (2, .int d), (3, .int sx), (4, .ref bo)] := hl
  have hPc : va_P D cl (cW oa ca ck F G) H0 := fun k q hk => hP (k + 1) q hk
  have hDc : va_D (fun _ => True) (cW oa ca ck F G) := ⟨fun i j x z hi hj e9 => by have := hD.1 (i + 1) (j + 1) x z hi hj e9; omega, fun _ _ _ => trivial⟩
  have hKc : va_K D cl (cT ck) s := ⟨hK.1, fun k q hk => hK.2 (k + 1) q hk⟩
  have hZAc : ∀ q : Nat, q < Z.heap.size → ¬ va_A (cW oa ca ck F G) H0.size q := fun q hq h => hZA q hq (by rcases h with ⟨k, e9, h⟩ | h; exact Or.inl ⟨k + 1, e9, h⟩; exact Or.inr h)
  refine lv_aload hx hb dL_bound_0 (lv_at hl 4 rfl) ?_
  refine lv_iconst (v := 0) hx hb dL_bound_2 (by decide) ?_
  refine lv_aload_n hx hb dL_bound_3 rfl (lv_at hl 0 rfl) ?_
  refine lv_iload_n hx hb dL_bound_4 rfl (lv_at hl 1 rfl) ?_
  refine lv_iload_n hx hb dL_bound_5 rfl (lv_at hl 2 rfl) ?_
  refine lv_iload_n hx hb dL_bound_6 rfl (lv_at hl 3 rfl) ?_
  rcases mrv_X_bound nC nD nu d sx with h0 | h0
  · refine wk_callV (o := (bo, .inl (kl, 1, .inr (.inl fo)))) (w := cW oa ca ck F G) (w' := cW oa ca ck F (va_up G 14 ((mr_X_bound (G 0) (G 1) (G 2) (G 3) (G 4) (G 5) (G 6) (G 7) (G 14) nC nD nu d sx).2))) (r := some (.int ((mr_X_bound (G 0) (G 1) (G 2) (G 3) (G 4) (G 5) (G 6) (G 7) (G 14) nC nD nu d sx).1))) (As := [.int nu, .int d, .int sx]) (rest := [.int 0, .ref bo]) Sx (c_X_bound l D cl hcl oa ca ck F G hPc hDc nC nD nu d sx k0 hC k1 hN mA mB mQ h0) (cwV 3 hts gL_bound rfl rfl rfl (by decide +kernel) ⟨Nat.le_of_ble_eq_true rfl, Nat.le_of_ble_eq_true rfl⟩) hKc (va_recv hK hP (ci := 1) (q0 := 1) hcl.1 rfl) rfl hl.1 rfl (Nat.le_of_ble_eq_true rfl) dL_bound_7 ⟨Nat.zero_le _, Nat.zero_le _⟩ hP hD hS hA (fun H locs hP hD hS => ?_)
    refine lv_i2l hx hb dL_bound_10 rfl ?_
    refine va_last (f := fo) (x := ((mr_X_bound (G 0) (G 1) (G 2) (G 3) (G 4) (G 5) (G 6) (G 7) (G 14) nC nD nu d sx).1).toInt64) hx hb hK hP hD hS 0 0 rfl rfl (show vp_in 0 1 by unfold vp_in; decide) dL_bound_11 (fun H locs hP hD hS => ?_)
    rw [sb_cl0] at hP hD
    refine lv_goto (tgt := 19) hx hb dL_bound_12 (by decide) ?_
    refine lv_iconst (v := 0) hx hb dL_bound_19 (by decide) ?_
    refine W.widen (k := 1) (n := 6) (by decide) (by decide) ?_
    exact hret _ _ _ (lW bo kl (vp_updL fo 0 (((mr_X_bound (G 0) (G 1) (G 2) (G 3) (G 4) (G 5) (G 6) (G 7) (G 14) nC nD nu d sx).1).toInt64)) oa ca ck F (va_up G 14 ((mr_X_bound (G 0) (G 1) (G 2) (G 3) (G 4) (G 5) (G 6) (G 7) (G 14) nC nD nu d sx).2))) _ _ (by rw [if_pos h0]) (by rw [if_pos h0]) hP hD hS dL_bound_20
  · have ht := t_X_bound l hlt Z hZ.1 D cl hcl oa ca ck F G hPc hDc hZ0 hZH hZAc nC nD nu d sx k0 hC k1 hN mA mB mQ (by rw [h0]; decide)
    rw [h0, exn_1] at ht
    refine wk_throwV (Z := Z) (E := "java/lang/IndexOutOfBoundsException") (o := (bo, .inl (kl, 1, .inr (.inl fo)))) (w := cW oa ca ck F G) (w' := cW oa ca ck F (va_up G 14 ((mr_X_bound (G 0) (G 1) (G 2) (G 3) (G 4) (G 5) (G 6) (G 7) (G 14) nC nD nu d sx).2))) (As := [.int nu, .int d, .int sx]) (rest := [.int 0, .ref bo]) Sx ht (cwV 3 hts gL_bound rfl rfl rfl (by decide +kernel) ⟨Nat.le_of_ble_eq_true rfl, Nat.le_of_ble_eq_true rfl⟩) hKc hZw (va_recv hK hP (ci := 1) (q0 := 1) hcl.1 rfl) rfl hl.1 rfl (Nat.le_of_ble_eq_true rfl) dL_bound_7 ⟨Nat.le_refl _, Nat.le_refl _⟩ hP hD hS hA (fun q ce H locs hq hv hcE hP hD hS => ?_)
    obtain ⟨x0, etab, ex0⟩ := tb1 htab
    have fx0 : x0.startPc = 0 ∧ x0.endPc = 12 ∧ x0.handlerPc = 15 ∧ x0.catchType = 21 := by simpa only [tb4, Prod.mk.injEq] using ex0
    refine tx_catch (cc := cL_bound) (own := RL) hown [] x0 [] etab hq hv (Vm.classAt_of_findClass hcE) (fun y hy => absurd hy List.not_mem_nil) (cx_row hadm hown (tb_cov ex0 (by decide) (by decide)) (by rw [fx0.2.2.2]; decide) (by rw [fx0.2.2.2]; exact hts _ (List.mem_cons_of_mem _ (List.mem_append_left _ mxL_21))) (fit_yes hcE)) ?_
    rw [fx0.2.2.1]
    refine lv_astore (lv' := [(5, .ref q), (0, .ref (oa 0)), (1, .int nu), (2, .int d), (3, .int sx), (4, .ref bo)]) hx hb dL_bound_15 hl (by decide) rfl (fun ls hl => ?_)
    refine lv_iconst (v := 1) hx hb dL_bound_17 (by decide) ?_
    exact hret _ _ _ (lW bo kl fo oa ca ck F (va_up G 14 ((mr_X_bound (G 0) (G 1) (G 2) (G 3) (G 4) (G 5) (G 6) (G 7) (G 14) nC nD nu d sx).2))) _ _ (by rw [h0]; decide) (by rw [if_neg (show ¬ mrx_X_bound nC nD nu d sx = 0 by rw [h0]; decide)]) hP hD hS dL_bound_18
set_option maxHeartbeats 4000000 in
set_option maxRecDepth 100000 in
theorem w_near (l : Launch) (hlt : l.stackTraces = false) (Z : State) (hZ : xZ Z) (D : va_G) (cl : List vw_C) (hcl : cOK cl) (oa ca : Nat → Nat) (ck : Nat → ClassId) (F : Nat → Int32) (G : Nat → Nat → Int32) {H0 : Heap} (bo : Nat) (kl : ClassId) (fo : Nat → Int64) (hP : va_P D cl (lW bo kl fo oa ca ck F G) H0) (hD : va_D (fun _ => True) (lW bo kl fo oa ca ck F G)) (hZ0 : Z.heap.size ≤ H0.size) (hZH : ∀ q : Nat, q < Z.heap.size → H0[q]? = Z.heap[q]?) (hZA : ∀ q : Nat, q < Z.heap.size → ¬ va_A (lW bo kl fo oa ca ck F G) H0.size q) (nC : Nat) (nD : Nat) (d : Int32) (k : Int32) (k0 : F 0 = nI nC) (hC : nC ≤ 8) (k1 : F 1 = nI nD) : Met l yL_near wsL_near ({ frames := 7, cells := 1, slots := 6, locals := 104 } : Room) (tx_P Z D cl (lT kl ck) H0 [.ref (oa 0), .int d, .int k, .ref bo]) (ww_Q D cl (some (.int (if mrx_X_near (G 0) nC nD d k = 0 then 0 else 1 : Int32))) (lW bo kl (if mrx_X_near (G 0) nC nD d k = 0 then vp_updL fo 0 ((mr_X_near (G 0) (G 1) nC nD d k).toInt64) else fo) oa ca ck F G) (va_A (lW bo kl fo oa ca ck F G) H0.size)) 1 6 (va_A (lW bo kl fo oa ca ck F G) H0.size) := by
  refine wk_met (by decide) rfl (Nat.le_of_ble_eq_true rfl) hP hD ?_
  intro p e s m args below meth c Q A hadm hAe Sx hK hZw htab hP hD hS hA ls hl hret
  obtain ⟨hx, hb, hml, hown, hts⟩ := id Sx
  have hl : lv_has ls 5 [(0, .ref (oa 0)), (1, .int d), (2, .int k), (3, .ref bo)] := hl
  have hPc : va_P D cl (cW oa ca ck F G) H0 := fun k q hk => hP (k + 1) q hk
  have hDc : va_D (fun _ => True) (cW oa ca ck F G) := ⟨fun i j x z hi hj e9 => by have := hD.1 (i + 1) (j + 1) x z hi hj e9; omega, fun _ _ _ => trivial⟩
  have hKc : va_K D cl (cT ck) s := ⟨hK.1, fun k q hk => hK.2 (k + 1) q hk⟩
  have hZAc : ∀ q : Nat, q < Z.heap.size → ¬ va_A (cW oa ca ck F G) H0.size q := fun q hq h => hZA q hq (by rcases h with ⟨k, e9, h⟩ | h; exact Or.inl ⟨k + 1, e9, h⟩; exact Or.inr h)
  refine lv_aload_n hx hb dL_near_0 rfl (lv_at hl 3 rfl) ?_
  refine lv_iconst (v := 0) hx hb dL_near_1 (by decide) ?_
  refine lv_aload_n hx hb dL_near_2 rfl (lv_at hl 0 rfl) ?_
  refine lv_iload_n hx hb dL_near_3 rfl (lv_at hl 1 rfl) ?_
  refine lv_iload_n hx hb dL_near_4 rfl (lv_at hl 2 rfl) ?_
  rcases mrv_X_near (G 0) nC nD d k with h0 | h0
  · refine ro_callV (r := .int (mr_X_near (G 0) (G 1) nC nD d k)) (As := [.int d, .int k]) (rest := [.int 0, .ref bo]) Sx (c_X_near l D cl hcl oa ca ck F G hPc nC nD d k k0 hC k1 h0) (cwV 2 hts gL_near rfl rfl rfl (by decide +kernel) ⟨Nat.le_of_ble_eq_true rfl, Nat.le_of_ble_eq_true rfl⟩) hKc (va_recv hK hP (ci := 1) (q0 := 1) hcl.1 rfl) rfl hl.1 rfl (Nat.le_of_ble_eq_true rfl) dL_near_5 ⟨Nat.zero_le _, Nat.zero_le _⟩ ?_
    obtain ⟨H, eH⟩ : ∃ H : Heap, H = H0 := ⟨_, rfl⟩
    obtain ⟨locs, eL⟩ : ∃ L : List Loc, L = [] := ⟨_, rfl⟩
    rw [← eH] at hP
    have hS : va_S A H0 H locs := by rw [eH, eL]; exact hS
    rw [show (W p l e ({ frames := 7, cells := 1, slots := 6, locals := 104 } : Room) s m args below meth c H0 [] 0 0 Q) = (W p l e ({ frames := 7, cells := 1, slots := 6, locals := 104 } : Room) s m args below meth c H locs 0 0 Q) by rw [eH, eL]]
    clear eH eL
    refine lv_i2l hx hb dL_near_8 rfl ?_
    refine va_last (f := fo) (x := (mr_X_near (G 0) (G 1) nC nD d k).toInt64) hx hb hK hP hD hS 0 0 rfl rfl (show vp_in 0 1 by unfold vp_in; decide) dL_near_9 (fun H locs hP hD hS => ?_)
    rw [sb_cl0] at hP hD
    refine lv_goto (tgt := 17) hx hb dL_near_10 (by decide) ?_
    refine lv_iconst (v := 0) hx hb dL_near_17 (by decide) ?_
    refine W.widen (k := 1) (n := 6) (by decide) (by decide) ?_
    exact hret _ _ _ (lW bo kl (vp_updL fo 0 ((mr_X_near (G 0) (G 1) nC nD d k).toInt64)) oa ca ck F G) _ _ (by rw [if_pos h0]) (by rw [if_pos h0]) hP hD hS dL_near_18
  · have ht := t_X_near l hlt Z hZ.1 D cl hcl oa ca ck F G hPc hDc hZ0 hZH hZAc nC nD d k k0 hC k1 (by rw [h0]; decide)
    rw [h0, exn_1] at ht
    refine wk_throwV (Z := Z) (E := "java/lang/IndexOutOfBoundsException") (o := (bo, .inl (kl, 1, .inr (.inl fo)))) (w := cW oa ca ck F G) (w' := cW oa ca ck F G) (As := [.int d, .int k]) (rest := [.int 0, .ref bo]) Sx ht (cwV 2 hts gL_near rfl rfl rfl (by decide +kernel) ⟨Nat.le_of_ble_eq_true rfl, Nat.le_of_ble_eq_true rfl⟩) hKc hZw (va_recv hK hP (ci := 1) (q0 := 1) hcl.1 rfl) rfl hl.1 rfl (Nat.le_of_ble_eq_true rfl) dL_near_5 ⟨Nat.le_refl _, Nat.le_refl _⟩ hP hD hS hA (fun q ce H locs hq hv hcE hP hD hS => ?_)
    obtain ⟨x0, etab, ex0⟩ := tb1 htab
    have fx0 : x0.startPc = 0 ∧ x0.endPc = 10 ∧ x0.handlerPc = 13 ∧ x0.catchType = 21 := by simpa only [tb4, Prod.mk.injEq] using ex0
    refine tx_catch (cc := cL_near) (own := RL) hown [] x0 [] etab hq hv (Vm.classAt_of_findClass hcE) (fun y hy => absurd hy List.not_mem_nil) (cx_row hadm hown (tb_cov ex0 (by decide) (by decide)) (by rw [fx0.2.2.2]; decide) (by rw [fx0.2.2.2]; exact hts _ (List.mem_cons_of_mem _ (List.mem_append_left _ mxL_21))) (fit_yes hcE)) ?_
    rw [fx0.2.2.1]
    refine lv_astore (lv' := [(4, .ref q), (0, .ref (oa 0)), (1, .int d), (2, .int k), (3, .ref bo)]) hx hb dL_near_13 hl (by decide) rfl (fun ls hl => ?_)
    refine lv_iconst (v := 1) hx hb dL_near_15 (by decide) ?_
    exact hret _ _ _ (lW bo kl fo oa ca ck F G) _ _ (by rw [h0]; decide) (by rw [if_neg (show ¬ mrx_X_near (G 0) nC nD d k = 0 by rw [h0]; decide)]) hP hD hS dL_near_16
set_option maxHeartbeats 4000000 in
set_option maxRecDepth 100000 in
theorem w_slack (l : Launch) (hlt : l.stackTraces = false) (Z : State) (hZ : xZ Z) (D : va_G) (cl : List vw_C) (hcl : cOK cl) (oa ca : Nat → Nat) (ck : Nat → ClassId) (F : Nat → Int32) (G : Nat → Nat → Int32) {H0 : Heap} (bo : Nat) (kl : ClassId) (fo : Nat → Int64) (hP : va_P D cl (lW bo kl fo oa ca ck F G) H0) (hD : va_D (fun _ => True) (lW bo kl fo oa ca ck F G)) (hZ0 : Z.heap.size ≤ H0.size) (hZH : ∀ q : Nat, q < Z.heap.size → H0[q]? = Z.heap[q]?) (hZA : ∀ q : Nat, q < Z.heap.size → ¬ va_A (lW bo kl fo oa ca ck F G) H0.size q) (x : Int32) : Met l yL_slack wsL_slack ({ frames := 7, cells := 1, slots := 6, locals := 104 } : Room) (tx_P Z D cl (lT kl ck) H0 [.ref (oa 0), .int x, .ref bo]) (ww_Q D cl (some (.int (if mrx_X_slack x = 0 then 0 else 1 : Int32))) (lW bo kl (if mrx_X_slack x = 0 then vp_updL fo 0 (((mr_X_slack (F 10) x).1).toInt64) else fo) oa ca ck (upd F 10 ((mr_X_slack (F 10) x).2)) G) (va_A (lW bo kl fo oa ca ck F G) H0.size)) 1 6 (va_A (lW bo kl fo oa ca ck F G) H0.size) := by
  refine wk_met (by decide) rfl (Nat.le_of_ble_eq_true rfl) hP hD ?_
  intro p e s m args below meth c Q A hadm hAe Sx hK hZw htab hP hD hS hA ls hl hret
  obtain ⟨hx, hb, hml, hown, hts⟩ := id Sx
  have hl : lv_has ls 4 [(0, .ref (oa 0)), (1, .int x), (2, .ref bo)] := hl
  have hPc : va_P D cl (cW oa ca ck F G) H0 := fun k q hk => hP (k + 1) q hk
  have hDc : va_D (fun _ => True) (cW oa ca ck F G) := ⟨fun i j x z hi hj e9 => by have := hD.1 (i + 1) (j + 1) x z hi hj e9; omega, fun _ _ _ => trivial⟩
  have hKc : va_K D cl (cT ck) s := ⟨hK.1, fun k q hk => hK.2 (k + 1) q hk⟩
  have hZAc : ∀ q : Nat, q < Z.heap.size → ¬ va_A (cW oa ca ck F G) H0.size q := fun q hq h => hZA q hq (by rcases h with ⟨k, e9, h⟩ | h; exact Or.inl ⟨k + 1, e9, h⟩; exact Or.inr h)
  refine lv_aload_n hx hb dL_slack_0 rfl (lv_at hl 2 rfl) ?_
  refine lv_iconst (v := 0) hx hb dL_slack_1 (by decide) ?_
  refine lv_aload_n hx hb dL_slack_2 rfl (lv_at hl 0 rfl) ?_
  refine lv_iload_n hx hb dL_slack_3 rfl (lv_at hl 1 rfl) ?_
  rcases mrv_X_slack x with h0 | h0
  · refine wk_callV (o := (bo, .inl (kl, 1, .inr (.inl fo)))) (w := cW oa ca ck F G) (w' := cW oa ca ck (upd F 10 ((mr_X_slack (F 10) x).2)) G) (r := some (.int ((mr_X_slack (F 10) x).1))) (As := [.int x]) (rest := [.int 0, .ref bo]) Sx (c_X_slack l D cl hcl oa ca ck F G hPc hDc x h0) (cwV 1 hts gL_slack rfl rfl rfl (by decide +kernel) ⟨Nat.le_of_ble_eq_true rfl, Nat.le_of_ble_eq_true rfl⟩) hKc (va_recv hK hP (ci := 1) (q0 := 1) hcl.1 rfl) rfl hl.1 rfl (Nat.le_of_ble_eq_true rfl) dL_slack_4 ⟨Nat.zero_le _, Nat.zero_le _⟩ hP hD hS hA (fun H locs hP hD hS => ?_)
    refine lv_i2l hx hb dL_slack_7 rfl ?_
    refine va_last (f := fo) (x := ((mr_X_slack (F 10) x).1).toInt64) hx hb hK hP hD hS 0 0 rfl rfl (show vp_in 0 1 by unfold vp_in; decide) dL_slack_8 (fun H locs hP hD hS => ?_)
    rw [sb_cl0] at hP hD
    refine lv_goto (tgt := 15) hx hb dL_slack_9 (by decide) ?_
    refine lv_iconst (v := 0) hx hb dL_slack_15 (by decide) ?_
    refine W.widen (k := 1) (n := 6) (by decide) (by decide) ?_
    exact hret _ _ _ (lW bo kl (vp_updL fo 0 (((mr_X_slack (F 10) x).1).toInt64)) oa ca ck (upd F 10 ((mr_X_slack (F 10) x).2)) G) _ _ (by rw [if_pos h0]) (by rw [if_pos h0]) hP hD hS dL_slack_16
  · have ht := t_X_slack l hlt Z hZ.1 D cl hcl oa ca ck F G hPc hDc hZ0 hZH hZAc x (by rw [h0]; decide)
    rw [h0, exn_2] at ht
    refine wk_throwV (Z := Z) (E := "java/lang/IllegalArgumentException") (o := (bo, .inl (kl, 1, .inr (.inl fo)))) (w := cW oa ca ck F G) (w' := cW oa ca ck (upd F 10 ((mr_X_slack (F 10) x).2)) G) (As := [.int x]) (rest := [.int 0, .ref bo]) Sx ht (cwV 1 hts gL_slack rfl rfl rfl (by decide +kernel) ⟨Nat.le_of_ble_eq_true rfl, Nat.le_of_ble_eq_true rfl⟩) hKc hZw (va_recv hK hP (ci := 1) (q0 := 1) hcl.1 rfl) rfl hl.1 rfl (Nat.le_of_ble_eq_true rfl) dL_slack_4 ⟨Nat.le_refl _, Nat.le_refl _⟩ hP hD hS hA (fun q ce H locs hq hv hcE hP hD hS => ?_)
    obtain ⟨x0, etab, ex0⟩ := tb1 htab
    have fx0 : x0.startPc = 0 ∧ x0.endPc = 9 ∧ x0.handlerPc = 12 ∧ x0.catchType = 13 := by simpa only [tb4, Prod.mk.injEq] using ex0
    refine tx_catch (cc := cL_slack) (own := RL) hown [] x0 [] etab hq hv (Vm.classAt_of_findClass hcE) (fun y hy => absurd hy List.not_mem_nil) (cx_row hadm hown (tb_cov ex0 (by decide) (by decide)) (by rw [fx0.2.2.2]; decide) (by rw [fx0.2.2.2]; exact hts _ (List.mem_cons_of_mem _ (List.mem_append_left _ mxL_13))) (fit_yes hcE)) ?_
    rw [fx0.2.2.1]
    refine lv_astore_n (lv' := [(3, .ref q), (0, .ref (oa 0)), (1, .int x), (2, .ref bo)]) hx hb dL_slack_12 rfl hl (by decide) rfl (fun ls hl => ?_)
    refine lv_iconst (v := 1) hx hb dL_slack_13 (by decide) ?_
    exact hret _ _ _ (lW bo kl fo oa ca ck (upd F 10 ((mr_X_slack (F 10) x).2)) G) _ _ (by rw [h0]; decide) (by rw [if_neg (show ¬ mrx_X_slack x = 0 by rw [h0]; decide)]) hP hD hS dL_slack_14
set_option maxHeartbeats 4000000 in
set_option maxRecDepth 100000 in
theorem w_walk (l : Launch) (hlt : l.stackTraces = false) (Z : State) (hZ : xZ Z) (D : va_G) (cl : List vw_C) (hcl : cOK cl) (oa ca : Nat → Nat) (ck : Nat → ClassId) (F : Nat → Int32) (G : Nat → Nat → Int32) {H0 : Heap} (bo : Nat) (kl : ClassId) (fo : Nat → Int64) (hP : va_P D cl (lW bo kl fo oa ca ck F G) H0) (hD : va_D (fun _ => True) (lW bo kl fo oa ca ck F G)) (hZ0 : Z.heap.size ≤ H0.size) (hZH : ∀ q : Nat, q < Z.heap.size → H0[q]? = Z.heap[q]?) (hZA : ∀ q : Nat, q < Z.heap.size → ¬ va_A (lW bo kl fo oa ca ck F G) H0.size q) (nC : Nat) (nD : Nat) (d : Int32) (sp : Int32) (k0 : F 0 = nI nC) (hC : nC ≤ 8) (s0 : ∀ c, c < nC → ∃ z : Nat, G 0 c = nI z ∧ 2 ≤ z ∧ z ≤ 6) (s1 : ∀ c, c < nC → G 1 c = nI (pc_ (zg (G 0)) nC c)) (hmp : mp (zg (G 0)) 0 nC = nD) (k1 : F 1 = nI nD) (hN : nD ≤ 4096) : Met l yL_walk wsL_walk ({ frames := 7, cells := 1, slots := 6, locals := 126 } : Room) (tx_P Z D cl (lT kl ck) H0 [.ref (oa 0), .int d, .int sp, .ref bo]) (ww_Q D cl (some (.int (if mrx_X_walk (G 8) (G 9) (G 10) (G 11) nC nD d sp = 0 then 0 else if mrx_X_walk (G 8) (G 9) (G 10) (G 11) nC nD d sp = 1 then 1 else if mrx_X_walk (G 8) (G 9) (G 10) (G 11) nC nD d sp = 2 then 2 else 3 : Int32))) (lW bo kl (if mrx_X_walk (G 8) (G 9) (G 10) (G 11) nC nD d sp = 0 then vp_updL fo 0 (((mr_X_walk (F 9) (F 10) (F 11) (F 12) (G 0) (G 1) (G 8) (G 9) (G 10) (G 11) nC nD d sp).1).toInt64) else fo) oa ca ck (upd (upd (upd F 9 ((mr_X_walk (F 9) (F 10) (F 11) (F 12) (G 0) (G 1) (G 8) (G 9) (G 10) (G 11) nC nD d sp).2.1)) 11 ((mr_X_walk (F 9) (F 10) (F 11) (F 12) (G 0) (G 1) (G 8) (G 9) (G 10) (G 11) nC nD d sp).2.2.1)) 12 ((mr_X_walk (F 9) (F 10) (F 11) (F 12) (G 0) (G 1) (G 8) (G 9) (G 10) (G 11) nC nD d sp).2.2.2)) G) (va_A (lW bo kl fo oa ca ck F G) H0.size)) 1 6 (va_A (lW bo kl fo oa ca ck F G) H0.size) := by
  refine wk_met (by decide) rfl (Nat.le_of_ble_eq_true rfl) hP hD ?_
  intro p e s m args below meth c Q A hadm hAe Sx hK hZw htab hP hD hS hA ls hl hret
  obtain ⟨hx, hb, hml, hown, hts⟩ := id Sx
  have hl : lv_has ls 5 [(0, .ref (oa 0)), (1, .int d), (2, .int sp), (3, .ref bo)] := hl
  have hPc : va_P D cl (cW oa ca ck F G) H0 := fun k q hk => hP (k + 1) q hk
  have hDc : va_D (fun _ => True) (cW oa ca ck F G) := ⟨fun i j x z hi hj e9 => by have := hD.1 (i + 1) (j + 1) x z hi hj e9; omega, fun _ _ _ => trivial⟩
  have hKc : va_K D cl (cT ck) s := ⟨hK.1, fun k q hk => hK.2 (k + 1) q hk⟩
  have hZAc : ∀ q : Nat, q < Z.heap.size → ¬ va_A (cW oa ca ck F G) H0.size q := fun q hq h => hZA q hq (by rcases h with ⟨k, e9, h⟩ | h; exact Or.inl ⟨k + 1, e9, h⟩; exact Or.inr h)
  refine lv_aload_n hx hb dL_walk_0 rfl (lv_at hl 3 rfl) ?_
  refine lv_iconst (v := 0) hx hb dL_walk_1 (by decide) ?_
  refine lv_aload_n hx hb dL_walk_2 rfl (lv_at hl 0 rfl) ?_
  refine lv_iload_n hx hb dL_walk_3 rfl (lv_at hl 1 rfl) ?_
  refine lv_iload_n hx hb dL_walk_4 rfl (lv_at hl 2 rfl) ?_
  rcases mrv_X_walk (G 8) (G 9) (G 10) (G 11) nC nD d sp with h0 | h0 | h0 | h0
  · refine wk_callV (o := (bo, .inl (kl, 1, .inr (.inl fo)))) (w := cW oa ca ck F G) (w' := cW oa ca ck (upd (upd (upd F 9 ((mr_X_walk (F 9) (F 10) (F 11) (F 12) (G 0) (G 1) (G 8) (G 9) (G 10) (G 11) nC nD d sp).2.1)) 11 ((mr_X_walk (F 9) (F 10) (F 11) (F 12) (G 0) (G 1) (G 8) (G 9) (G 10) (G 11) nC nD d sp).2.2.1)) 12 ((mr_X_walk (F 9) (F 10) (F 11) (F 12) (G 0) (G 1) (G 8) (G 9) (G 10) (G 11) nC nD d sp).2.2.2)) G) (r := some (.int ((mr_X_walk (F 9) (F 10) (F 11) (F 12) (G 0) (G 1) (G 8) (G 9) (G 10) (G 11) nC nD d sp).1))) (As := [.int d, .int sp]) (rest := [.int 0, .ref bo]) Sx (c_X_walk l D cl hcl oa ca ck F G hPc hDc nC nD d sp k0 hC s0 s1 hmp k1 hN h0) (cwV 2 hts gL_walk rfl rfl rfl (by decide +kernel) ⟨Nat.le_of_ble_eq_true rfl, Nat.le_of_ble_eq_true rfl⟩) hKc (va_recv hK hP (ci := 1) (q0 := 1) hcl.1 rfl) rfl hl.1 rfl (Nat.le_of_ble_eq_true rfl) dL_walk_5 ⟨Nat.zero_le _, Nat.zero_le _⟩ hP hD hS hA (fun H locs hP hD hS => ?_)
    refine lv_i2l hx hb dL_walk_8 rfl ?_
    refine va_last (f := fo) (x := ((mr_X_walk (F 9) (F 10) (F 11) (F 12) (G 0) (G 1) (G 8) (G 9) (G 10) (G 11) nC nD d sp).1).toInt64) hx hb hK hP hD hS 0 0 rfl rfl (show vp_in 0 1 by unfold vp_in; decide) dL_walk_9 (fun H locs hP hD hS => ?_)
    rw [sb_cl0] at hP hD
    refine lv_goto (tgt := 25) hx hb dL_walk_10 (by decide) ?_
    refine lv_iconst (v := 0) hx hb dL_walk_25 (by decide) ?_
    refine W.widen (k := 1) (n := 6) (by decide) (by decide) ?_
    exact hret _ _ _ (lW bo kl (vp_updL fo 0 (((mr_X_walk (F 9) (F 10) (F 11) (F 12) (G 0) (G 1) (G 8) (G 9) (G 10) (G 11) nC nD d sp).1).toInt64)) oa ca ck (upd (upd (upd F 9 ((mr_X_walk (F 9) (F 10) (F 11) (F 12) (G 0) (G 1) (G 8) (G 9) (G 10) (G 11) nC nD d sp).2.1)) 11 ((mr_X_walk (F 9) (F 10) (F 11) (F 12) (G 0) (G 1) (G 8) (G 9) (G 10) (G 11) nC nD d sp).2.2.1)) 12 ((mr_X_walk (F 9) (F 10) (F 11) (F 12) (G 0) (G 1) (G 8) (G 9) (G 10) (G 11) nC nD d sp).2.2.2)) G) _ _ (by rw [if_pos h0]) (by rw [if_pos h0]) hP hD hS dL_walk_26
  · have ht := t_X_walk l hlt Z hZ.1 D cl hcl oa ca ck F G hPc hDc hZ0 hZH hZAc nC nD d sp k0 hC s0 s1 hmp k1 hN (by rw [h0]; decide)
    rw [h0, exn_1] at ht
    refine wk_throwV (Z := Z) (E := "java/lang/IndexOutOfBoundsException") (o := (bo, .inl (kl, 1, .inr (.inl fo)))) (w := cW oa ca ck F G) (w' := cW oa ca ck (upd (upd (upd F 9 ((mr_X_walk (F 9) (F 10) (F 11) (F 12) (G 0) (G 1) (G 8) (G 9) (G 10) (G 11) nC nD d sp).2.1)) 11 ((mr_X_walk (F 9) (F 10) (F 11) (F 12) (G 0) (G 1) (G 8) (G 9) (G 10) (G 11) nC nD d sp).2.2.1)) 12 ((mr_X_walk (F 9) (F 10) (F 11) (F 12) (G 0) (G 1) (G 8) (G 9) (G 10) (G 11) nC nD d sp).2.2.2)) G) (As := [.int d, .int sp]) (rest := [.int 0, .ref bo]) Sx ht (cwV 2 hts gL_walk rfl rfl rfl (by decide +kernel) ⟨Nat.le_of_ble_eq_true rfl, Nat.le_of_ble_eq_true rfl⟩) hKc hZw (va_recv hK hP (ci := 1) (q0 := 1) hcl.1 rfl) rfl hl.1 rfl (Nat.le_of_ble_eq_true rfl) dL_walk_5 ⟨Nat.le_refl _, Nat.le_refl _⟩ hP hD hS hA (fun q ce H locs hq hv hcE hP hD hS => ?_)
    obtain ⟨x0, x1, x2, etab, ex0, ex1, ex2⟩ := tb3 htab
    have fx0 : x0.startPc = 0 ∧ x0.endPc = 10 ∧ x0.handlerPc = 13 ∧ x0.catchType = 21 := by simpa only [tb4, Prod.mk.injEq] using ex0
    have fx1 : x1.startPc = 0 ∧ x1.endPc = 10 ∧ x1.handlerPc = 17 ∧ x1.catchType = 13 := by simpa only [tb4, Prod.mk.injEq] using ex1
    have fx2 : x2.startPc = 0 ∧ x2.endPc = 10 ∧ x2.handlerPc = 21 ∧ x2.catchType = 65 := by simpa only [tb4, Prod.mk.injEq] using ex2
    refine tx_catch (cc := cL_walk) (own := RL) hown [] x0 [x1, x2] etab hq hv (Vm.classAt_of_findClass hcE) (fun y hy => absurd hy List.not_mem_nil) (cx_row hadm hown (tb_cov ex0 (by decide) (by decide)) (by rw [fx0.2.2.2]; decide) (by rw [fx0.2.2.2]; exact hts _ (List.mem_cons_of_mem _ (List.mem_append_left _ mxL_21))) (fit_yes hcE)) ?_
    rw [fx0.2.2.1]
    refine lv_astore (lv' := [(4, .ref q), (0, .ref (oa 0)), (1, .int d), (2, .int sp), (3, .ref bo)]) hx hb dL_walk_13 hl (by decide) rfl (fun ls hl => ?_)
    refine lv_iconst (v := 1) hx hb dL_walk_15 (by decide) ?_
    exact hret _ _ _ (lW bo kl fo oa ca ck (upd (upd (upd F 9 ((mr_X_walk (F 9) (F 10) (F 11) (F 12) (G 0) (G 1) (G 8) (G 9) (G 10) (G 11) nC nD d sp).2.1)) 11 ((mr_X_walk (F 9) (F 10) (F 11) (F 12) (G 0) (G 1) (G 8) (G 9) (G 10) (G 11) nC nD d sp).2.2.1)) 12 ((mr_X_walk (F 9) (F 10) (F 11) (F 12) (G 0) (G 1) (G 8) (G 9) (G 10) (G 11) nC nD d sp).2.2.2)) G) _ _ (by rw [h0]; decide) (by rw [if_neg (show ¬ mrx_X_walk (G 8) (G 9) (G 10) (G 11) nC nD d sp = 0 by rw [h0]; decide)]) hP hD hS dL_walk_16
  · have ht := t_X_walk l hlt Z hZ.1 D cl hcl oa ca ck F G hPc hDc hZ0 hZH hZAc nC nD d sp k0 hC s0 s1 hmp k1 hN (by rw [h0]; decide)
    rw [h0, exn_2] at ht
    refine wk_throwV (Z := Z) (E := "java/lang/IllegalArgumentException") (o := (bo, .inl (kl, 1, .inr (.inl fo)))) (w := cW oa ca ck F G) (w' := cW oa ca ck (upd (upd (upd F 9 ((mr_X_walk (F 9) (F 10) (F 11) (F 12) (G 0) (G 1) (G 8) (G 9) (G 10) (G 11) nC nD d sp).2.1)) 11 ((mr_X_walk (F 9) (F 10) (F 11) (F 12) (G 0) (G 1) (G 8) (G 9) (G 10) (G 11) nC nD d sp).2.2.1)) 12 ((mr_X_walk (F 9) (F 10) (F 11) (F 12) (G 0) (G 1) (G 8) (G 9) (G 10) (G 11) nC nD d sp).2.2.2)) G) (As := [.int d, .int sp]) (rest := [.int 0, .ref bo]) Sx ht (cwV 2 hts gL_walk rfl rfl rfl (by decide +kernel) ⟨Nat.le_of_ble_eq_true rfl, Nat.le_of_ble_eq_true rfl⟩) hKc hZw (va_recv hK hP (ci := 1) (q0 := 1) hcl.1 rfl) rfl hl.1 rfl (Nat.le_of_ble_eq_true rfl) dL_walk_5 ⟨Nat.le_refl _, Nat.le_refl _⟩ hP hD hS hA (fun q ce H locs hq hv hcE hP hD hS => ?_)
    obtain ⟨x0, x1, x2, etab, ex0, ex1, ex2⟩ := tb3 htab
    have fx0 : x0.startPc = 0 ∧ x0.endPc = 10 ∧ x0.handlerPc = 13 ∧ x0.catchType = 21 := by simpa only [tb4, Prod.mk.injEq] using ex0
    have fx1 : x1.startPc = 0 ∧ x1.endPc = 10 ∧ x1.handlerPc = 17 ∧ x1.catchType = 13 := by simpa only [tb4, Prod.mk.injEq] using ex1
    have fx2 : x2.startPc = 0 ∧ x2.endPc = 10 ∧ x2.handlerPc = 21 ∧ x2.catchType = 65 := by simpa only [tb4, Prod.mk.injEq] using ex2
    refine tx_catch (cc := cL_walk) (own := RL) hown [x0] x1 [x2] etab hq hv (Vm.classAt_of_findClass hcE) (fun y hy => by rw [List.mem_singleton.mp hy]; exact cx_row hadm hown (tb_cov ex0 (by decide) (by decide)) (by rw [fx0.2.2.2]; decide) (by rw [fx0.2.2.2]; exact hts _ (List.mem_cons_of_mem _ (List.mem_append_left _ mxL_21))) (fit_no hZ hZw (by decide) (by decide) (by decide) hcE)) (cx_row hadm hown (tb_cov ex1 (by decide) (by decide)) (by rw [fx1.2.2.2]; decide) (by rw [fx1.2.2.2]; exact hts _ (List.mem_cons_of_mem _ (List.mem_append_left _ mxL_13))) (fit_yes hcE)) ?_
    rw [fx1.2.2.1]
    refine lv_astore (lv' := [(4, .ref q), (0, .ref (oa 0)), (1, .int d), (2, .int sp), (3, .ref bo)]) hx hb dL_walk_17 hl (by decide) rfl (fun ls hl => ?_)
    refine lv_iconst (v := 2) hx hb dL_walk_19 (by decide) ?_
    exact hret _ _ _ (lW bo kl fo oa ca ck (upd (upd (upd F 9 ((mr_X_walk (F 9) (F 10) (F 11) (F 12) (G 0) (G 1) (G 8) (G 9) (G 10) (G 11) nC nD d sp).2.1)) 11 ((mr_X_walk (F 9) (F 10) (F 11) (F 12) (G 0) (G 1) (G 8) (G 9) (G 10) (G 11) nC nD d sp).2.2.1)) 12 ((mr_X_walk (F 9) (F 10) (F 11) (F 12) (G 0) (G 1) (G 8) (G 9) (G 10) (G 11) nC nD d sp).2.2.2)) G) _ _ (by rw [h0]; decide) (by rw [if_neg (show ¬ mrx_X_walk (G 8) (G 9) (G 10) (G 11) nC nD d sp = 0 by rw [h0]; decide)]) hP hD hS dL_walk_20
  · have ht := t_X_walk l hlt Z hZ.1 D cl hcl oa ca ck F G hPc hDc hZ0 hZH hZAc nC nD d sp k0 hC s0 s1 hmp k1 hN (by rw [h0]; decide)
    rw [h0, exn_4] at ht
    refine wk_throwV (Z := Z) (E := "java/lang/IllegalStateException") (o := (bo, .inl (kl, 1, .inr (.inl fo)))) (w := cW oa ca ck F G) (w' := cW oa ca ck (upd (upd (upd F 9 ((mr_X_walk (F 9) (F 10) (F 11) (F 12) (G 0) (G 1) (G 8) (G 9) (G 10) (G 11) nC nD d sp).2.1)) 11 ((mr_X_walk (F 9) (F 10) (F 11) (F 12) (G 0) (G 1) (G 8) (G 9) (G 10) (G 11) nC nD d sp).2.2.1)) 12 ((mr_X_walk (F 9) (F 10) (F 11) (F 12) (G 0) (G 1) (G 8) (G 9) (G 10) (G 11) nC nD d sp).2.2.2)) G) (As := [.int d, .int sp]) (rest := [.int 0, .ref bo]) Sx ht (cwV 2 hts gL_walk rfl rfl rfl (by decide +kernel) ⟨Nat.le_of_ble_eq_true rfl, Nat.le_of_ble_eq_true rfl⟩) hKc hZw (va_recv hK hP (ci := 1) (q0 := 1) hcl.1 rfl) rfl hl.1 rfl (Nat.le_of_ble_eq_true rfl) dL_walk_5 ⟨Nat.le_refl _, Nat.le_refl _⟩ hP hD hS hA (fun q ce H locs hq hv hcE hP hD hS => ?_)
    obtain ⟨x0, x1, x2, etab, ex0, ex1, ex2⟩ := tb3 htab
    have fx0 : x0.startPc = 0 ∧ x0.endPc = 10 ∧ x0.handlerPc = 13 ∧ x0.catchType = 21 := by simpa only [tb4, Prod.mk.injEq] using ex0
    have fx1 : x1.startPc = 0 ∧ x1.endPc = 10 ∧ x1.handlerPc = 17 ∧ x1.catchType = 13 := by simpa only [tb4, Prod.mk.injEq] using ex1
    have fx2 : x2.startPc = 0 ∧ x2.endPc = 10 ∧ x2.handlerPc = 21 ∧ x2.catchType = 65 := by simpa only [tb4, Prod.mk.injEq] using ex2
    have hps : ∀ y ∈ [x0, x1], cx_R e s (F0 m 5 ls [.int 0, .ref bo]) ce.cls false y := by
      intro y hy
      rcases List.mem_cons.mp hy with hy | hy
      · rw [hy]; exact cx_row hadm hown (tb_cov ex0 (by decide) (by decide)) (by rw [fx0.2.2.2]; decide) (by rw [fx0.2.2.2]; exact hts _ (List.mem_cons_of_mem _ (List.mem_append_left _ mxL_21))) (fit_no hZ hZw (by decide) (by decide) (by decide) hcE)
      · rw [List.mem_singleton.mp hy]; exact cx_row hadm hown (tb_cov ex1 (by decide) (by decide)) (by rw [fx1.2.2.2]; decide) (by rw [fx1.2.2.2]; exact hts _ (List.mem_cons_of_mem _ (List.mem_append_left _ mxL_13))) (fit_no hZ hZw (by decide) (by decide) (by decide) hcE)
    refine tx_catch (cc := cL_walk) (own := RL) hown [x0, x1] x2 [] etab hq hv (Vm.classAt_of_findClass hcE) hps (cx_row hadm hown (tb_cov ex2 (by decide) (by decide)) (by rw [fx2.2.2.2]; decide) (by rw [fx2.2.2.2]; exact hts _ (List.mem_cons_of_mem _ (List.mem_append_left _ mxL_65))) (fit_yes hcE)) ?_
    rw [fx2.2.2.1]
    refine lv_astore (lv' := [(4, .ref q), (0, .ref (oa 0)), (1, .int d), (2, .int sp), (3, .ref bo)]) hx hb dL_walk_21 hl (by decide) rfl (fun ls hl => ?_)
    refine lv_iconst (v := 3) hx hb dL_walk_23 (by decide) ?_
    exact hret _ _ _ (lW bo kl fo oa ca ck (upd (upd (upd F 9 ((mr_X_walk (F 9) (F 10) (F 11) (F 12) (G 0) (G 1) (G 8) (G 9) (G 10) (G 11) nC nD d sp).2.1)) 11 ((mr_X_walk (F 9) (F 10) (F 11) (F 12) (G 0) (G 1) (G 8) (G 9) (G 10) (G 11) nC nD d sp).2.2.1)) 12 ((mr_X_walk (F 9) (F 10) (F 11) (F 12) (G 0) (G 1) (G 8) (G 9) (G 10) (G 11) nC nD d sp).2.2.2)) G) _ _ (by rw [h0]; decide) (by rw [if_neg (show ¬ mrx_X_walk (G 8) (G 9) (G 10) (G 11) nC nD d sp = 0 by rw [h0]; decide)]) hP hD hS dL_walk_24
set_option maxHeartbeats 4000000 in
set_option maxRecDepth 100000 in
theorem w_matters (l : Launch) (hlt : l.stackTraces = false) (Z : State) (hZ : xZ Z) (D : va_G) (cl : List vw_C) (hcl : cOK cl) (oa ca : Nat → Nat) (ck : Nat → ClassId) (F : Nat → Int32) (G : Nat → Nat → Int32) {H0 : Heap} (bo : Nat) (kl : ClassId) (fo : Nat → Int64) (hP : va_P D cl (lW bo kl fo oa ca ck F G) H0) (hD : va_D (fun _ => True) (lW bo kl fo oa ca ck F G)) (hZ0 : Z.heap.size ≤ H0.size) (hZH : ∀ q : Nat, q < Z.heap.size → H0[q]? = Z.heap[q]?) (hZA : ∀ q : Nat, q < Z.heap.size → ¬ va_A (lW bo kl fo oa ca ck F G) H0.size q) (nC : Nat) (nD : Nat) (ch : Int32) (nu : Int32) (k0 : F 0 = nI nC) (hC : nC ≤ 8) (k1 : F 1 = nI nD) (hN : nD ≤ 4096) (s0 : ∀ c, c < nC → ∃ z : Nat, G 0 c = nI z ∧ 2 ≤ z ∧ z ≤ 6) (s1 : ∀ c, c < nC → G 1 c = nI (pc_ (zg (G 0)) nC c)) (hmp : mp (zg (G 0)) 0 nC = nD) : Met l yL_matters wsL_matters ({ frames := 7, cells := 1, slots := 6, locals := 123 } : Room) (tx_P Z D cl (lT kl ck) H0 [.ref (oa 0), .int ch, .int nu, .ref bo]) (ww_Q D cl (some (.int (if mrx_X_matters nC nD ch nu = 0 then 0 else 1 : Int32))) (lW bo kl (if mrx_X_matters nC nD ch nu = 0 then vp_updL fo 0 (mr_X_matters (G 0) (G 1) (G 8) (G 9) (G 10) (G 11) nC nD ch nu) else fo) oa ca ck F G) (va_A (lW bo kl fo oa ca ck F G) H0.size)) 1 6 (va_A (lW bo kl fo oa ca ck F G) H0.size) := by
  refine wk_met (by decide) rfl (Nat.le_of_ble_eq_true rfl) hP hD ?_
  intro p e s m args below meth c Q A hadm hAe Sx hK hZw htab hP hD hS hA ls hl hret
  obtain ⟨hx, hb, hml, hown, hts⟩ := id Sx
  have hl : lv_has ls 5 [(0, .ref (oa 0)), (1, .int ch), (2, .int nu), (3, .ref bo)] := hl
  have hPc : va_P D cl (cW oa ca ck F G) H0 := fun k q hk => hP (k + 1) q hk
  have hDc : va_D (fun _ => True) (cW oa ca ck F G) := ⟨fun i j x z hi hj e9 => by have := hD.1 (i + 1) (j + 1) x z hi hj e9; omega, fun _ _ _ => trivial⟩
  have hKc : va_K D cl (cT ck) s := ⟨hK.1, fun k q hk => hK.2 (k + 1) q hk⟩
  have hZAc : ∀ q : Nat, q < Z.heap.size → ¬ va_A (cW oa ca ck F G) H0.size q := fun q hq h => hZA q hq (by rcases h with ⟨k, e9, h⟩ | h; exact Or.inl ⟨k + 1, e9, h⟩; exact Or.inr h)
  refine lv_aload_n hx hb dL_matters_0 rfl (lv_at hl 3 rfl) ?_
  refine lv_iconst (v := 0) hx hb dL_matters_1 (by decide) ?_
  refine lv_aload_n hx hb dL_matters_2 rfl (lv_at hl 0 rfl) ?_
  refine lv_iload_n hx hb dL_matters_3 rfl (lv_at hl 1 rfl) ?_
  refine lv_iload_n hx hb dL_matters_4 rfl (lv_at hl 2 rfl) ?_
  rcases mrv_X_matters nC nD ch nu with h0 | h0
  · refine ro_callV (r := .long (mr_X_matters (G 0) (G 1) (G 8) (G 9) (G 10) (G 11) nC nD ch nu)) (As := [.int ch, .int nu]) (rest := [.int 0, .ref bo]) Sx (c_X_matters l D cl hcl oa ca ck F G hPc nC nD ch nu k0 hC k1 hN s0 s1 hmp h0) (cwV 2 hts gL_matters rfl rfl rfl (by decide +kernel) ⟨Nat.le_of_ble_eq_true rfl, Nat.le_of_ble_eq_true rfl⟩) hKc (va_recv hK hP (ci := 1) (q0 := 1) hcl.1 rfl) rfl hl.1 rfl (Nat.le_of_ble_eq_true rfl) dL_matters_5 ⟨Nat.zero_le _, Nat.zero_le _⟩ ?_
    obtain ⟨H, eH⟩ : ∃ H : Heap, H = H0 := ⟨_, rfl⟩
    obtain ⟨locs, eL⟩ : ∃ L : List Loc, L = [] := ⟨_, rfl⟩
    rw [← eH] at hP
    have hS : va_S A H0 H locs := by rw [eH, eL]; exact hS
    rw [show (W p l e ({ frames := 7, cells := 1, slots := 6, locals := 123 } : Room) s m args below meth c H0 [] 0 0 Q) = (W p l e ({ frames := 7, cells := 1, slots := 6, locals := 123 } : Room) s m args below meth c H locs 0 0 Q) by rw [eH, eL]]
    clear eH eL
    refine va_last (f := fo) (x := mr_X_matters (G 0) (G 1) (G 8) (G 9) (G 10) (G 11) nC nD ch nu) hx hb hK hP hD hS 0 0 rfl rfl (show vp_in 0 1 by unfold vp_in; decide) dL_matters_8 (fun H locs hP hD hS => ?_)
    rw [sb_cl0] at hP hD
    refine lv_goto (tgt := 16) hx hb dL_matters_9 (by decide) ?_
    refine lv_iconst (v := 0) hx hb dL_matters_16 (by decide) ?_
    refine W.widen (k := 1) (n := 6) (by decide) (by decide) ?_
    exact hret _ _ _ (lW bo kl (vp_updL fo 0 (mr_X_matters (G 0) (G 1) (G 8) (G 9) (G 10) (G 11) nC nD ch nu)) oa ca ck F G) _ _ (by rw [if_pos h0]) (by rw [if_pos h0]) hP hD hS dL_matters_17
  · have ht := t_X_matters l hlt Z hZ.1 D cl hcl oa ca ck F G hPc hDc hZ0 hZH hZAc nC nD ch nu k0 hC k1 hN s0 s1 hmp (by rw [h0]; decide)
    rw [h0, exn_1] at ht
    refine wk_throwV (Z := Z) (E := "java/lang/IndexOutOfBoundsException") (o := (bo, .inl (kl, 1, .inr (.inl fo)))) (w := cW oa ca ck F G) (w' := cW oa ca ck F G) (As := [.int ch, .int nu]) (rest := [.int 0, .ref bo]) Sx ht (cwV 2 hts gL_matters rfl rfl rfl (by decide +kernel) ⟨Nat.le_of_ble_eq_true rfl, Nat.le_of_ble_eq_true rfl⟩) hKc hZw (va_recv hK hP (ci := 1) (q0 := 1) hcl.1 rfl) rfl hl.1 rfl (Nat.le_of_ble_eq_true rfl) dL_matters_5 ⟨Nat.le_refl _, Nat.le_refl _⟩ hP hD hS hA (fun q ce H locs hq hv hcE hP hD hS => ?_)
    obtain ⟨x0, etab, ex0⟩ := tb1 htab
    have fx0 : x0.startPc = 0 ∧ x0.endPc = 9 ∧ x0.handlerPc = 12 ∧ x0.catchType = 21 := by simpa only [tb4, Prod.mk.injEq] using ex0
    refine tx_catch (cc := cL_matters) (own := RL) hown [] x0 [] etab hq hv (Vm.classAt_of_findClass hcE) (fun y hy => absurd hy List.not_mem_nil) (cx_row hadm hown (tb_cov ex0 (by decide) (by decide)) (by rw [fx0.2.2.2]; decide) (by rw [fx0.2.2.2]; exact hts _ (List.mem_cons_of_mem _ (List.mem_append_left _ mxL_21))) (fit_yes hcE)) ?_
    rw [fx0.2.2.1]
    refine lv_astore (lv' := [(4, .ref q), (0, .ref (oa 0)), (1, .int ch), (2, .int nu), (3, .ref bo)]) hx hb dL_matters_12 hl (by decide) rfl (fun ls hl => ?_)
    refine lv_iconst (v := 1) hx hb dL_matters_14 (by decide) ?_
    exact hret _ _ _ (lW bo kl fo oa ca ck F G) _ _ (by rw [h0]; decide) (by rw [if_neg (show ¬ mrx_X_matters nC nD ch nu = 0 by rw [h0]; decide)]) hP hD hS dL_matters_15
set_option maxHeartbeats 4000000 in
set_option maxRecDepth 100000 in
theorem w_sweep (l : Launch) (hlt : l.stackTraces = false) (Z : State) (hZ : xZ Z) (D : va_G) (cl : List vw_C) (hcl : cOK cl) (oa ca : Nat → Nat) (ck : Nat → ClassId) (F : Nat → Int32) (G : Nat → Nat → Int32) {H0 : Heap} (bo : Nat) (kl : ClassId) (fo : Nat → Int64) (hP : va_P D cl (lW bo kl fo oa ca ck F G) H0) (hD : va_D (fun _ => True) (lW bo kl fo oa ca ck F G)) (hZ0 : Z.heap.size ≤ H0.size) (hZH : ∀ q : Nat, q < Z.heap.size → H0[q]? = Z.heap[q]?) (hZA : ∀ q : Nat, q < Z.heap.size → ¬ va_A (lW bo kl fo oa ca ck F G) H0.size q) (nD : Nat) (pl : Nat) (n : Int32) (k1 : F 1 = nI nD) (hN : nD ≤ 4096) (k13 : F 13 = nI pl) (hpl : pl ≤ nD) : Met l yL_sweep wsL_sweep ({ frames := 7, cells := 1, slots := 6, locals := 103 } : Room) (tx_P Z D cl (lT kl ck) H0 [.ref (oa 0), .int n, .ref bo]) (ww_Q D cl (some (.int (if mrx_X_sweep (F 1) (F 13) nD pl n = 0 then 0 else if mrx_X_sweep (F 1) (F 13) nD pl n = 2 then 1 else 2 : Int32))) (lW bo kl (if mrx_X_sweep (F 1) (F 13) nD pl n = 0 then vp_updL fo 0 (((mr_X_sweep (F 1) (F 13) (F 14) (G 8) (G 9) (G 10) (G 11) nD pl n).1).toInt64) else fo) oa ca ck (upd (upd F 13 ((mr_X_sweep (F 1) (F 13) (F 14) (G 8) (G 9) (G 10) (G 11) nD pl n).2.1)) 14 ((mr_X_sweep (F 1) (F 13) (F 14) (G 8) (G 9) (G 10) (G 11) nD pl n).2.2)) G) (va_A (lW bo kl fo oa ca ck F G) H0.size)) 1 6 (va_A (lW bo kl fo oa ca ck F G) H0.size) := by
  refine wk_met (by decide) rfl (Nat.le_of_ble_eq_true rfl) hP hD ?_
  intro p e s m args below meth c Q A hadm hAe Sx hK hZw htab hP hD hS hA ls hl hret
  obtain ⟨hx, hb, hml, hown, hts⟩ := id Sx
  have hl : lv_has ls 4 [(0, .ref (oa 0)), (1, .int n), (2, .ref bo)] := hl
  have hPc : va_P D cl (cW oa ca ck F G) H0 := fun k q hk => hP (k + 1) q hk
  have hDc : va_D (fun _ => True) (cW oa ca ck F G) := ⟨fun i j x z hi hj e9 => by have := hD.1 (i + 1) (j + 1) x z hi hj e9; omega, fun _ _ _ => trivial⟩
  have hKc : va_K D cl (cT ck) s := ⟨hK.1, fun k q hk => hK.2 (k + 1) q hk⟩
  have hZAc : ∀ q : Nat, q < Z.heap.size → ¬ va_A (cW oa ca ck F G) H0.size q := fun q hq h => hZA q hq (by rcases h with ⟨k, e9, h⟩ | h; exact Or.inl ⟨k + 1, e9, h⟩; exact Or.inr h)
  refine lv_aload_n hx hb dL_sweep_0 rfl (lv_at hl 2 rfl) ?_
  refine lv_iconst (v := 0) hx hb dL_sweep_1 (by decide) ?_
  refine lv_aload_n hx hb dL_sweep_2 rfl (lv_at hl 0 rfl) ?_
  refine lv_iload_n hx hb dL_sweep_3 rfl (lv_at hl 1 rfl) ?_
  rcases mrv_X_sweep (F 1) (F 13) nD pl n with h0 | h0 | h0
  · refine wk_callV (o := (bo, .inl (kl, 1, .inr (.inl fo)))) (w := cW oa ca ck F G) (w' := cW oa ca ck (upd (upd F 13 ((mr_X_sweep (F 1) (F 13) (F 14) (G 8) (G 9) (G 10) (G 11) nD pl n).2.1)) 14 ((mr_X_sweep (F 1) (F 13) (F 14) (G 8) (G 9) (G 10) (G 11) nD pl n).2.2)) G) (r := some (.int ((mr_X_sweep (F 1) (F 13) (F 14) (G 8) (G 9) (G 10) (G 11) nD pl n).1))) (As := [.int n]) (rest := [.int 0, .ref bo]) Sx (c_X_sweep l D cl hcl oa ca ck F G hPc hDc nD pl n k1 hN k13 hpl h0) (cwV 1 hts gL_sweep rfl rfl rfl (by decide +kernel) ⟨Nat.le_of_ble_eq_true rfl, Nat.le_of_ble_eq_true rfl⟩) hKc (va_recv hK hP (ci := 1) (q0 := 1) hcl.1 rfl) rfl hl.1 rfl (Nat.le_of_ble_eq_true rfl) dL_sweep_4 ⟨Nat.zero_le _, Nat.zero_le _⟩ hP hD hS hA (fun H locs hP hD hS => ?_)
    refine lv_i2l hx hb dL_sweep_7 rfl ?_
    refine va_last (f := fo) (x := ((mr_X_sweep (F 1) (F 13) (F 14) (G 8) (G 9) (G 10) (G 11) nD pl n).1).toInt64) hx hb hK hP hD hS 0 0 rfl rfl (show vp_in 0 1 by unfold vp_in; decide) dL_sweep_8 (fun H locs hP hD hS => ?_)
    rw [sb_cl0] at hP hD
    refine lv_goto (tgt := 18) hx hb dL_sweep_9 (by decide) ?_
    refine lv_iconst (v := 0) hx hb dL_sweep_18 (by decide) ?_
    refine W.widen (k := 1) (n := 6) (by decide) (by decide) ?_
    exact hret _ _ _ (lW bo kl (vp_updL fo 0 (((mr_X_sweep (F 1) (F 13) (F 14) (G 8) (G 9) (G 10) (G 11) nD pl n).1).toInt64)) oa ca ck (upd (upd F 13 ((mr_X_sweep (F 1) (F 13) (F 14) (G 8) (G 9) (G 10) (G 11) nD pl n).2.1)) 14 ((mr_X_sweep (F 1) (F 13) (F 14) (G 8) (G 9) (G 10) (G 11) nD pl n).2.2)) G) _ _ (by rw [if_pos h0]) (by rw [if_pos h0]) hP hD hS dL_sweep_19
  · have ht := t_X_sweep l hlt Z hZ.1 D cl hcl oa ca ck F G hPc hDc hZ0 hZH hZAc nD pl n k1 hN k13 hpl (by rw [h0]; decide)
    rw [h0, exn_2] at ht
    refine wk_throwV (Z := Z) (E := "java/lang/IllegalArgumentException") (o := (bo, .inl (kl, 1, .inr (.inl fo)))) (w := cW oa ca ck F G) (w' := cW oa ca ck (upd (upd F 13 ((mr_X_sweep (F 1) (F 13) (F 14) (G 8) (G 9) (G 10) (G 11) nD pl n).2.1)) 14 ((mr_X_sweep (F 1) (F 13) (F 14) (G 8) (G 9) (G 10) (G 11) nD pl n).2.2)) G) (As := [.int n]) (rest := [.int 0, .ref bo]) Sx ht (cwV 1 hts gL_sweep rfl rfl rfl (by decide +kernel) ⟨Nat.le_of_ble_eq_true rfl, Nat.le_of_ble_eq_true rfl⟩) hKc hZw (va_recv hK hP (ci := 1) (q0 := 1) hcl.1 rfl) rfl hl.1 rfl (Nat.le_of_ble_eq_true rfl) dL_sweep_4 ⟨Nat.le_refl _, Nat.le_refl _⟩ hP hD hS hA (fun q ce H locs hq hv hcE hP hD hS => ?_)
    obtain ⟨x0, x1, etab, ex0, ex1⟩ := tb2 htab
    have fx0 : x0.startPc = 0 ∧ x0.endPc = 9 ∧ x0.handlerPc = 12 ∧ x0.catchType = 13 := by simpa only [tb4, Prod.mk.injEq] using ex0
    have fx1 : x1.startPc = 0 ∧ x1.endPc = 9 ∧ x1.handlerPc = 15 ∧ x1.catchType = 65 := by simpa only [tb4, Prod.mk.injEq] using ex1
    refine tx_catch (cc := cL_sweep) (own := RL) hown [] x0 [x1] etab hq hv (Vm.classAt_of_findClass hcE) (fun y hy => absurd hy List.not_mem_nil) (cx_row hadm hown (tb_cov ex0 (by decide) (by decide)) (by rw [fx0.2.2.2]; decide) (by rw [fx0.2.2.2]; exact hts _ (List.mem_cons_of_mem _ (List.mem_append_left _ mxL_13))) (fit_yes hcE)) ?_
    rw [fx0.2.2.1]
    refine lv_astore_n (lv' := [(3, .ref q), (0, .ref (oa 0)), (1, .int n), (2, .ref bo)]) hx hb dL_sweep_12 rfl hl (by decide) rfl (fun ls hl => ?_)
    refine lv_iconst (v := 1) hx hb dL_sweep_13 (by decide) ?_
    exact hret _ _ _ (lW bo kl fo oa ca ck (upd (upd F 13 ((mr_X_sweep (F 1) (F 13) (F 14) (G 8) (G 9) (G 10) (G 11) nD pl n).2.1)) 14 ((mr_X_sweep (F 1) (F 13) (F 14) (G 8) (G 9) (G 10) (G 11) nD pl n).2.2)) G) _ _ (by rw [h0]; decide) (by rw [if_neg (show ¬ mrx_X_sweep (F 1) (F 13) nD pl n = 0 by rw [h0]; decide)]) hP hD hS dL_sweep_14
  · have ht := t_X_sweep l hlt Z hZ.1 D cl hcl oa ca ck F G hPc hDc hZ0 hZH hZAc nD pl n k1 hN k13 hpl (by rw [h0]; decide)
    rw [h0, exn_4] at ht
    refine wk_throwV (Z := Z) (E := "java/lang/IllegalStateException") (o := (bo, .inl (kl, 1, .inr (.inl fo)))) (w := cW oa ca ck F G) (w' := cW oa ca ck (upd (upd F 13 ((mr_X_sweep (F 1) (F 13) (F 14) (G 8) (G 9) (G 10) (G 11) nD pl n).2.1)) 14 ((mr_X_sweep (F 1) (F 13) (F 14) (G 8) (G 9) (G 10) (G 11) nD pl n).2.2)) G) (As := [.int n]) (rest := [.int 0, .ref bo]) Sx ht (cwV 1 hts gL_sweep rfl rfl rfl (by decide +kernel) ⟨Nat.le_of_ble_eq_true rfl, Nat.le_of_ble_eq_true rfl⟩) hKc hZw (va_recv hK hP (ci := 1) (q0 := 1) hcl.1 rfl) rfl hl.1 rfl (Nat.le_of_ble_eq_true rfl) dL_sweep_4 ⟨Nat.le_refl _, Nat.le_refl _⟩ hP hD hS hA (fun q ce H locs hq hv hcE hP hD hS => ?_)
    obtain ⟨x0, x1, etab, ex0, ex1⟩ := tb2 htab
    have fx0 : x0.startPc = 0 ∧ x0.endPc = 9 ∧ x0.handlerPc = 12 ∧ x0.catchType = 13 := by simpa only [tb4, Prod.mk.injEq] using ex0
    have fx1 : x1.startPc = 0 ∧ x1.endPc = 9 ∧ x1.handlerPc = 15 ∧ x1.catchType = 65 := by simpa only [tb4, Prod.mk.injEq] using ex1
    refine tx_catch (cc := cL_sweep) (own := RL) hown [x0] x1 [] etab hq hv (Vm.classAt_of_findClass hcE) (fun y hy => by rw [List.mem_singleton.mp hy]; exact cx_row hadm hown (tb_cov ex0 (by decide) (by decide)) (by rw [fx0.2.2.2]; decide) (by rw [fx0.2.2.2]; exact hts _ (List.mem_cons_of_mem _ (List.mem_append_left _ mxL_13))) (fit_no hZ hZw (by decide) (by decide) (by decide) hcE)) (cx_row hadm hown (tb_cov ex1 (by decide) (by decide)) (by rw [fx1.2.2.2]; decide) (by rw [fx1.2.2.2]; exact hts _ (List.mem_cons_of_mem _ (List.mem_append_left _ mxL_65))) (fit_yes hcE)) ?_
    rw [fx1.2.2.1]
    refine lv_astore_n (lv' := [(3, .ref q), (0, .ref (oa 0)), (1, .int n), (2, .ref bo)]) hx hb dL_sweep_15 rfl hl (by decide) rfl (fun ls hl => ?_)
    refine lv_iconst (v := 2) hx hb dL_sweep_16 (by decide) ?_
    exact hret _ _ _ (lW bo kl fo oa ca ck (upd (upd F 13 ((mr_X_sweep (F 1) (F 13) (F 14) (G 8) (G 9) (G 10) (G 11) nD pl n).2.1)) 14 ((mr_X_sweep (F 1) (F 13) (F 14) (G 8) (G 9) (G 10) (G 11) nD pl n).2.2)) G) _ _ (by rw [h0]; decide) (by rw [if_neg (show ¬ mrx_X_sweep (F 1) (F 13) nD pl n = 0 by rw [h0]; decide)]) hP hD hS dL_sweep_17
