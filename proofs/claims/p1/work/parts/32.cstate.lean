theorem ne_nle {x : Int32} (h : ¬ x ≤ 0) : ¬ x = 0 := fun e => h (by rw [e]; decide)
def cOK (cl : List vw_C) : Prop := cl[1]? = some (RSh, TSh, 4) ∧ cl[2]? = some (RSw, TSw, 4)
def cT (ck : Nat → ClassId) : List (ClassId × FieldType) := [(ck 0, .int), (ck 1, .int)]
def cWl0 (oa ca : Nat → Nat) (F : Nat → Int32) : List Value := [.ref (ca 0), .ref (ca 1), .int (F 0), .int (F 1)]
def cWl1 (oa ca : Nat → Nat) (F : Nat → Int32) : List Value := [.ref (oa 1), .ref (oa 3), .int (F 2), .int (F 3)]
def cW (oa ca : Nat → Nat) (ck : Nat → ClassId) (F : Nat → Int32) (G : Nat → Nat → Int32) : va_W := [(oa 1, .inr (1, cWl0 oa ca F)), (oa 2, .inr (2, cWl1 oa ca F)), (ca 0, .inl (ck 0, 8, .inl (G 0))), (ca 1, .inl (ck 1, 8, .inl (G 1)))]
theorem cW_f0 (oa ca : Nat → Nat) (ck : Nat → ClassId) (F : Nat → Int32) (G : Nat → Nat → Int32) (v : Int32) : (cW oa ca ck F G).set 0 (oa 1, .inr (1, (cWl0 oa ca F).set 2 (.int v))) = cW oa ca ck (upd F 0 v) G := rfl
theorem cW_f1 (oa ca : Nat → Nat) (ck : Nat → ClassId) (F : Nat → Int32) (G : Nat → Nat → Int32) (v : Int32) : (cW oa ca ck F G).set 0 (oa 1, .inr (1, (cWl0 oa ca F).set 3 (.int v))) = cW oa ca ck (upd F 1 v) G := rfl
theorem cW_f2 (oa ca : Nat → Nat) (ck : Nat → ClassId) (F : Nat → Int32) (G : Nat → Nat → Int32) (v : Int32) : (cW oa ca ck F G).set 1 (oa 2, .inr (2, (cWl1 oa ca F).set 2 (.int v))) = cW oa ca ck (upd F 2 v) G := rfl
theorem cW_f3 (oa ca : Nat → Nat) (ck : Nat → ClassId) (F : Nat → Int32) (G : Nat → Nat → Int32) (v : Int32) : (cW oa ca ck F G).set 1 (oa 2, .inr (2, (cWl1 oa ca F).set 3 (.int v))) = cW oa ca ck (upd F 3 v) G := rfl
theorem cW_g0 (oa ca : Nat → Nat) (ck : Nat → ClassId) (F : Nat → Int32) (G : Nat → Nat → Int32) (f : Nat → Int32) : (cW oa ca ck F G).set 2 (ca 0, .inl (ck 0, 8, .inl f)) = cW oa ca ck F (va_up G 0 f) := rfl
theorem cW_g1 (oa ca : Nat → Nat) (ck : Nat → ClassId) (F : Nat → Int32) (G : Nat → Nat → Int32) (f : Nat → Int32) : (cW oa ca ck F G).set 3 (ca 1, .inl (ck 1, 8, .inl f)) = cW oa ca ck F (va_up G 1 f) := rfl
