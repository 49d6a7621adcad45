theorem upd_ow {f : Nat → Int32} {j : Nat} {x y : Int32} : upd (upd f j x) j y = upd f j y := by
  funext k
  unfold upd
  split
  · rfl
  · rfl
theorem upd_sw {f : Nat → Int32} {i j : Nat} {x y : Int32} (h : i ≠ j) : upd (upd f i x) j y = upd (upd f j y) i x := by
  funext k
  unfold upd
  by_cases h1 : k = i
  · rw [if_pos h1, if_neg (fun h2 => h (h1.symm.trans h2)), if_pos h1]
  · rw [if_neg h1, if_neg h1]
theorem upd_keep {f : Nat → Int32} {j : Nat} {x : Int32} (h : f j = x) : upd f j x = f := by
  funext k
  unfold upd
  split
  · rename_i e; rw [e, h]
  · rfl
theorem vup_ow {α : Type} {f : Nat → α} {j : Nat} {x y : α} : va_up (va_up f j x) j y = va_up f j y := by
  funext k
  unfold va_up
  split
  · rfl
  · rfl
theorem vup_sw {α : Type} {f : Nat → α} {i j : Nat} {x y : α} (h : i ≠ j) : va_up (va_up f i x) j y = va_up (va_up f j y) i x := by
  funext k
  unfold va_up
  by_cases h1 : k = i
  · rw [if_pos h1, if_neg (fun h2 => h (h1.symm.trans h2)), if_pos h1]
  · rw [if_neg h1, if_neg h1]
theorem vup_us {α : Type} {f : Nat → α} {j : Nat} {x : α} : va_up f j x j = x := if_pos rfl
theorem vup_un {α : Type} {f : Nat → α} {k j : Nat} {x : α} (h : j ≠ k) : va_up f k x j = f j := if_neg h
theorem vup_keep {α : Type} {f : Nat → α} {j : Nat} {x : α} (h : f j = x) : va_up f j x = f := by
  funext k
  unfold va_up
  split
  · rename_i e; rw [e, h]
  · rfl
def mT (ka : Nat → ClassId) : List (ClassId × FieldType) := [(ka 6, .int), (ka 7, .int), (ka 8, .int), (ka 9, .int), (ka 10, .int), (ka 11, .int), (ka 12, .int), (ka 13, .int), (ka 14, .int), (ka 15, .int), (ka 16, .int), (ka 17, .boolean), (ka 18, .int), (ka 19, .int), (ka 27, .boolean), (ka 28, .int)]
def mWl0 (ba : Nat → Nat) (F : Nat → Int32) : List Value := [.int (F 0), .int (F 1), .int (F 2), .int (F 3), .int (F 4), .int (F 5), .ref (ba 6), .ref (ba 7), .ref (ba 8), .ref (ba 9), .ref (ba 10), .ref (ba 11), .ref (ba 12), .ref (ba 13), .ref (ba 14), .ref (ba 15), .ref (ba 16), .ref (ba 17), .ref (ba 18), .ref (ba 19), .int (F 20), .int (F 21), .int (F 22), .int (F 23), .int (F 24), .int (F 25), .int (F 26), .ref (ba 27), .ref (ba 28)]
def mW (a : Nat) (ba : Nat → Nat) (ka : Nat → ClassId) (F : Nat → Int32) (G : Nat → Nat → Int32) : va_W := [(a, .inr (0, mWl0 ba F)), (ba 6, .inl (ka 6, 8, .inl (G 6))), (ba 7, .inl (ka 7, 100, .inl (G 7))), (ba 8, .inl (ka 8, 100, .inl (G 8))), (ba 9, .inl (ka 9, 100, .inl (G 9))), (ba 10, .inl (ka 10, 100, .inl (G 10))), (ba 11, .inl (ka 11, 100, .inl (G 11))), (ba 12, .inl (ka 12, 100, .inl (G 12))), (ba 13, .inl (ka 13, 40, .inl (G 13))), (ba 14, .inl (ka 14, 40, .inl (G 14))), (ba 15, .inl (ka 15, 40, .inl (G 15))), (ba 16, .inl (ka 16, 40, .inl (G 16))), (ba 17, .inl (ka 17, 4, .inl (G 17))), (ba 18, .inl (ka 18, 4, .inl (G 18))), (ba 19, .inl (ka 19, 8, .inl (G 19))), (ba 27, .inl (ka 27, 4096, .inl (G 27))), (ba 28, .inl (ka 28, 16384, .inl (G 28)))]
theorem mW_f0 (a : Nat) (ba : Nat → Nat) (ka : Nat → ClassId) (F : Nat → Int32) (G : Nat → Nat → Int32) (v : Int32) : (mW a ba ka F G).set 0 (a, .inr (0, (mWl0 ba F).set 0 (.int v))) = mW a ba ka (upd F 0 v) G := rfl
theorem mW_f1 (a : Nat) (ba : Nat → Nat) (ka : Nat → ClassId) (F : Nat → Int32) (G : Nat → Nat → Int32) (v : Int32) : (mW a ba ka F G).set 0 (a, .inr (0, (mWl0 ba F).set 1 (.int v))) = mW a ba ka (upd F 1 v) G := rfl
theorem mW_f2 (a : Nat) (ba : Nat → Nat) (ka : Nat → ClassId) (F : Nat → Int32) (G : Nat → Nat → Int32) (v : Int32) : (mW a ba ka F G).set 0 (a, .inr (0, (mWl0 ba F).set 2 (.int v))) = mW a ba ka (upd F 2 v) G := rfl
theorem mW_f3 (a : Nat) (ba : Nat → Nat) (ka : Nat → ClassId) (F : Nat → Int32) (G : Nat → Nat → Int32) (v : Int32) : (mW a ba ka F G).set 0 (a, .inr (0, (mWl0 ba F).set 3 (.int v))) = mW a ba ka (upd F 3 v) G := rfl
theorem mW_f4 (a : Nat) (ba : Nat → Nat) (ka : Nat → ClassId) (F : Nat → Int32) (G : Nat → Nat → Int32) (v : Int32) : (mW a ba ka F G).set 0 (a, .inr (0, (mWl0 ba F).set 4 (.int v))) = mW a ba ka (upd F 4 v) G := rfl
theorem mW_f5 (a : Nat) (ba : Nat → Nat) (ka : Nat → ClassId) (F : Nat → Int32) (G : Nat → Nat → Int32) (v : Int32) : (mW a ba ka F G).set 0 (a, .inr (0, (mWl0 ba F).set 5 (.int v))) = mW a ba ka (upd F 5 v) G := rfl
theorem mW_f20 (a : Nat) (ba : Nat → Nat) (ka : Nat → ClassId) (F : Nat → Int32) (G : Nat → Nat → Int32) (v : Int32) : (mW a ba ka F G).set 0 (a, .inr (0, (mWl0 ba F).set 20 (.int v))) = mW a ba ka (upd F 20 v) G := rfl
theorem mW_f21 (a : Nat) (ba : Nat → Nat) (ka : Nat → ClassId) (F : Nat → Int32) (G : Nat → Nat → Int32) (v : Int32) : (mW a ba ka F G).set 0 (a, .inr (0, (mWl0 ba F).set 21 (.int v))) = mW a ba ka (upd F 21 v) G := rfl
theorem mW_f22 (a : Nat) (ba : Nat → Nat) (ka : Nat → ClassId) (F : Nat → Int32) (G : Nat → Nat → Int32) (v : Int32) : (mW a ba ka F G).set 0 (a, .inr (0, (mWl0 ba F).set 22 (.int v))) = mW a ba ka (upd F 22 v) G := rfl
theorem mW_f23 (a : Nat) (ba : Nat → Nat) (ka : Nat → ClassId) (F : Nat → Int32) (G : Nat → Nat → Int32) (v : Int32) : (mW a ba ka F G).set 0 (a, .inr (0, (mWl0 ba F).set 23 (.int v))) = mW a ba ka (upd F 23 v) G := rfl
theorem mW_f24 (a : Nat) (ba : Nat → Nat) (ka : Nat → ClassId) (F : Nat → Int32) (G : Nat → Nat → Int32) (v : Int32) : (mW a ba ka F G).set 0 (a, .inr (0, (mWl0 ba F).set 24 (.int v))) = mW a ba ka (upd F 24 v) G := rfl
theorem mW_f25 (a : Nat) (ba : Nat → Nat) (ka : Nat → ClassId) (F : Nat → Int32) (G : Nat → Nat → Int32) (v : Int32) : (mW a ba ka F G).set 0 (a, .inr (0, (mWl0 ba F).set 25 (.int v))) = mW a ba ka (upd F 25 v) G := rfl
theorem mW_f26 (a : Nat) (ba : Nat → Nat) (ka : Nat → ClassId) (F : Nat → Int32) (G : Nat → Nat → Int32) (v : Int32) : (mW a ba ka F G).set 0 (a, .inr (0, (mWl0 ba F).set 26 (.int v))) = mW a ba ka (upd F 26 v) G := rfl
theorem mW_g6 (a : Nat) (ba : Nat → Nat) (ka : Nat → ClassId) (F : Nat → Int32) (G : Nat → Nat → Int32) (f : Nat → Int32) : (mW a ba ka F G).set 1 (ba 6, .inl (ka 6, 8, .inl f)) = mW a ba ka F (va_up G 6 f) := rfl
theorem mW_g7 (a : Nat) (ba : Nat → Nat) (ka : Nat → ClassId) (F : Nat → Int32) (G : Nat → Nat → Int32) (f : Nat → Int32) : (mW a ba ka F G).set 2 (ba 7, .inl (ka 7, 100, .inl f)) = mW a ba ka F (va_up G 7 f) := rfl
theorem mW_g8 (a : Nat) (ba : Nat → Nat) (ka : Nat → ClassId) (F : Nat → Int32) (G : Nat → Nat → Int32) (f : Nat → Int32) : (mW a ba ka F G).set 3 (ba 8, .inl (ka 8, 100, .inl f)) = mW a ba ka F (va_up G 8 f) := rfl
theorem mW_g9 (a : Nat) (ba : Nat → Nat) (ka : Nat → ClassId) (F : Nat → Int32) (G : Nat → Nat → Int32) (f : Nat → Int32) : (mW a ba ka F G).set 4 (ba 9, .inl (ka 9, 100, .inl f)) = mW a ba ka F (va_up G 9 f) := rfl
theorem mW_g10 (a : Nat) (ba : Nat → Nat) (ka : Nat → ClassId) (F : Nat → Int32) (G : Nat → Nat → Int32) (f : Nat → Int32) : (mW a ba ka F G).set 5 (ba 10, .inl (ka 10, 100, .inl f)) = mW a ba ka F (va_up G 10 f) := rfl
theorem mW_g11 (a : Nat) (ba : Nat → Nat) (ka : Nat → ClassId) (F : Nat → Int32) (G : Nat → Nat → Int32) (f : Nat → Int32) : (mW a ba ka F G).set 6 (ba 11, .inl (ka 11, 100, .inl f)) = mW a ba ka F (va_up G 11 f) := rfl
theorem mW_g12 (a : Nat) (ba : Nat → Nat) (ka : Nat → ClassId) (F : Nat → Int32) (G : Nat → Nat → Int32) (f : Nat → Int32) : (mW a ba ka F G).set 7 (ba 12, .inl (ka 12, 100, .inl f)) = mW a ba ka F (va_up G 12 f) := rfl
theorem mW_g13 (a : Nat) (ba : Nat → Nat) (ka : Nat → ClassId) (F : Nat → Int32) (G : Nat → Nat → Int32) (f : Nat → Int32) : (mW a ba ka F G).set 8 (ba 13, .inl (ka 13, 40, .inl f)) = mW a ba ka F (va_up G 13 f) := rfl
theorem mW_g14 (a : Nat) (ba : Nat → Nat) (ka : Nat → ClassId) (F : Nat → Int32) (G : Nat → Nat → Int32) (f : Nat → Int32) : (mW a ba ka F G).set 9 (ba 14, .inl (ka 14, 40, .inl f)) = mW a ba ka F (va_up G 14 f) := rfl
theorem mW_g15 (a : Nat) (ba : Nat → Nat) (ka : Nat → ClassId) (F : Nat → Int32) (G : Nat → Nat → Int32) (f : Nat → Int32) : (mW a ba ka F G).set 10 (ba 15, .inl (ka 15, 40, .inl f)) = mW a ba ka F (va_up G 15 f) := rfl
theorem mW_g16 (a : Nat) (ba : Nat → Nat) (ka : Nat → ClassId) (F : Nat → Int32) (G : Nat → Nat → Int32) (f : Nat → Int32) : (mW a ba ka F G).set 11 (ba 16, .inl (ka 16, 40, .inl f)) = mW a ba ka F (va_up G 16 f) := rfl
theorem mW_g17 (a : Nat) (ba : Nat → Nat) (ka : Nat → ClassId) (F : Nat → Int32) (G : Nat → Nat → Int32) (f : Nat → Int32) : (mW a ba ka F G).set 12 (ba 17, .inl (ka 17, 4, .inl f)) = mW a ba ka F (va_up G 17 f) := rfl
theorem mW_g18 (a : Nat) (ba : Nat → Nat) (ka : Nat → ClassId) (F : Nat → Int32) (G : Nat → Nat → Int32) (f : Nat → Int32) : (mW a ba ka F G).set 13 (ba 18, .inl (ka 18, 4, .inl f)) = mW a ba ka F (va_up G 18 f) := rfl
theorem mW_g19 (a : Nat) (ba : Nat → Nat) (ka : Nat → ClassId) (F : Nat → Int32) (G : Nat → Nat → Int32) (f : Nat → Int32) : (mW a ba ka F G).set 14 (ba 19, .inl (ka 19, 8, .inl f)) = mW a ba ka F (va_up G 19 f) := rfl
theorem mW_g27 (a : Nat) (ba : Nat → Nat) (ka : Nat → ClassId) (F : Nat → Int32) (G : Nat → Nat → Int32) (f : Nat → Int32) : (mW a ba ka F G).set 15 (ba 27, .inl (ka 27, 4096, .inl f)) = mW a ba ka F (va_up G 27 f) := rfl
theorem mW_g28 (a : Nat) (ba : Nat → Nat) (ka : Nat → ClassId) (F : Nat → Int32) (G : Nat → Nat → Int32) (f : Nat → Int32) : (mW a ba ka F G).set 16 (ba 28, .inl (ka 28, 16384, .inl f)) = mW a ba ka F (va_up G 28 f) := rfl
def mF0 (sd : Int32) : Nat → Int32 := fun j => if j = 1 then sd &&& 2147483647 else if j = 5 then 1 else if j = 22 then -1 else 0
def mG0 : Nat → Nat → Int32 := fun _ _ => 0
