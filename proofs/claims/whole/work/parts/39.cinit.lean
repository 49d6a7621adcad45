def cF0 (sd : Int32) : Nat → Int32 := fun j => if j = 1 then 1 else if j = 7 then -1 else if j = 9 then sd &&& 2147483647 else if j = 11 then -1 else 0
def cG0 : Nat → Nat → Int32 := fun _ _ => 0
theorem gI_cALL {cw cw' : Cond} (h : cw' ∈ cALL) : GoodIn (cw :: cALL) (cw' :: cALL) := by
  intro w hw
  rcases List.mem_cons.mp hw with rfl | hw
  · exact ⟨List.mem_cons_of_mem _ h, cALL_good _ h⟩
  · exact ⟨List.mem_cons_of_mem _ hw, cALL_good _ hw⟩
def iwSh (a : Nat) (q : Nat → Nat) (k : Nat → ClassId) : va_W := [(a, .inr (2, [.ref (q 0), .ref (q 1), .int 0, .int 1])), (q 0, .inl (k 0, 8, .inl (fun _ => 0))), (q 1, .inl (k 1, 8, .inl (fun _ => 0)))]
def itSh (k : Nat → ClassId) : List (ClassId × FieldType) := [(k 0, .int), (k 1, .int)]
set_option maxHeartbeats 4000000 in
set_option maxRecDepth 100000 in
theorem c_Sh_init (l : Launch) (D : va_G) (cl : List vw_C) (hcl : cOK cl) (a sz : Nat) : Met l ySh_init wsSh_init ({ frames := 1, cells := 2, slots := 16, locals := 12 } : Room) (va_Pc [.ref a] (fun U => U.heap.size = sz ∧ va_P D cl [(a, .inr (2, [.null, .null, .int 0, .int 0]))] U.heap ∧ va_K D cl [] U ∧ va_D (fun _ => True) [(a, .inr (2, [.null, .null, .int 0, .int 0]))])) (va_Qv (fun _ : (Nat → Nat) × (Nat → ClassId) => True) (fun u t => va_P D cl (iwSh a u.1 u.2) t.heap ∧ va_K D cl (itSh u.2) t ∧ va_D (va_A [(a, .inr (2, [.null, .null, .int 0, .int 0]))] sz) (iwSh a u.1 u.2)) (va_A [(a, .inr (2, [.null, .null, .int 0, .int 0]))] sz)) 2 16 (va_A [(a, .inr (2, [.null, .null, .int 0, .int 0]))] sz) := by
  refine Met.ofW (cc := cSh_init) (maxL := 1) (ret := none) (by decide) rfl ?_
  intro p e s m args below meth c s₁ B hml hv
  obtain ⟨rfl, hsz, hP, hK, hD0⟩ := hv
  have hx := B.exec
  have hb := B.bytes
  have hr := B.returns
  have hts := atoms_spec (ws := wsSh_init) B.pre
  have hown : s.vm.findClass RSh = some m.cls := findClass_of_methodNamed B.named
  have hlocks := B.notSynchronized
  have hin : meth.name = "<init>" := (name_of_methodNamed B.named B.method).1
  subst hsz
  have hD := hD0.self (sz := s.heap.size)
  generalize hAe : va_A [(a, .inr (2, [.null, .null, .int 0, .int 0]))] s.heap.size = A at hD ⊢
  have hA : ∀ q : Nat, s.heap.size ≤ q → A q := fun q h => by rw [← hAe]; exact Or.inr h
  have hS : va_S A s.heap s.heap [] := va_S.rf
  have hP : va_P D cl [(a, .inr (2, [.null, .null, .int 0, .int 0]))] s.heap := hP
  have hl := lv_entry ([.ref a]) (n := 1) (Nat.le_of_ble_eq_true rfl)
  rw [lg_entry_eq]
  generalize (lg_sl ([.ref a]) ++ List.replicate (1 - (lg_sl ([.ref a])).length) Slot.unset).toArray = ls at hl ⊢
  have hl : lv_has ls 1 [(0, .ref a)] := hl
  have inX_ : ∀ w ∈ wsSh0, w ∈ wsSh_init := fun w h => List.mem_cons_of_mem _ (inSh_all w h)
  have oi := hts _ (List.mem_cons_of_mem _ mlSh_3)
  have oj := hts _ (List.mem_cons_of_mem _ miO_cALL)
  have oc := hts _ (List.mem_cons_of_mem _ mcO_cALL)
  have aci := hts _ (List.mem_cons_of_mem _ ma_cALL_int)
  have f9 := hts _ (List.mem_cons_of_mem _ mfSh_9)
  have f15 := hts _ (List.mem_cons_of_mem _ mfSh_15)
  have f18 := hts _ (List.mem_cons_of_mem _ mfSh_18)
  have f22 := hts _ (List.mem_cons_of_mem _ mfSh_22)
  refine lv_aload_n hx hb dSh_init_0 rfl (lv_at hl 0 rfl) ?_
  refine W.objInit hx hb hown oi oj oc rfl (by rw [hml]; exact hl.1) rfl dSh_init_1 (Nat.le_of_ble_eq_true rfl) (Nat.le_of_ble_eq_true rfl) ?_
  refine W.eq (g2 := F0 m 4 ls []) rfl ?_
  refine lv_aload_n hx hb dSh_init_4 rfl (lv_at hl 0 rfl) ?_
  refine lv_bipush (v := 8) hx hb dSh_init_5 (by decide) ?_
  refine va_newa (atype := .int) (N' := 8) (a0 := (8, .inl (fun _ => 0))) (ty := .int) (n := 8) hx hb aci rfl hK hP hD hS hA (fun _ => rfl) (by decide) (by decide) (by decide) (by decide) (by decide) dSh_init_7 (fun q7 k7 H hK hP hD hS => ?_)
  have hK : va_K D cl [(k7, .int)] s := hK
  have hP : va_P D cl [(a, .inr (2, [.null, .null, .int 0, .int 0])), (q7, .inl (k7, 8, .inl (fun _ => 0)))] H := hP
  have hD : va_D A [(a, .inr (2, [.null, .null, .int 0, .int 0])), (q7, .inl (k7, 8, .inl (fun _ => 0)))] := hD
  refine W.widen (k := 1) (n := 8) (by decide) (by decide) ?_
  refine va_putF (D := D) (ci := 2) (v := .ref q7) (ty := tySh 0) (C := RSh) (T := TSh) (N := 4) hx hb hts inX_ tySh tySh_ok nmSh hown hK hP hD hS 0 rfl hcl.2.1 0 (by decide) f9 (fun _ h9 => h9) rfl hin rfl (tySh_ok 0 (by decide)) rfl rfl (Nat.le_of_ble_eq_true rfl) dSh_init_9 (fun H locs hP hD hS => ?_)
  have hP : va_P D cl [(a, .inr (2, [.ref q7, .null, .int 0, .int 0])), (q7, .inl (k7, 8, .inl (fun _ => 0)))] H := hP
  have hD : va_D A [(a, .inr (2, [.ref q7, .null, .int 0, .int 0])), (q7, .inl (k7, 8, .inl (fun _ => 0)))] := hD
  refine lv_aload_n hx hb dSh_init_12 rfl (lv_at hl 0 rfl) ?_
  refine lv_bipush (v := 8) hx hb dSh_init_13 (by decide) ?_
  refine va_newa (atype := .int) (N' := 8) (a0 := (8, .inl (fun _ => 0))) (ty := .int) (n := 8) hx hb aci rfl hK hP hD hS hA (fun _ => rfl) (by decide) (by decide) (by decide) (by decide) (by decide) dSh_init_15 (fun q15 k15 H hK hP hD hS => ?_)
  have hK : va_K D cl [(k7, .int), (k15, .int)] s := hK
  have hP : va_P D cl [(a, .inr (2, [.ref q7, .null, .int 0, .int 0])), (q7, .inl (k7, 8, .inl (fun _ => 0))), (q15, .inl (k15, 8, .inl (fun _ => 0)))] H := hP
  have hD : va_D A [(a, .inr (2, [.ref q7, .null, .int 0, .int 0])), (q7, .inl (k7, 8, .inl (fun _ => 0))), (q15, .inl (k15, 8, .inl (fun _ => 0)))] := hD
  refine W.widen (k := 2) (n := 16) (by decide) (by decide) ?_
  refine va_putF (D := D) (ci := 2) (v := .ref q15) (ty := tySh 1) (C := RSh) (T := TSh) (N := 4) hx hb hts inX_ tySh tySh_ok nmSh hown hK hP hD hS 0 rfl hcl.2.1 1 (by decide) f15 (fun _ h9 => h9) rfl hin rfl (tySh_ok 1 (by decide)) rfl rfl (Nat.le_of_ble_eq_true rfl) dSh_init_17 (fun H locs hP hD hS => ?_)
  have hP : va_P D cl [(a, .inr (2, [.ref q7, .ref q15, .int 0, .int 0])), (q7, .inl (k7, 8, .inl (fun _ => 0))), (q15, .inl (k15, 8, .inl (fun _ => 0)))] H := hP
  have hD : va_D A [(a, .inr (2, [.ref q7, .ref q15, .int 0, .int 0])), (q7, .inl (k7, 8, .inl (fun _ => 0))), (q15, .inl (k15, 8, .inl (fun _ => 0)))] := hD
  refine lv_aload_n hx hb dSh_init_20 rfl (lv_at hl 0 rfl) ?_
  refine lv_iconst (v := 0) hx hb dSh_init_21 (by decide) ?_
  refine va_put (D := D) (ci := 2) (v := .int 0) (ty := tySh 2) (C := RSh) (T := TSh) (N := 4) hx hb hts inX_ tySh tySh_ok nmSh hown hK hP hD hS 0 rfl hcl.2.1 2 (by decide) f18 (fun _ h9 => h9) rfl (tySh_ok 2 (by decide)) rfl rfl (Nat.le_of_ble_eq_true rfl) dSh_init_22 (fun H locs hP hD hS => ?_)
  have hP : va_P D cl [(a, .inr (2, [.ref q7, .ref q15, .int 0, .int 0])), (q7, .inl (k7, 8, .inl (fun _ => 0))), (q15, .inl (k15, 8, .inl (fun _ => 0)))] H := hP
  have hD : va_D A [(a, .inr (2, [.ref q7, .ref q15, .int 0, .int 0])), (q7, .inl (k7, 8, .inl (fun _ => 0))), (q15, .inl (k15, 8, .inl (fun _ => 0)))] := hD
  refine lv_aload_n hx hb dSh_init_25 rfl (lv_at hl 0 rfl) ?_
  refine lv_iconst (v := 1) hx hb dSh_init_26 (by decide) ?_
  refine va_put (D := D) (ci := 2) (v := .int 1) (ty := tySh 3) (C := RSh) (T := TSh) (N := 4) hx hb hts inX_ tySh tySh_ok nmSh hown hK hP hD hS 0 rfl hcl.2.1 3 (by decide) f22 (fun _ h9 => h9) rfl (tySh_ok 3 (by decide)) rfl rfl (Nat.le_of_ble_eq_true rfl) dSh_init_27 (fun H locs hP hD hS => ?_)
  have hP : va_P D cl [(a, .inr (2, [.ref q7, .ref q15, .int 0, .int 1])), (q7, .inl (k7, 8, .inl (fun _ => 0))), (q15, .inl (k15, 8, .inl (fun _ => 0)))] H := hP
  have hD : va_D A [(a, .inr (2, [.ref q7, .ref q15, .int 0, .int 1])), (q7, .inl (k7, 8, .inl (fun _ => 0))), (q15, .inl (k15, 8, .inl (fun _ => 0)))] := hD
  have hP9 : va_P D cl (iwSh a (fun j => if j = 0 then q7 else if j = 1 then q15 else 0) (fun j => if j = 0 then k7 else if j = 1 then k15 else k7)) H := hP
  have hD9 : va_D A (iwSh a (fun j => if j = 0 then q7 else if j = 1 then q15 else 0) (fun j => if j = 0 then k7 else if j = 1 then k15 else k7)) := hD
  have hK9 : va_K D cl (itSh (fun j => if j = 0 then k7 else if j = 1 then k15 else k7)) s := hK
  exact W.vret hx hb hr (fun t ht hW => ⟨⟨((fun j => if j = 0 then q7 else if j = 1 then q15 else 0), (fun j => if j = 0 then k7 else if j = 1 then k15 else k7)), rfl, trivial, by rw [ht]; exact hP9, va_K.moved hW.alike hK9, hD9⟩, hS.F ht⟩) hS.2.2 dSh_init_30
def iwMa (a : Nat) (sh : Nat) (q : Nat → Nat) (k : Nat → ClassId) : va_W := [(a, .inr (3, [.ref sh, .ref (q 2), .ref (q 3), .ref (q 4), .ref (q 5)])), (q 2, .inl (k 2, 440, .inl (fun _ => 0))), (q 3, .inl (k 3, 440, .inl (fun _ => 0))), (q 4, .inl (k 4, 440, .inl (fun _ => 0))), (q 5, .inl (k 5, 440, .inl (fun _ => 0)))]
def itMa (k : Nat → ClassId) : List (ClassId × FieldType) := [(k 2, .int), (k 3, .int), (k 4, .int), (k 5, .int)]
set_option maxHeartbeats 4000000 in
set_option maxRecDepth 100000 in
theorem c_Ma_init (l : Launch) (D : va_G) (cl : List vw_C) (hcl : cOK cl) (a sz : Nat) (sh : Nat) : Met l yMa_init wsMa_init ({ frames := 1, cells := 4, slots := 1760, locals := 12 } : Room) (va_Pc [.ref a, .ref sh] (fun U => U.heap.size = sz ∧ va_P D cl [(a, .inr (3, [.null, .null, .null, .null, .null]))] U.heap ∧ va_K D cl [] U ∧ va_D (fun _ => True) [(a, .inr (3, [.null, .null, .null, .null, .null]))])) (va_Qv (fun _ : (Nat → Nat) × (Nat → ClassId) => True) (fun u t => va_P D cl (iwMa a sh u.1 u.2) t.heap ∧ va_K D cl (itMa u.2) t ∧ va_D (va_A [(a, .inr (3, [.null, .null, .null, .null, .null]))] sz) (iwMa a sh u.1 u.2)) (va_A [(a, .inr (3, [.null, .null, .null, .null, .null]))] sz)) 4 1760 (va_A [(a, .inr (3, [.null, .null, .null, .null, .null]))] sz) := by
  refine Met.ofW (cc := cMa_init) (maxL := 2) (ret := none) (by decide) rfl ?_
  intro p e s m args below meth c s₁ B hml hv
  obtain ⟨rfl, hsz, hP, hK, hD0⟩ := hv
  have hx := B.exec
  have hb := B.bytes
  have hr := B.returns
  have hts := atoms_spec (ws := wsMa_init) B.pre
  have hown : s.vm.findClass RMa = some m.cls := findClass_of_methodNamed B.named
  have hlocks := B.notSynchronized
  have hin : meth.name = "<init>" := (name_of_methodNamed B.named B.method).1
  subst hsz
  have hD := hD0.self (sz := s.heap.size)
  generalize hAe : va_A [(a, .inr (3, [.null, .null, .null, .null, .null]))] s.heap.size = A at hD ⊢
  have hA : ∀ q : Nat, s.heap.size ≤ q → A q := fun q h => by rw [← hAe]; exact Or.inr h
  have hS : va_S A s.heap s.heap [] := va_S.rf
  have hP : va_P D cl [(a, .inr (3, [.null, .null, .null, .null, .null]))] s.heap := hP
  have hl := lv_entry ([.ref a, .ref sh]) (n := 2) (Nat.le_of_ble_eq_true rfl)
  rw [lg_entry_eq]
  generalize (lg_sl ([.ref a, .ref sh]) ++ List.replicate (2 - (lg_sl ([.ref a, .ref sh])).length) Slot.unset).toArray = ls at hl ⊢
  have hl : lv_has ls 2 [(0, .ref a), (1, .ref sh)] := hl
  have inX_ : ∀ w ∈ wsMa0, w ∈ wsMa_init := fun w h => List.mem_cons_of_mem _ (inMa_all w h)
  have oi := hts _ (List.mem_cons_of_mem _ mlMa_3)
  have oj := hts _ (List.mem_cons_of_mem _ miO_cALL)
  have oc := hts _ (List.mem_cons_of_mem _ mcO_cALL)
  have aci := hts _ (List.mem_cons_of_mem _ ma_cALL_int)
  have f9 := hts _ (List.mem_cons_of_mem _ mfMa_9)
  have f15 := hts _ (List.mem_cons_of_mem _ mfMa_15)
  have f18 := hts _ (List.mem_cons_of_mem _ mfMa_18)
  have f21 := hts _ (List.mem_cons_of_mem _ mfMa_21)
  have f24 := hts _ (List.mem_cons_of_mem _ mfMa_24)
  refine lv_aload_n hx hb dMa_init_0 rfl (lv_at hl 0 rfl) ?_
  refine W.objInit hx hb hown oi oj oc rfl (by rw [hml]; exact hl.1) rfl dMa_init_1 (Nat.le_of_ble_eq_true rfl) (Nat.le_of_ble_eq_true rfl) ?_
  refine W.eq (g2 := F0 m 4 ls []) rfl ?_
  refine lv_aload_n hx hb dMa_init_4 rfl (lv_at hl 0 rfl) ?_
  refine lv_sipush (v := 440) hx hb dMa_init_5 (by decide) ?_
  refine va_newa (atype := .int) (N' := 440) (a0 := (440, .inl (fun _ => 0))) (ty := .int) (n := 440) hx hb aci rfl hK hP hD hS hA (fun _ => rfl) (by decide) (by decide) (by decide) (by decide) (by decide) dMa_init_8 (fun q8 k8 H hK hP hD hS => ?_)
  have hK : va_K D cl [(k8, .int)] s := hK
  have hP : va_P D cl [(a, .inr (3, [.null, .null, .null, .null, .null])), (q8, .inl (k8, 440, .inl (fun _ => 0)))] H := hP
  have hD : va_D A [(a, .inr (3, [.null, .null, .null, .null, .null])), (q8, .inl (k8, 440, .inl (fun _ => 0)))] := hD
  refine W.widen (k := 1) (n := 440) (by decide) (by decide) ?_
  refine va_putF (D := D) (ci := 3) (v := .ref q8) (ty := tyMa 1) (C := RMa) (T := TMa) (N := 5) hx hb hts inX_ tyMa tyMa_ok nmMa hown hK hP hD hS 0 rfl hcl.2.2.1 1 (by decide) f9 (fun _ h9 => h9) rfl hin rfl (tyMa_ok 1 (by decide)) rfl rfl (Nat.le_of_ble_eq_true rfl) dMa_init_10 (fun H locs hP hD hS => ?_)
  have hP : va_P D cl [(a, .inr (3, [.null, .ref q8, .null, .null, .null])), (q8, .inl (k8, 440, .inl (fun _ => 0)))] H := hP
  have hD : va_D A [(a, .inr (3, [.null, .ref q8, .null, .null, .null])), (q8, .inl (k8, 440, .inl (fun _ => 0)))] := hD
  refine lv_aload_n hx hb dMa_init_13 rfl (lv_at hl 0 rfl) ?_
  refine lv_sipush (v := 440) hx hb dMa_init_14 (by decide) ?_
  refine va_newa (atype := .int) (N' := 440) (a0 := (440, .inl (fun _ => 0))) (ty := .int) (n := 440) hx hb aci rfl hK hP hD hS hA (fun _ => rfl) (by decide) (by decide) (by decide) (by decide) (by decide) dMa_init_17 (fun q17 k17 H hK hP hD hS => ?_)
  have hK : va_K D cl [(k8, .int), (k17, .int)] s := hK
  have hP : va_P D cl [(a, .inr (3, [.null, .ref q8, .null, .null, .null])), (q8, .inl (k8, 440, .inl (fun _ => 0))), (q17, .inl (k17, 440, .inl (fun _ => 0)))] H := hP
  have hD : va_D A [(a, .inr (3, [.null, .ref q8, .null, .null, .null])), (q8, .inl (k8, 440, .inl (fun _ => 0))), (q17, .inl (k17, 440, .inl (fun _ => 0)))] := hD
  refine W.widen (k := 2) (n := 880) (by decide) (by decide) ?_
  refine va_putF (D := D) (ci := 3) (v := .ref q17) (ty := tyMa 2) (C := RMa) (T := TMa) (N := 5) hx hb hts inX_ tyMa tyMa_ok nmMa hown hK hP hD hS 0 rfl hcl.2.2.1 2 (by decide) f15 (fun _ h9 => h9) rfl hin rfl (tyMa_ok 2 (by decide)) rfl rfl (Nat.le_of_ble_eq_true rfl) dMa_init_19 (fun H locs hP hD hS => ?_)
  have hP : va_P D cl [(a, .inr (3, [.null, .ref q8, .ref q17, .null, .null])), (q8, .inl (k8, 440, .inl (fun _ => 0))), (q17, .inl (k17, 440, .inl (fun _ => 0)))] H := hP
  have hD : va_D A [(a, .inr (3, [.null, .ref q8, .ref q17, .null, .null])), (q8, .inl (k8, 440, .inl (fun _ => 0))), (q17, .inl (k17, 440, .inl (fun _ => 0)))] := hD
  refine lv_aload_n hx hb dMa_init_22 rfl (lv_at hl 0 rfl) ?_
  refine lv_sipush (v := 440) hx hb dMa_init_23 (by decide) ?_
  refine va_newa (atype := .int) (N' := 440) (a0 := (440, .inl (fun _ => 0))) (ty := .int) (n := 440) hx hb aci rfl hK hP hD hS hA (fun _ => rfl) (by decide) (by decide) (by decide) (by decide) (by decide) dMa_init_26 (fun q26 k26 H hK hP hD hS => ?_)
  have hK : va_K D cl [(k8, .int), (k17, .int), (k26, .int)] s := hK
  have hP : va_P D cl [(a, .inr (3, [.null, .ref q8, .ref q17, .null, .null])), (q8, .inl (k8, 440, .inl (fun _ => 0))), (q17, .inl (k17, 440, .inl (fun _ => 0))), (q26, .inl (k26, 440, .inl (fun _ => 0)))] H := hP
  have hD : va_D A [(a, .inr (3, [.null, .ref q8, .ref q17, .null, .null])), (q8, .inl (k8, 440, .inl (fun _ => 0))), (q17, .inl (k17, 440, .inl (fun _ => 0))), (q26, .inl (k26, 440, .inl (fun _ => 0)))] := hD
  refine W.widen (k := 3) (n := 1320) (by decide) (by decide) ?_
  refine va_putF (D := D) (ci := 3) (v := .ref q26) (ty := tyMa 3) (C := RMa) (T := TMa) (N := 5) hx hb hts inX_ tyMa tyMa_ok nmMa hown hK hP hD hS 0 rfl hcl.2.2.1 3 (by decide) f18 (fun _ h9 => h9) rfl hin rfl (tyMa_ok 3 (by decide)) rfl rfl (Nat.le_of_ble_eq_true rfl) dMa_init_28 (fun H locs hP hD hS => ?_)
  have hP : va_P D cl [(a, .inr (3, [.null, .ref q8, .ref q17, .ref q26, .null])), (q8, .inl (k8, 440, .inl (fun _ => 0))), (q17, .inl (k17, 440, .inl (fun _ => 0))), (q26, .inl (k26, 440, .inl (fun _ => 0)))] H := hP
  have hD : va_D A [(a, .inr (3, [.null, .ref q8, .ref q17, .ref q26, .null])), (q8, .inl (k8, 440, .inl (fun _ => 0))), (q17, .inl (k17, 440, .inl (fun _ => 0))), (q26, .inl (k26, 440, .inl (fun _ => 0)))] := hD
  refine lv_aload_n hx hb dMa_init_31 rfl (lv_at hl 0 rfl) ?_
  refine lv_sipush (v := 440) hx hb dMa_init_32 (by decide) ?_
  refine va_newa (atype := .int) (N' := 440) (a0 := (440, .inl (fun _ => 0))) (ty := .int) (n := 440) hx hb aci rfl hK hP hD hS hA (fun _ => rfl) (by decide) (by decide) (by decide) (by decide) (by decide) dMa_init_35 (fun q35 k35 H hK hP hD hS => ?_)
  have hK : va_K D cl [(k8, .int), (k17, .int), (k26, .int), (k35, .int)] s := hK
  have hP : va_P D cl [(a, .inr (3, [.null, .ref q8, .ref q17, .ref q26, .null])), (q8, .inl (k8, 440, .inl (fun _ => 0))), (q17, .inl (k17, 440, .inl (fun _ => 0))), (q26, .inl (k26, 440, .inl (fun _ => 0))), (q35, .inl (k35, 440, .inl (fun _ => 0)))] H := hP
  have hD : va_D A [(a, .inr (3, [.null, .ref q8, .ref q17, .ref q26, .null])), (q8, .inl (k8, 440, .inl (fun _ => 0))), (q17, .inl (k17, 440, .inl (fun _ => 0))), (q26, .inl (k26, 440, .inl (fun _ => 0))), (q35, .inl (k35, 440, .inl (fun _ => 0)))] := hD
  refine W.widen (k := 4) (n := 1760) (by decide) (by decide) ?_
  refine va_putF (D := D) (ci := 3) (v := .ref q35) (ty := tyMa 4) (C := RMa) (T := TMa) (N := 5) hx hb hts inX_ tyMa tyMa_ok nmMa hown hK hP hD hS 0 rfl hcl.2.2.1 4 (by decide) f21 (fun _ h9 => h9) rfl hin rfl (tyMa_ok 4 (by decide)) rfl rfl (Nat.le_of_ble_eq_true rfl) dMa_init_37 (fun H locs hP hD hS => ?_)
  have hP : va_P D cl [(a, .inr (3, [.null, .ref q8, .ref q17, .ref q26, .ref q35])), (q8, .inl (k8, 440, .inl (fun _ => 0))), (q17, .inl (k17, 440, .inl (fun _ => 0))), (q26, .inl (k26, 440, .inl (fun _ => 0))), (q35, .inl (k35, 440, .inl (fun _ => 0)))] H := hP
  have hD : va_D A [(a, .inr (3, [.null, .ref q8, .ref q17, .ref q26, .ref q35])), (q8, .inl (k8, 440, .inl (fun _ => 0))), (q17, .inl (k17, 440, .inl (fun _ => 0))), (q26, .inl (k26, 440, .inl (fun _ => 0))), (q35, .inl (k35, 440, .inl (fun _ => 0)))] := hD
  refine lv_aload_n hx hb dMa_init_40 rfl (lv_at hl 0 rfl) ?_
  refine lv_aload_n hx hb dMa_init_41 rfl (lv_at hl 1 rfl) ?_
  refine va_putF (D := D) (ci := 3) (v := .ref sh) (ty := tyMa 0) (C := RMa) (T := TMa) (N := 5) hx hb hts inX_ tyMa tyMa_ok nmMa hown hK hP hD hS 0 rfl hcl.2.2.1 0 (by decide) f24 (fun _ h9 => h9) rfl hin rfl (tyMa_ok 0 (by decide)) rfl rfl (Nat.le_of_ble_eq_true rfl) dMa_init_42 (fun H locs hP hD hS => ?_)
  have hP : va_P D cl [(a, .inr (3, [.ref sh, .ref q8, .ref q17, .ref q26, .ref q35])), (q8, .inl (k8, 440, .inl (fun _ => 0))), (q17, .inl (k17, 440, .inl (fun _ => 0))), (q26, .inl (k26, 440, .inl (fun _ => 0))), (q35, .inl (k35, 440, .inl (fun _ => 0)))] H := hP
  have hD : va_D A [(a, .inr (3, [.ref sh, .ref q8, .ref q17, .ref q26, .ref q35])), (q8, .inl (k8, 440, .inl (fun _ => 0))), (q17, .inl (k17, 440, .inl (fun _ => 0))), (q26, .inl (k26, 440, .inl (fun _ => 0))), (q35, .inl (k35, 440, .inl (fun _ => 0)))] := hD
  have hP9 : va_P D cl (iwMa a sh (fun j => if j = 2 then q8 else if j = 3 then q17 else if j = 4 then q26 else if j = 5 then q35 else 0) (fun j => if j = 2 then k8 else if j = 3 then k17 else if j = 4 then k26 else if j = 5 then k35 else k8)) H := hP
  have hD9 : va_D A (iwMa a sh (fun j => if j = 2 then q8 else if j = 3 then q17 else if j = 4 then q26 else if j = 5 then q35 else 0) (fun j => if j = 2 then k8 else if j = 3 then k17 else if j = 4 then k26 else if j = 5 then k35 else k8)) := hD
  have hK9 : va_K D cl (itMa (fun j => if j = 2 then k8 else if j = 3 then k17 else if j = 4 then k26 else if j = 5 then k35 else k8)) s := hK
  exact W.vret hx hb hr (fun t ht hW => ⟨⟨((fun j => if j = 2 then q8 else if j = 3 then q17 else if j = 4 then q26 else if j = 5 then q35 else 0), (fun j => if j = 2 then k8 else if j = 3 then k17 else if j = 4 then k26 else if j = 5 then k35 else k8)), rfl, trivial, by rw [ht]; exact hP9, va_K.moved hW.alike hK9, hD9⟩, hS.F ht⟩) hS.2.2 dMa_init_45
def iwBo (a : Nat) (sh : Nat) (q : Nat → Nat) (k : Nat → ClassId) : va_W := [(a, .inr (4, [.ref sh, .ref (q 102), .ref (q 6), .ref (q 7), .int 0, .int 0, .ref (q 8), .ref (q 9), .ref (q 10), .ref (q 11)])), (q 6, .inl (k 6, 4, .inl (fun _ => 0))), (q 7, .inl (k 7, 400, .inl (fun _ => 0))), (q 8, .inl (k 8, 4, .inl (fun _ => 0))), (q 9, .inl (k 9, 4, .inl (fun _ => 0))), (q 10, .inl (k 10, 16384, .inl (fun _ => 0))), (q 11, .inl (k 11, 4096, .inl (fun _ => 0))), (q 102, .inr (3, [.ref sh, .ref (q 2), .ref (q 3), .ref (q 4), .ref (q 5)])), (q 2, .inl (k 2, 440, .inl (fun _ => 0))), (q 3, .inl (k 3, 440, .inl (fun _ => 0))), (q 4, .inl (k 4, 440, .inl (fun _ => 0))), (q 5, .inl (k 5, 440, .inl (fun _ => 0)))]
def itBo (k : Nat → ClassId) : List (ClassId × FieldType) := [(k 6, .int), (k 7, .int), (k 8, .boolean), (k 9, .int), (k 10, .int), (k 11, .boolean), (k 2, .int), (k 3, .int), (k 4, .int), (k 5, .int)]
set_option maxHeartbeats 4000000 in
set_option maxRecDepth 100000 in
theorem c_Bo_init (l : Launch) (D : va_G) (cl : List vw_C) (hcl : cOK cl) (a sz : Nat) (sh : Nat) : Met l yBo_init wsBo_init ({ frames := 2, cells := 11, slots := 22657, locals := 33 } : Room) (va_Pc [.ref a, .ref sh] (fun U => U.heap.size = sz ∧ va_P D cl [(a, .inr (4, [.null, .null, .null, .null, .int 0, .int 0, .null, .null, .null, .null]))] U.heap ∧ va_K D cl [] U ∧ va_D (fun _ => True) [(a, .inr (4, [.null, .null, .null, .null, .int 0, .int 0, .null, .null, .null, .null]))])) (va_Qv (fun _ : (Nat → Nat) × (Nat → ClassId) => True) (fun u t => va_P D cl (iwBo a sh u.1 u.2) t.heap ∧ va_K D cl (itBo u.2) t ∧ va_D (va_A [(a, .inr (4, [.null, .null, .null, .null, .int 0, .int 0, .null, .null, .null, .null]))] sz) (iwBo a sh u.1 u.2)) (va_A [(a, .inr (4, [.null, .null, .null, .null, .int 0, .int 0, .null, .null, .null, .null]))] sz)) 11 22657 (va_A [(a, .inr (4, [.null, .null, .null, .null, .int 0, .int 0, .null, .null, .null, .null]))] sz) := by
  refine Met.ofW (cc := cBo_init) (maxL := 2) (ret := none) (by decide) rfl ?_
  intro p e s m args below meth c s₁ B hml hv
  obtain ⟨rfl, hsz, hP, hK, hD0⟩ := hv
  have hx := B.exec
  have hb := B.bytes
  have hr := B.returns
  have hts := atoms_spec (ws := wsBo_init) B.pre
  have hown : s.vm.findClass RBo = some m.cls := findClass_of_methodNamed B.named
  have hlocks := B.notSynchronized
  have hin : meth.name = "<init>" := (name_of_methodNamed B.named B.method).1
  subst hsz
  have hD := hD0.self (sz := s.heap.size)
  generalize hAe : va_A [(a, .inr (4, [.null, .null, .null, .null, .int 0, .int 0, .null, .null, .null, .null]))] s.heap.size = A at hD ⊢
  have hA : ∀ q : Nat, s.heap.size ≤ q → A q := fun q h => by rw [← hAe]; exact Or.inr h
  have hS : va_S A s.heap s.heap [] := va_S.rf
  have hP : va_P D cl [(a, .inr (4, [.null, .null, .null, .null, .int 0, .int 0, .null, .null, .null, .null]))] s.heap := hP
  have hl := lv_entry ([.ref a, .ref sh]) (n := 2) (Nat.le_of_ble_eq_true rfl)
  rw [lg_entry_eq]
  generalize (lg_sl ([.ref a, .ref sh]) ++ List.replicate (2 - (lg_sl ([.ref a, .ref sh])).length) Slot.unset).toArray = ls at hl ⊢
  have hl : lv_has ls 2 [(0, .ref a), (1, .ref sh)] := hl
  have inX_ : ∀ w ∈ wsBo0, w ∈ wsBo_init := fun w h => List.mem_cons_of_mem _ (inBo_all w h)
  have oi := hts _ (List.mem_cons_of_mem _ mlBo_3)
  have oj := hts _ (List.mem_cons_of_mem _ miO_cALL)
  have oc := hts _ (List.mem_cons_of_mem _ mcO_cALL)
  have aci := hts _ (List.mem_cons_of_mem _ ma_cALL_int)
  have f9 := hts _ (List.mem_cons_of_mem _ mfBo_9)
  have f15 := hts _ (List.mem_cons_of_mem _ mfBo_15)
  have f18 := hts _ (List.mem_cons_of_mem _ mfBo_18)
  have f22 := hts _ (List.mem_cons_of_mem _ mfBo_22)
  have acb := hts _ (List.mem_cons_of_mem _ ma_cALL_boolean)
  have f25 := hts _ (List.mem_cons_of_mem _ mfBo_25)
  have f29 := hts _ (List.mem_cons_of_mem _ mfBo_29)
  have f32 := hts _ (List.mem_cons_of_mem _ mfBo_32)
  have f35 := hts _ (List.mem_cons_of_mem _ mfBo_35)
  have f38 := hts _ (List.mem_cons_of_mem _ mfBo_38)
  have inMa_ : ∀ w ∈ wsMa0, w ∈ wsBo_init := fun w h => List.mem_cons_of_mem _ (inMa_all w h)
  have wx42 := hts _ (List.mem_cons_of_mem _ mxBo_42)
  have wtMa := hts _ (List.mem_cons_of_mem _ mtMa)
  have wnMa := hts _ (List.mem_cons_of_mem _ mnMa)
  have wiMa := hts _ (List.mem_cons_of_mem _ miMa_init)
  have wl44 := hts _ (List.mem_cons_of_mem _ mlBo_44)
  have f47 := hts _ (List.mem_cons_of_mem _ mfBo_47)
  refine lv_aload_n hx hb dBo_init_0 rfl (lv_at hl 0 rfl) ?_
  refine W.objInit hx hb hown oi oj oc rfl (by rw [hml]; exact hl.1) rfl dBo_init_1 (Nat.le_of_ble_eq_true rfl) (Nat.le_of_ble_eq_true rfl) ?_
  refine W.eq (g2 := F0 m 4 ls []) rfl ?_
  refine lv_aload_n hx hb dBo_init_4 rfl (lv_at hl 0 rfl) ?_
  refine lv_iconst (v := 4) hx hb dBo_init_5 (by decide) ?_
  refine va_newa (atype := .int) (N' := 4) (a0 := (4, .inl (fun _ => 0))) (ty := .int) (n := 4) hx hb aci rfl hK hP hD hS hA (fun _ => rfl) (by decide) (by decide) (by decide) (by decide) (by decide) dBo_init_6 (fun q6 k6 H hK hP hD hS => ?_)
  have hK : va_K D cl [(k6, .int)] s := hK
  have hP : va_P D cl [(a, .inr (4, [.null, .null, .null, .null, .int 0, .int 0, .null, .null, .null, .null])), (q6, .inl (k6, 4, .inl (fun _ => 0)))] H := hP
  have hD : va_D A [(a, .inr (4, [.null, .null, .null, .null, .int 0, .int 0, .null, .null, .null, .null])), (q6, .inl (k6, 4, .inl (fun _ => 0)))] := hD
  refine W.widen (k := 1) (n := 4) (by decide) (by decide) ?_
  refine va_putF (D := D) (ci := 4) (v := .ref q6) (ty := tyBo 2) (C := RBo) (T := TBo) (N := 10) hx hb hts inX_ tyBo tyBo_ok nmBo hown hK hP hD hS 0 rfl hcl.2.2.2.1 2 (by decide) f9 (fun _ h9 => h9) rfl hin rfl (tyBo_ok 2 (by decide)) rfl rfl (Nat.le_of_ble_eq_true rfl) dBo_init_8 (fun H locs hP hD hS => ?_)
  have hP : va_P D cl [(a, .inr (4, [.null, .null, .ref q6, .null, .int 0, .int 0, .null, .null, .null, .null])), (q6, .inl (k6, 4, .inl (fun _ => 0)))] H := hP
  have hD : va_D A [(a, .inr (4, [.null, .null, .ref q6, .null, .int 0, .int 0, .null, .null, .null, .null])), (q6, .inl (k6, 4, .inl (fun _ => 0)))] := hD
  refine lv_aload_n hx hb dBo_init_11 rfl (lv_at hl 0 rfl) ?_
  refine lv_sipush (v := 400) hx hb dBo_init_12 (by decide) ?_
  refine va_newa (atype := .int) (N' := 400) (a0 := (400, .inl (fun _ => 0))) (ty := .int) (n := 400) hx hb aci rfl hK hP hD hS hA (fun _ => rfl) (by decide) (by decide) (by decide) (by decide) (by decide) dBo_init_15 (fun q15 k15 H hK hP hD hS => ?_)
  have hK : va_K D cl [(k6, .int), (k15, .int)] s := hK
  have hP : va_P D cl [(a, .inr (4, [.null, .null, .ref q6, .null, .int 0, .int 0, .null, .null, .null, .null])), (q6, .inl (k6, 4, .inl (fun _ => 0))), (q15, .inl (k15, 400, .inl (fun _ => 0)))] H := hP
  have hD : va_D A [(a, .inr (4, [.null, .null, .ref q6, .null, .int 0, .int 0, .null, .null, .null, .null])), (q6, .inl (k6, 4, .inl (fun _ => 0))), (q15, .inl (k15, 400, .inl (fun _ => 0)))] := hD
  refine W.widen (k := 2) (n := 404) (by decide) (by decide) ?_
  refine va_putF (D := D) (ci := 4) (v := .ref q15) (ty := tyBo 3) (C := RBo) (T := TBo) (N := 10) hx hb hts inX_ tyBo tyBo_ok nmBo hown hK hP hD hS 0 rfl hcl.2.2.2.1 3 (by decide) f15 (fun _ h9 => h9) rfl hin rfl (tyBo_ok 3 (by decide)) rfl rfl (Nat.le_of_ble_eq_true rfl) dBo_init_17 (fun H locs hP hD hS => ?_)
  have hP : va_P D cl [(a, .inr (4, [.null, .null, .ref q6, .ref q15, .int 0, .int 0, .null, .null, .null, .null])), (q6, .inl (k6, 4, .inl (fun _ => 0))), (q15, .inl (k15, 400, .inl (fun _ => 0)))] H := hP
  have hD : va_D A [(a, .inr (4, [.null, .null, .ref q6, .ref q15, .int 0, .int 0, .null, .null, .null, .null])), (q6, .inl (k6, 4, .inl (fun _ => 0))), (q15, .inl (k15, 400, .inl (fun _ => 0)))] := hD
  refine lv_aload_n hx hb dBo_init_20 rfl (lv_at hl 0 rfl) ?_
  refine lv_iconst (v := 0) hx hb dBo_init_21 (by decide) ?_
  refine va_put (D := D) (ci := 4) (v := .int 0) (ty := tyBo 4) (C := RBo) (T := TBo) (N := 10) hx hb hts inX_ tyBo tyBo_ok nmBo hown hK hP hD hS 0 rfl hcl.2.2.2.1 4 (by decide) f18 (fun _ h9 => h9) rfl (tyBo_ok 4 (by decide)) rfl rfl (Nat.le_of_ble_eq_true rfl) dBo_init_22 (fun H locs hP hD hS => ?_)
  have hP : va_P D cl [(a, .inr (4, [.null, .null, .ref q6, .ref q15, .int 0, .int 0, .null, .null, .null, .null])), (q6, .inl (k6, 4, .inl (fun _ => 0))), (q15, .inl (k15, 400, .inl (fun _ => 0)))] H := hP
  have hD : va_D A [(a, .inr (4, [.null, .null, .ref q6, .ref q15, .int 0, .int 0, .null, .null, .null, .null])), (q6, .inl (k6, 4, .inl (fun _ => 0))), (q15, .inl (k15, 400, .inl (fun _ => 0)))] := hD
  refine lv_aload_n hx hb dBo_init_25 rfl (lv_at hl 0 rfl) ?_
  refine lv_iconst (v := 0) hx hb dBo_init_26 (by decide) ?_
  refine va_put (D := D) (ci := 4) (v := .int 0) (ty := tyBo 5) (C := RBo) (T := TBo) (N := 10) hx hb hts inX_ tyBo tyBo_ok nmBo hown hK hP hD hS 0 rfl hcl.2.2.2.1 5 (by decide) f22 (fun _ h9 => h9) rfl (tyBo_ok 5 (by decide)) rfl rfl (Nat.le_of_ble_eq_true rfl) dBo_init_27 (fun H locs hP hD hS => ?_)
  have hP : va_P D cl [(a, .inr (4, [.null, .null, .ref q6, .ref q15, .int 0, .int 0, .null, .null, .null, .null])), (q6, .inl (k6, 4, .inl (fun _ => 0))), (q15, .inl (k15, 400, .inl (fun _ => 0)))] H := hP
  have hD : va_D A [(a, .inr (4, [.null, .null, .ref q6, .ref q15, .int 0, .int 0, .null, .null, .null, .null])), (q6, .inl (k6, 4, .inl (fun _ => 0))), (q15, .inl (k15, 400, .inl (fun _ => 0)))] := hD
  refine lv_aload_n hx hb dBo_init_30 rfl (lv_at hl 0 rfl) ?_
  refine lv_iconst (v := 4) hx hb dBo_init_31 (by decide) ?_
  refine va_newa (atype := .boolean) (N' := 4) (a0 := (4, .inl (fun _ => 0))) (ty := .boolean) (n := 4) hx hb acb rfl hK hP hD hS hA (fun _ => rfl) (by decide) (by decide) (by decide) (by decide) (by decide) dBo_init_32 (fun q32 k32 H hK hP hD hS => ?_)
  have hK : va_K D cl [(k6, .int), (k15, .int), (k32, .boolean)] s := hK
  have hP : va_P D cl [(a, .inr (4, [.null, .null, .ref q6, .ref q15, .int 0, .int 0, .null, .null, .null, .null])), (q6, .inl (k6, 4, .inl (fun _ => 0))), (q15, .inl (k15, 400, .inl (fun _ => 0))), (q32, .inl (k32, 4, .inl (fun _ => 0)))] H := hP
  have hD : va_D A [(a, .inr (4, [.null, .null, .ref q6, .ref q15, .int 0, .int 0, .null, .null, .null, .null])), (q6, .inl (k6, 4, .inl (fun _ => 0))), (q15, .inl (k15, 400, .inl (fun _ => 0))), (q32, .inl (k32, 4, .inl (fun _ => 0)))] := hD
  refine W.widen (k := 3) (n := 408) (by decide) (by decide) ?_
  refine va_putF (D := D) (ci := 4) (v := .ref q32) (ty := tyBo 6) (C := RBo) (T := TBo) (N := 10) hx hb hts inX_ tyBo tyBo_ok nmBo hown hK hP hD hS 0 rfl hcl.2.2.2.1 6 (by decide) f25 (fun _ h9 => h9) rfl hin rfl (tyBo_ok 6 (by decide)) rfl rfl (Nat.le_of_ble_eq_true rfl) dBo_init_34 (fun H locs hP hD hS => ?_)
  have hP : va_P D cl [(a, .inr (4, [.null, .null, .ref q6, .ref q15, .int 0, .int 0, .ref q32, .null, .null, .null])), (q6, .inl (k6, 4, .inl (fun _ => 0))), (q15, .inl (k15, 400, .inl (fun _ => 0))), (q32, .inl (k32, 4, .inl (fun _ => 0)))] H := hP
  have hD : va_D A [(a, .inr (4, [.null, .null, .ref q6, .ref q15, .int 0, .int 0, .ref q32, .null, .null, .null])), (q6, .inl (k6, 4, .inl (fun _ => 0))), (q15, .inl (k15, 400, .inl (fun _ => 0))), (q32, .inl (k32, 4, .inl (fun _ => 0)))] := hD
  refine lv_aload_n hx hb dBo_init_37 rfl (lv_at hl 0 rfl) ?_
  refine lv_iconst (v := 4) hx hb dBo_init_38 (by decide) ?_
  refine va_newa (atype := .int) (N' := 4) (a0 := (4, .inl (fun _ => 0))) (ty := .int) (n := 4) hx hb aci rfl hK hP hD hS hA (fun _ => rfl) (by decide) (by decide) (by decide) (by decide) (by decide) dBo_init_39 (fun q39 k39 H hK hP hD hS => ?_)
  have hK : va_K D cl [(k6, .int), (k15, .int), (k32, .boolean), (k39, .int)] s := hK
  have hP : va_P D cl [(a, .inr (4, [.null, .null, .ref q6, .ref q15, .int 0, .int 0, .ref q32, .null, .null, .null])), (q6, .inl (k6, 4, .inl (fun _ => 0))), (q15, .inl (k15, 400, .inl (fun _ => 0))), (q32, .inl (k32, 4, .inl (fun _ => 0))), (q39, .inl (k39, 4, .inl (fun _ => 0)))] H := hP
  have hD : va_D A [(a, .inr (4, [.null, .null, .ref q6, .ref q15, .int 0, .int 0, .ref q32, .null, .null, .null])), (q6, .inl (k6, 4, .inl (fun _ => 0))), (q15, .inl (k15, 400, .inl (fun _ => 0))), (q32, .inl (k32, 4, .inl (fun _ => 0))), (q39, .inl (k39, 4, .inl (fun _ => 0)))] := hD
  refine W.widen (k := 4) (n := 412) (by decide) (by decide) ?_
  refine va_putF (D := D) (ci := 4) (v := .ref q39) (ty := tyBo 7) (C := RBo) (T := TBo) (N := 10) hx hb hts inX_ tyBo tyBo_ok nmBo hown hK hP hD hS 0 rfl hcl.2.2.2.1 7 (by decide) f29 (fun _ h9 => h9) rfl hin rfl (tyBo_ok 7 (by decide)) rfl rfl (Nat.le_of_ble_eq_true rfl) dBo_init_41 (fun H locs hP hD hS => ?_)
  have hP : va_P D cl [(a, .inr (4, [.null, .null, .ref q6, .ref q15, .int 0, .int 0, .ref q32, .ref q39, .null, .null])), (q6, .inl (k6, 4, .inl (fun _ => 0))), (q15, .inl (k15, 400, .inl (fun _ => 0))), (q32, .inl (k32, 4, .inl (fun _ => 0))), (q39, .inl (k39, 4, .inl (fun _ => 0)))] H := hP
  have hD : va_D A [(a, .inr (4, [.null, .null, .ref q6, .ref q15, .int 0, .int 0, .ref q32, .ref q39, .null, .null])), (q6, .inl (k6, 4, .inl (fun _ => 0))), (q15, .inl (k15, 400, .inl (fun _ => 0))), (q32, .inl (k32, 4, .inl (fun _ => 0))), (q39, .inl (k39, 4, .inl (fun _ => 0)))] := hD
  refine lv_aload_n hx hb dBo_init_44 rfl (lv_at hl 0 rfl) ?_
  refine lv_sipush (v := 16384) hx hb dBo_init_45 (by decide) ?_
  refine va_newa (atype := .int) (N' := 16384) (a0 := (16384, .inl (fun _ => 0))) (ty := .int) (n := 16384) hx hb aci rfl hK hP hD hS hA (fun _ => rfl) (by decide) (by decide) (by decide) (by decide) (by decide) dBo_init_48 (fun q48 k48 H hK hP hD hS => ?_)
  have hK : va_K D cl [(k6, .int), (k15, .int), (k32, .boolean), (k39, .int), (k48, .int)] s := hK
  have hP : va_P D cl [(a, .inr (4, [.null, .null, .ref q6, .ref q15, .int 0, .int 0, .ref q32, .ref q39, .null, .null])), (q6, .inl (k6, 4, .inl (fun _ => 0))), (q15, .inl (k15, 400, .inl (fun _ => 0))), (q32, .inl (k32, 4, .inl (fun _ => 0))), (q39, .inl (k39, 4, .inl (fun _ => 0))), (q48, .inl (k48, 16384, .inl (fun _ => 0)))] H := hP
  have hD : va_D A [(a, .inr (4, [.null, .null, .ref q6, .ref q15, .int 0, .int 0, .ref q32, .ref q39, .null, .null])), (q6, .inl (k6, 4, .inl (fun _ => 0))), (q15, .inl (k15, 400, .inl (fun _ => 0))), (q32, .inl (k32, 4, .inl (fun _ => 0))), (q39, .inl (k39, 4, .inl (fun _ => 0))), (q48, .inl (k48, 16384, .inl (fun _ => 0)))] := hD
  refine W.widen (k := 5) (n := 16796) (by decide) (by decide) ?_
  refine va_putF (D := D) (ci := 4) (v := .ref q48) (ty := tyBo 8) (C := RBo) (T := TBo) (N := 10) hx hb hts inX_ tyBo tyBo_ok nmBo hown hK hP hD hS 0 rfl hcl.2.2.2.1 8 (by decide) f32 (fun _ h9 => h9) rfl hin rfl (tyBo_ok 8 (by decide)) rfl rfl (Nat.le_of_ble_eq_true rfl) dBo_init_50 (fun H locs hP hD hS => ?_)
  have hP : va_P D cl [(a, .inr (4, [.null, .null, .ref q6, .ref q15, .int 0, .int 0, .ref q32, .ref q39, .ref q48, .null])), (q6, .inl (k6, 4, .inl (fun _ => 0))), (q15, .inl (k15, 400, .inl (fun _ => 0))), (q32, .inl (k32, 4, .inl (fun _ => 0))), (q39, .inl (k39, 4, .inl (fun _ => 0))), (q48, .inl (k48, 16384, .inl (fun _ => 0)))] H := hP
  have hD : va_D A [(a, .inr (4, [.null, .null, .ref q6, .ref q15, .int 0, .int 0, .ref q32, .ref q39, .ref q48, .null])), (q6, .inl (k6, 4, .inl (fun _ => 0))), (q15, .inl (k15, 400, .inl (fun _ => 0))), (q32, .inl (k32, 4, .inl (fun _ => 0))), (q39, .inl (k39, 4, .inl (fun _ => 0))), (q48, .inl (k48, 16384, .inl (fun _ => 0)))] := hD
  refine lv_aload_n hx hb dBo_init_53 rfl (lv_at hl 0 rfl) ?_
  refine lv_sipush (v := 4096) hx hb dBo_init_54 (by decide) ?_
  refine va_newa (atype := .boolean) (N' := 4096) (a0 := (4096, .inl (fun _ => 0))) (ty := .boolean) (n := 4096) hx hb acb rfl hK hP hD hS hA (fun _ => rfl) (by decide) (by decide) (by decide) (by decide) (by decide) dBo_init_57 (fun q57 k57 H hK hP hD hS => ?_)
  have hK : va_K D cl [(k6, .int), (k15, .int), (k32, .boolean), (k39, .int), (k48, .int), (k57, .boolean)] s := hK
  have hP : va_P D cl [(a, .inr (4, [.null, .null, .ref q6, .ref q15, .int 0, .int 0, .ref q32, .ref q39, .ref q48, .null])), (q6, .inl (k6, 4, .inl (fun _ => 0))), (q15, .inl (k15, 400, .inl (fun _ => 0))), (q32, .inl (k32, 4, .inl (fun _ => 0))), (q39, .inl (k39, 4, .inl (fun _ => 0))), (q48, .inl (k48, 16384, .inl (fun _ => 0))), (q57, .inl (k57, 4096, .inl (fun _ => 0)))] H := hP
  have hD : va_D A [(a, .inr (4, [.null, .null, .ref q6, .ref q15, .int 0, .int 0, .ref q32, .ref q39, .ref q48, .null])), (q6, .inl (k6, 4, .inl (fun _ => 0))), (q15, .inl (k15, 400, .inl (fun _ => 0))), (q32, .inl (k32, 4, .inl (fun _ => 0))), (q39, .inl (k39, 4, .inl (fun _ => 0))), (q48, .inl (k48, 16384, .inl (fun _ => 0))), (q57, .inl (k57, 4096, .inl (fun _ => 0)))] := hD
  refine W.widen (k := 6) (n := 20892) (by decide) (by decide) ?_
  refine va_putF (D := D) (ci := 4) (v := .ref q57) (ty := tyBo 9) (C := RBo) (T := TBo) (N := 10) hx hb hts inX_ tyBo tyBo_ok nmBo hown hK hP hD hS 0 rfl hcl.2.2.2.1 9 (by decide) f35 (fun _ h9 => h9) rfl hin rfl (tyBo_ok 9 (by decide)) rfl rfl (Nat.le_of_ble_eq_true rfl) dBo_init_59 (fun H locs hP hD hS => ?_)
  have hP : va_P D cl [(a, .inr (4, [.null, .null, .ref q6, .ref q15, .int 0, .int 0, .ref q32, .ref q39, .ref q48, .ref q57])), (q6, .inl (k6, 4, .inl (fun _ => 0))), (q15, .inl (k15, 400, .inl (fun _ => 0))), (q32, .inl (k32, 4, .inl (fun _ => 0))), (q39, .inl (k39, 4, .inl (fun _ => 0))), (q48, .inl (k48, 16384, .inl (fun _ => 0))), (q57, .inl (k57, 4096, .inl (fun _ => 0)))] H := hP
  have hD : va_D A [(a, .inr (4, [.null, .null, .ref q6, .ref q15, .int 0, .int 0, .ref q32, .ref q39, .ref q48, .ref q57])), (q6, .inl (k6, 4, .inl (fun _ => 0))), (q15, .inl (k15, 400, .inl (fun _ => 0))), (q32, .inl (k32, 4, .inl (fun _ => 0))), (q39, .inl (k39, 4, .inl (fun _ => 0))), (q48, .inl (k48, 16384, .inl (fun _ => 0))), (q57, .inl (k57, 4096, .inl (fun _ => 0)))] := hD
  refine lv_aload_n hx hb dBo_init_62 rfl (lv_at hl 0 rfl) ?_
  refine lv_aload_n hx hb dBo_init_63 rfl (lv_at hl 1 rfl) ?_
  refine va_putF (D := D) (ci := 4) (v := .ref sh) (ty := tyBo 0) (C := RBo) (T := TBo) (N := 10) hx hb hts inX_ tyBo tyBo_ok nmBo hown hK hP hD hS 0 rfl hcl.2.2.2.1 0 (by decide) f38 (fun _ h9 => h9) rfl hin rfl (tyBo_ok 0 (by decide)) rfl rfl (Nat.le_of_ble_eq_true rfl) dBo_init_64 (fun H locs hP hD hS => ?_)
  have hP : va_P D cl [(a, .inr (4, [.ref sh, .null, .ref q6, .ref q15, .int 0, .int 0, .ref q32, .ref q39, .ref q48, .ref q57])), (q6, .inl (k6, 4, .inl (fun _ => 0))), (q15, .inl (k15, 400, .inl (fun _ => 0))), (q32, .inl (k32, 4, .inl (fun _ => 0))), (q39, .inl (k39, 4, .inl (fun _ => 0))), (q48, .inl (k48, 16384, .inl (fun _ => 0))), (q57, .inl (k57, 4096, .inl (fun _ => 0)))] H := hP
  have hD : va_D A [(a, .inr (4, [.ref sh, .null, .ref q6, .ref q15, .int 0, .int 0, .ref q32, .ref q39, .ref q48, .ref q57])), (q6, .inl (k6, 4, .inl (fun _ => 0))), (q15, .inl (k15, 400, .inl (fun _ => 0))), (q32, .inl (k32, 4, .inl (fun _ => 0))), (q39, .inl (k39, 4, .inl (fun _ => 0))), (q48, .inl (k48, 16384, .inl (fun _ => 0))), (q57, .inl (k57, 4096, .inl (fun _ => 0)))] := hD
  refine lv_aload_n hx hb dBo_init_67 rfl (lv_at hl 0 rfl) ?_
  refine va_new (ci := 3) (fs := [.null, .null, .null, .null, .null]) (C := RMa) (T := TMa) (N := 5) hx hb hts inMa_ tyMa tyMa_ok hown wx42 wtMa wnMa hK hP hD hS hA hcl.2.2.1 (by decide +kernel) (by decide) (by decide) dBo_init_68 (fun q68 H hP hD hS => ?_)
  have hP : va_P D cl [(a, .inr (4, [.ref sh, .null, .ref q6, .ref q15, .int 0, .int 0, .ref q32, .ref q39, .ref q48, .ref q57])), (q6, .inl (k6, 4, .inl (fun _ => 0))), (q15, .inl (k15, 400, .inl (fun _ => 0))), (q32, .inl (k32, 4, .inl (fun _ => 0))), (q39, .inl (k39, 4, .inl (fun _ => 0))), (q48, .inl (k48, 16384, .inl (fun _ => 0))), (q57, .inl (k57, 4096, .inl (fun _ => 0))), (q68, .inr (3, [.null, .null, .null, .null, .null]))] H := hP
  have hD : va_D A [(a, .inr (4, [.ref sh, .null, .ref q6, .ref q15, .int 0, .int 0, .ref q32, .ref q39, .ref q48, .ref q57])), (q6, .inl (k6, 4, .inl (fun _ => 0))), (q15, .inl (k15, 400, .inl (fun _ => 0))), (q32, .inl (k32, 4, .inl (fun _ => 0))), (q39, .inl (k39, 4, .inl (fun _ => 0))), (q48, .inl (k48, 16384, .inl (fun _ => 0))), (q57, .inl (k57, 4096, .inl (fun _ => 0))), (q68, .inr (3, [.null, .null, .null, .null, .null]))] := hD
  refine W.widen (k := 7) (n := 20897) (by decide) (by decide) ?_
  refine lv_dup hx hb dBo_init_71 rfl ?_
  refine lv_aload_n hx hb dBo_init_72 rfl (lv_at hl 1 rfl) ?_
  have hPc := hP.sub (ws' := [(q68, .inr (3, [.null, .null, .null, .null, .null]))]) [7] rfl
  have hDc := hD.sub (ws' := [(q68, .inr (3, [.null, .null, .null, .null, .null]))]) [7] (by decide) rfl
  have hKc := hK.sub (tys' := []) [] rfl
  have hFc := va_free (wc := [(q68, .inr (3, [.null, .null, .null, .null, .null]))]) hD hS hA [7] rfl
  refine va_callv (va_runI (As := [.ref sh]) (rest := [.ref q68, .ref a]) ⟨hx, hb, hml, hown, hts⟩ (c_Ma_init l D cl hcl q68 H.size sh) (cwI 1 hts (gI_cALL mcMa_init) rfl rfl rfl wnMa wl44 wiMa rfl (by decide +kernel) ⟨Nat.le_of_ble_eq_true rfl, Nat.le_of_ble_eq_true rfl⟩) ⟨fun a U g mk q => by obtain ⟨q0, q1, qP, qK, qD⟩ := q; exact ⟨q0, q1, qP, va_K.moved (u := U) (U := U.calling g mk a) (Vm.Alike.refl U.vm) qK, qD⟩, fun U hU hW => ⟨rfl, by rw [hU], by rw [hU]; exact hPc, va_K.moved hW.alike hKc, hDc.weaken (fun _ _ _ _ => trivial)⟩⟩ rfl rfl hl.1 rfl (lv_room (Nat.le_of_ble_eq_true rfl)) dBo_init_73 ⟨by decide, by decide⟩) hS (fun q _ h => hFc q h) hFc (fun uMa t H1 locs ht hvm _ hB hz1 hk1 hS => ?_)
  obtain ⟨hP1, hK1, hD1⟩ := hB
  rw [ht] at hP1
  have hK1 := va_K.moved hvm.symm hK1
  obtain ⟨hP, hD⟩ := va_join (wr := [(a, .inr (4, [.ref sh, .null, .ref q6, .ref q15, .int 0, .int 0, .ref q32, .ref q39, .ref q48, .ref q57])), (q6, .inl (k6, 4, .inl (fun _ => 0))), (q15, .inl (k15, 400, .inl (fun _ => 0))), (q32, .inl (k32, 4, .inl (fun _ => 0))), (q39, .inl (k39, 4, .inl (fun _ => 0))), (q48, .inl (k48, 16384, .inl (fun _ => 0))), (q57, .inl (k57, 4096, .inl (fun _ => 0)))]) (w1 := iwMa q68 sh uMa.1 uMa.2) hP hD [7] [0, 1, 2, 3, 4, 5, 6] rfl rfl (by decide) (by decide) hk1 hFc hP1 hD1
  have hK := (hK.sub (tys' := [(k6, .int), (k15, .int), (k32, .boolean), (k39, .int), (k48, .int), (k57, .boolean)]) [0, 1, 2, 3, 4, 5] rfl).app hK1
  generalize H1 = H at hP hS ⊢
  have hK : va_K D cl [(k6, .int), (k15, .int), (k32, .boolean), (k39, .int), (k48, .int), (k57, .boolean), ((uMa.2 2), .int), ((uMa.2 3), .int), ((uMa.2 4), .int), ((uMa.2 5), .int)] s := hK
  have hP : va_P D cl [(a, .inr (4, [.ref sh, .null, .ref q6, .ref q15, .int 0, .int 0, .ref q32, .ref q39, .ref q48, .ref q57])), (q6, .inl (k6, 4, .inl (fun _ => 0))), (q15, .inl (k15, 400, .inl (fun _ => 0))), (q32, .inl (k32, 4, .inl (fun _ => 0))), (q39, .inl (k39, 4, .inl (fun _ => 0))), (q48, .inl (k48, 16384, .inl (fun _ => 0))), (q57, .inl (k57, 4096, .inl (fun _ => 0))), (q68, .inr (3, [.ref sh, .ref (uMa.1 2), .ref (uMa.1 3), .ref (uMa.1 4), .ref (uMa.1 5)])), ((uMa.1 2), .inl ((uMa.2 2), 440, .inl (fun _ => 0))), ((uMa.1 3), .inl ((uMa.2 3), 440, .inl (fun _ => 0))), ((uMa.1 4), .inl ((uMa.2 4), 440, .inl (fun _ => 0))), ((uMa.1 5), .inl ((uMa.2 5), 440, .inl (fun _ => 0)))] H := hP
  have hD : va_D A [(a, .inr (4, [.ref sh, .null, .ref q6, .ref q15, .int 0, .int 0, .ref q32, .ref q39, .ref q48, .ref q57])), (q6, .inl (k6, 4, .inl (fun _ => 0))), (q15, .inl (k15, 400, .inl (fun _ => 0))), (q32, .inl (k32, 4, .inl (fun _ => 0))), (q39, .inl (k39, 4, .inl (fun _ => 0))), (q48, .inl (k48, 16384, .inl (fun _ => 0))), (q57, .inl (k57, 4096, .inl (fun _ => 0))), (q68, .inr (3, [.ref sh, .ref (uMa.1 2), .ref (uMa.1 3), .ref (uMa.1 4), .ref (uMa.1 5)])), ((uMa.1 2), .inl ((uMa.2 2), 440, .inl (fun _ => 0))), ((uMa.1 3), .inl ((uMa.2 3), 440, .inl (fun _ => 0))), ((uMa.1 4), .inl ((uMa.2 4), 440, .inl (fun _ => 0))), ((uMa.1 5), .inl ((uMa.2 5), 440, .inl (fun _ => 0)))] := hD
  refine W.widen (k := 11) (n := 22657) (by decide) (by decide) ?_
  refine va_putF (D := D) (ci := 4) (v := .ref q68) (ty := tyBo 1) (C := RBo) (T := TBo) (N := 10) hx hb hts inX_ tyBo tyBo_ok nmBo hown hK hP hD hS 0 rfl hcl.2.2.2.1 1 (by decide) f47 (fun _ h9 => h9) rfl hin rfl (tyBo_ok 1 (by decide)) rfl rfl (Nat.le_of_ble_eq_true rfl) dBo_init_76 (fun H locs hP hD hS => ?_)
  have hP : va_P D cl [(a, .inr (4, [.ref sh, .ref q68, .ref q6, .ref q15, .int 0, .int 0, .ref q32, .ref q39, .ref q48, .ref q57])), (q6, .inl (k6, 4, .inl (fun _ => 0))), (q15, .inl (k15, 400, .inl (fun _ => 0))), (q32, .inl (k32, 4, .inl (fun _ => 0))), (q39, .inl (k39, 4, .inl (fun _ => 0))), (q48, .inl (k48, 16384, .inl (fun _ => 0))), (q57, .inl (k57, 4096, .inl (fun _ => 0))), (q68, .inr (3, [.ref sh, .ref (uMa.1 2), .ref (uMa.1 3), .ref (uMa.1 4), .ref (uMa.1 5)])), ((uMa.1 2), .inl ((uMa.2 2), 440, .inl (fun _ => 0))), ((uMa.1 3), .inl ((uMa.2 3), 440, .inl (fun _ => 0))), ((uMa.1 4), .inl ((uMa.2 4), 440, .inl (fun _ => 0))), ((uMa.1 5), .inl ((uMa.2 5), 440, .inl (fun _ => 0)))] H := hP
  have hD : va_D A [(a, .inr (4, [.ref sh, .ref q68, .ref q6, .ref q15, .int 0, .int 0, .ref q32, .ref q39, .ref q48, .ref q57])), (q6, .inl (k6, 4, .inl (fun _ => 0))), (q15, .inl (k15, 400, .inl (fun _ => 0))), (q32, .inl (k32, 4, .inl (fun _ => 0))), (q39, .inl (k39, 4, .inl (fun _ => 0))), (q48, .inl (k48, 16384, .inl (fun _ => 0))), (q57, .inl (k57, 4096, .inl (fun _ => 0))), (q68, .inr (3, [.ref sh, .ref (uMa.1 2), .ref (uMa.1 3), .ref (uMa.1 4), .ref (uMa.1 5)])), ((uMa.1 2), .inl ((uMa.2 2), 440, .inl (fun _ => 0))), ((uMa.1 3), .inl ((uMa.2 3), 440, .inl (fun _ => 0))), ((uMa.1 4), .inl ((uMa.2 4), 440, .inl (fun _ => 0))), ((uMa.1 5), .inl ((uMa.2 5), 440, .inl (fun _ => 0)))] := hD
  have hP9 : va_P D cl (iwBo a sh (fun j => if j = 6 then q6 else if j = 7 then q15 else if j = 8 then q32 else if j = 9 then q39 else if j = 10 then q48 else if j = 11 then q57 else if j = 102 then q68 else if j = 2 then (uMa.1 2) else if j = 3 then (uMa.1 3) else if j = 4 then (uMa.1 4) else if j = 5 then (uMa.1 5) else 0) (fun j => if j = 6 then k6 else if j = 7 then k15 else if j = 8 then k32 else if j = 9 then k39 else if j = 10 then k48 else if j = 11 then k57 else if j = 2 then (uMa.2 2) else if j = 3 then (uMa.2 3) else if j = 4 then (uMa.2 4) else if j = 5 then (uMa.2 5) else k6)) H := hP
  have hD9 : va_D A (iwBo a sh (fun j => if j = 6 then q6 else if j = 7 then q15 else if j = 8 then q32 else if j = 9 then q39 else if j = 10 then q48 else if j = 11 then q57 else if j = 102 then q68 else if j = 2 then (uMa.1 2) else if j = 3 then (uMa.1 3) else if j = 4 then (uMa.1 4) else if j = 5 then (uMa.1 5) else 0) (fun j => if j = 6 then k6 else if j = 7 then k15 else if j = 8 then k32 else if j = 9 then k39 else if j = 10 then k48 else if j = 11 then k57 else if j = 2 then (uMa.2 2) else if j = 3 then (uMa.2 3) else if j = 4 then (uMa.2 4) else if j = 5 then (uMa.2 5) else k6)) := hD
  have hK9 : va_K D cl (itBo (fun j => if j = 6 then k6 else if j = 7 then k15 else if j = 8 then k32 else if j = 9 then k39 else if j = 10 then k48 else if j = 11 then k57 else if j = 2 then (uMa.2 2) else if j = 3 then (uMa.2 3) else if j = 4 then (uMa.2 4) else if j = 5 then (uMa.2 5) else k6)) s := hK
  exact W.vret hx hb hr (fun t ht hW => ⟨⟨((fun j => if j = 6 then q6 else if j = 7 then q15 else if j = 8 then q32 else if j = 9 then q39 else if j = 10 then q48 else if j = 11 then q57 else if j = 102 then q68 else if j = 2 then (uMa.1 2) else if j = 3 then (uMa.1 3) else if j = 4 then (uMa.1 4) else if j = 5 then (uMa.1 5) else 0), (fun j => if j = 6 then k6 else if j = 7 then k15 else if j = 8 then k32 else if j = 9 then k39 else if j = 10 then k48 else if j = 11 then k57 else if j = 2 then (uMa.2 2) else if j = 3 then (uMa.2 3) else if j = 4 then (uMa.2 4) else if j = 5 then (uMa.2 5) else k6)), rfl, trivial, by rw [ht]; exact hP9, va_K.moved hW.alike hK9, hD9⟩, hS.F ht⟩) hS.2.2 dBo_init_79
def iwFr (a : Nat) (sh : Nat) (bo : Nat) (q : Nat → Nat) (k : Nat → ClassId) : va_W := [(a, .inr (5, [.ref sh, .ref bo, .ref (q 12), .ref (q 13), .int 0, .int 0])), (q 12, .inl (k 12, 4096, .inl (fun _ => 0))), (q 13, .inl (k 13, 4096, .inl (fun _ => 0)))]
def itFr (k : Nat → ClassId) : List (ClassId × FieldType) := [(k 12, .int), (k 13, .int)]
set_option maxHeartbeats 4000000 in
set_option maxRecDepth 100000 in
theorem c_Fr_init (l : Launch) (D : va_G) (cl : List vw_C) (hcl : cOK cl) (a sz : Nat) (sh : Nat) (bo : Nat) : Met l yFr_init wsFr_init ({ frames := 1, cells := 2, slots := 8192, locals := 12 } : Room) (va_Pc [.ref a, .ref sh, .ref bo] (fun U => U.heap.size = sz ∧ va_P D cl [(a, .inr (5, [.null, .null, .null, .null, .int 0, .int 0]))] U.heap ∧ va_K D cl [] U ∧ va_D (fun _ => True) [(a, .inr (5, [.null, .null, .null, .null, .int 0, .int 0]))])) (va_Qv (fun _ : (Nat → Nat) × (Nat → ClassId) => True) (fun u t => va_P D cl (iwFr a sh bo u.1 u.2) t.heap ∧ va_K D cl (itFr u.2) t ∧ va_D (va_A [(a, .inr (5, [.null, .null, .null, .null, .int 0, .int 0]))] sz) (iwFr a sh bo u.1 u.2)) (va_A [(a, .inr (5, [.null, .null, .null, .null, .int 0, .int 0]))] sz)) 2 8192 (va_A [(a, .inr (5, [.null, .null, .null, .null, .int 0, .int 0]))] sz) := by
  refine Met.ofW (cc := cFr_init) (maxL := 3) (ret := none) (by decide) rfl ?_
  intro p e s m args below meth c s₁ B hml hv
  obtain ⟨rfl, hsz, hP, hK, hD0⟩ := hv
  have hx := B.exec
  have hb := B.bytes
  have hr := B.returns
  have hts := atoms_spec (ws := wsFr_init) B.pre
  have hown : s.vm.findClass RFr = some m.cls := findClass_of_methodNamed B.named
  have hlocks := B.notSynchronized
  have hin : meth.name = "<init>" := (name_of_methodNamed B.named B.method).1
  subst hsz
  have hD := hD0.self (sz := s.heap.size)
  generalize hAe : va_A [(a, .inr (5, [.null, .null, .null, .null, .int 0, .int 0]))] s.heap.size = A at hD ⊢
  have hA : ∀ q : Nat, s.heap.size ≤ q → A q := fun q h => by rw [← hAe]; exact Or.inr h
  have hS : va_S A s.heap s.heap [] := va_S.rf
  have hP : va_P D cl [(a, .inr (5, [.null, .null, .null, .null, .int 0, .int 0]))] s.heap := hP
  have hl := lv_entry ([.ref a, .ref sh, .ref bo]) (n := 3) (Nat.le_of_ble_eq_true rfl)
  rw [lg_entry_eq]
  generalize (lg_sl ([.ref a, .ref sh, .ref bo]) ++ List.replicate (3 - (lg_sl ([.ref a, .ref sh, .ref bo])).length) Slot.unset).toArray = ls at hl ⊢
  have hl : lv_has ls 3 [(0, .ref a), (1, .ref sh), (2, .ref bo)] := hl
  have inX_ : ∀ w ∈ wsFr0, w ∈ wsFr_init := fun w h => List.mem_cons_of_mem _ (inFr_all w h)
  have oi := hts _ (List.mem_cons_of_mem _ mlFr_3)
  have oj := hts _ (List.mem_cons_of_mem _ miO_cALL)
  have oc := hts _ (List.mem_cons_of_mem _ mcO_cALL)
  have aci := hts _ (List.mem_cons_of_mem _ ma_cALL_int)
  have f9 := hts _ (List.mem_cons_of_mem _ mfFr_9)
  have f15 := hts _ (List.mem_cons_of_mem _ mfFr_15)
  have f18 := hts _ (List.mem_cons_of_mem _ mfFr_18)
  have f22 := hts _ (List.mem_cons_of_mem _ mfFr_22)
  have f26 := hts _ (List.mem_cons_of_mem _ mfFr_26)
  have f30 := hts _ (List.mem_cons_of_mem _ mfFr_30)
  refine lv_aload_n hx hb dFr_init_0 rfl (lv_at hl 0 rfl) ?_
  refine W.objInit hx hb hown oi oj oc rfl (by rw [hml]; exact hl.1) rfl dFr_init_1 (Nat.le_of_ble_eq_true rfl) (Nat.le_of_ble_eq_true rfl) ?_
  refine W.eq (g2 := F0 m 4 ls []) rfl ?_
  refine lv_aload_n hx hb dFr_init_4 rfl (lv_at hl 0 rfl) ?_
  refine lv_sipush (v := 4096) hx hb dFr_init_5 (by decide) ?_
  refine va_newa (atype := .int) (N' := 4096) (a0 := (4096, .inl (fun _ => 0))) (ty := .int) (n := 4096) hx hb aci rfl hK hP hD hS hA (fun _ => rfl) (by decide) (by decide) (by decide) (by decide) (by decide) dFr_init_8 (fun q8 k8 H hK hP hD hS => ?_)
  have hK : va_K D cl [(k8, .int)] s := hK
  have hP : va_P D cl [(a, .inr (5, [.null, .null, .null, .null, .int 0, .int 0])), (q8, .inl (k8, 4096, .inl (fun _ => 0)))] H := hP
  have hD : va_D A [(a, .inr (5, [.null, .null, .null, .null, .int 0, .int 0])), (q8, .inl (k8, 4096, .inl (fun _ => 0)))] := hD
  refine W.widen (k := 1) (n := 4096) (by decide) (by decide) ?_
  refine va_putF (D := D) (ci := 5) (v := .ref q8) (ty := tyFr 2) (C := RFr) (T := TFr) (N := 6) hx hb hts inX_ tyFr tyFr_ok nmFr hown hK hP hD hS 0 rfl hcl.2.2.2.2.1 2 (by decide) f9 (fun _ h9 => h9) rfl hin rfl (tyFr_ok 2 (by decide)) rfl rfl (Nat.le_of_ble_eq_true rfl) dFr_init_10 (fun H locs hP hD hS => ?_)
  have hP : va_P D cl [(a, .inr (5, [.null, .null, .ref q8, .null, .int 0, .int 0])), (q8, .inl (k8, 4096, .inl (fun _ => 0)))] H := hP
  have hD : va_D A [(a, .inr (5, [.null, .null, .ref q8, .null, .int 0, .int 0])), (q8, .inl (k8, 4096, .inl (fun _ => 0)))] := hD
  refine lv_aload_n hx hb dFr_init_13 rfl (lv_at hl 0 rfl) ?_
  refine lv_sipush (v := 4096) hx hb dFr_init_14 (by decide) ?_
  refine va_newa (atype := .int) (N' := 4096) (a0 := (4096, .inl (fun _ => 0))) (ty := .int) (n := 4096) hx hb aci rfl hK hP hD hS hA (fun _ => rfl) (by decide) (by decide) (by decide) (by decide) (by decide) dFr_init_17 (fun q17 k17 H hK hP hD hS => ?_)
  have hK : va_K D cl [(k8, .int), (k17, .int)] s := hK
  have hP : va_P D cl [(a, .inr (5, [.null, .null, .ref q8, .null, .int 0, .int 0])), (q8, .inl (k8, 4096, .inl (fun _ => 0))), (q17, .inl (k17, 4096, .inl (fun _ => 0)))] H := hP
  have hD : va_D A [(a, .inr (5, [.null, .null, .ref q8, .null, .int 0, .int 0])), (q8, .inl (k8, 4096, .inl (fun _ => 0))), (q17, .inl (k17, 4096, .inl (fun _ => 0)))] := hD
  refine W.widen (k := 2) (n := 8192) (by decide) (by decide) ?_
  refine va_putF (D := D) (ci := 5) (v := .ref q17) (ty := tyFr 3) (C := RFr) (T := TFr) (N := 6) hx hb hts inX_ tyFr tyFr_ok nmFr hown hK hP hD hS 0 rfl hcl.2.2.2.2.1 3 (by decide) f15 (fun _ h9 => h9) rfl hin rfl (tyFr_ok 3 (by decide)) rfl rfl (Nat.le_of_ble_eq_true rfl) dFr_init_19 (fun H locs hP hD hS => ?_)
  have hP : va_P D cl [(a, .inr (5, [.null, .null, .ref q8, .ref q17, .int 0, .int 0])), (q8, .inl (k8, 4096, .inl (fun _ => 0))), (q17, .inl (k17, 4096, .inl (fun _ => 0)))] H := hP
  have hD : va_D A [(a, .inr (5, [.null, .null, .ref q8, .ref q17, .int 0, .int 0])), (q8, .inl (k8, 4096, .inl (fun _ => 0))), (q17, .inl (k17, 4096, .inl (fun _ => 0)))] := hD
  refine lv_aload_n hx hb dFr_init_22 rfl (lv_at hl 0 rfl) ?_
  refine lv_iconst (v := 0) hx hb dFr_init_23 (by decide) ?_
  refine va_put (D := D) (ci := 5) (v := .int 0) (ty := tyFr 4) (C := RFr) (T := TFr) (N := 6) hx hb hts inX_ tyFr tyFr_ok nmFr hown hK hP hD hS 0 rfl hcl.2.2.2.2.1 4 (by decide) f18 (fun _ h9 => h9) rfl (tyFr_ok 4 (by decide)) rfl rfl (Nat.le_of_ble_eq_true rfl) dFr_init_24 (fun H locs hP hD hS => ?_)
  have hP : va_P D cl [(a, .inr (5, [.null, .null, .ref q8, .ref q17, .int 0, .int 0])), (q8, .inl (k8, 4096, .inl (fun _ => 0))), (q17, .inl (k17, 4096, .inl (fun _ => 0)))] H := hP
  have hD : va_D A [(a, .inr (5, [.null, .null, .ref q8, .ref q17, .int 0, .int 0])), (q8, .inl (k8, 4096, .inl (fun _ => 0))), (q17, .inl (k17, 4096, .inl (fun _ => 0)))] := hD
  refine lv_aload_n hx hb dFr_init_27 rfl (lv_at hl 0 rfl) ?_
  refine lv_iconst (v := 0) hx hb dFr_init_28 (by decide) ?_
  refine va_put (D := D) (ci := 5) (v := .int 0) (ty := tyFr 5) (C := RFr) (T := TFr) (N := 6) hx hb hts inX_ tyFr tyFr_ok nmFr hown hK hP hD hS 0 rfl hcl.2.2.2.2.1 5 (by decide) f22 (fun _ h9 => h9) rfl (tyFr_ok 5 (by decide)) rfl rfl (Nat.le_of_ble_eq_true rfl) dFr_init_29 (fun H locs hP hD hS => ?_)
  have hP : va_P D cl [(a, .inr (5, [.null, .null, .ref q8, .ref q17, .int 0, .int 0])), (q8, .inl (k8, 4096, .inl (fun _ => 0))), (q17, .inl (k17, 4096, .inl (fun _ => 0)))] H := hP
  have hD : va_D A [(a, .inr (5, [.null, .null, .ref q8, .ref q17, .int 0, .int 0])), (q8, .inl (k8, 4096, .inl (fun _ => 0))), (q17, .inl (k17, 4096, .inl (fun _ => 0)))] := hD
  refine lv_aload_n hx hb dFr_init_32 rfl (lv_at hl 0 rfl) ?_
  refine lv_aload_n hx hb dFr_init_33 rfl (lv_at hl 1 rfl) ?_
  refine va_putF (D := D) (ci := 5) (v := .ref sh) (ty := tyFr 0) (C := RFr) (T := TFr) (N := 6) hx hb hts inX_ tyFr tyFr_ok nmFr hown hK hP hD hS 0 rfl hcl.2.2.2.2.1 0 (by decide) f26 (fun _ h9 => h9) rfl hin rfl (tyFr_ok 0 (by decide)) rfl rfl (Nat.le_of_ble_eq_true rfl) dFr_init_34 (fun H locs hP hD hS => ?_)
  have hP : va_P D cl [(a, .inr (5, [.ref sh, .null, .ref q8, .ref q17, .int 0, .int 0])), (q8, .inl (k8, 4096, .inl (fun _ => 0))), (q17, .inl (k17, 4096, .inl (fun _ => 0)))] H := hP
  have hD : va_D A [(a, .inr (5, [.ref sh, .null, .ref q8, .ref q17, .int 0, .int 0])), (q8, .inl (k8, 4096, .inl (fun _ => 0))), (q17, .inl (k17, 4096, .inl (fun _ => 0)))] := hD
  refine lv_aload_n hx hb dFr_init_37 rfl (lv_at hl 0 rfl) ?_
  refine lv_aload_n hx hb dFr_init_38 rfl (lv_at hl 2 rfl) ?_
  refine va_putF (D := D) (ci := 5) (v := .ref bo) (ty := tyFr 1) (C := RFr) (T := TFr) (N := 6) hx hb hts inX_ tyFr tyFr_ok nmFr hown hK hP hD hS 0 rfl hcl.2.2.2.2.1 1 (by decide) f30 (fun _ h9 => h9) rfl hin rfl (tyFr_ok 1 (by decide)) rfl rfl (Nat.le_of_ble_eq_true rfl) dFr_init_39 (fun H locs hP hD hS => ?_)
  have hP : va_P D cl [(a, .inr (5, [.ref sh, .ref bo, .ref q8, .ref q17, .int 0, .int 0])), (q8, .inl (k8, 4096, .inl (fun _ => 0))), (q17, .inl (k17, 4096, .inl (fun _ => 0)))] H := hP
  have hD : va_D A [(a, .inr (5, [.ref sh, .ref bo, .ref q8, .ref q17, .int 0, .int 0])), (q8, .inl (k8, 4096, .inl (fun _ => 0))), (q17, .inl (k17, 4096, .inl (fun _ => 0)))] := hD
  have hP9 : va_P D cl (iwFr a sh bo (fun j => if j = 12 then q8 else if j = 13 then q17 else 0) (fun j => if j = 12 then k8 else if j = 13 then k17 else k8)) H := hP
  have hD9 : va_D A (iwFr a sh bo (fun j => if j = 12 then q8 else if j = 13 then q17 else 0) (fun j => if j = 12 then k8 else if j = 13 then k17 else k8)) := hD
  have hK9 : va_K D cl (itFr (fun j => if j = 12 then k8 else if j = 13 then k17 else k8)) s := hK
  exact W.vret hx hb hr (fun t ht hW => ⟨⟨((fun j => if j = 12 then q8 else if j = 13 then q17 else 0), (fun j => if j = 12 then k8 else if j = 13 then k17 else k8)), rfl, trivial, by rw [ht]; exact hP9, va_K.moved hW.alike hK9, hD9⟩, hS.F ht⟩) hS.2.2 dFr_init_42
def iwSe (a : Nat) (sh : Nat) (bo : Nat) (q : Nat → Nat) (k : Nat → ClassId) : va_W := [(a, .inr (6, [.ref sh, .ref bo, .ref (q 14), .int 0, .int (-1), .int 0])), (q 14, .inl (k 14, 8, .inl (fun _ => 0)))]
def itSe (k : Nat → ClassId) : List (ClassId × FieldType) := [(k 14, .int)]
set_option maxHeartbeats 4000000 in
set_option maxRecDepth 100000 in
theorem c_Se_init (l : Launch) (D : va_G) (cl : List vw_C) (hcl : cOK cl) (a sz : Nat) (sh : Nat) (bo : Nat) : Met l ySe_init wsSe_init ({ frames := 1, cells := 1, slots := 8, locals := 12 } : Room) (va_Pc [.ref a, .ref sh, .ref bo] (fun U => U.heap.size = sz ∧ va_P D cl [(a, .inr (6, [.null, .null, .null, .int 0, .int 0, .int 0]))] U.heap ∧ va_K D cl [] U ∧ va_D (fun _ => True) [(a, .inr (6, [.null, .null, .null, .int 0, .int 0, .int 0]))])) (va_Qv (fun _ : (Nat → Nat) × (Nat → ClassId) => True) (fun u t => va_P D cl (iwSe a sh bo u.1 u.2) t.heap ∧ va_K D cl (itSe u.2) t ∧ va_D (va_A [(a, .inr (6, [.null, .null, .null, .int 0, .int 0, .int 0]))] sz) (iwSe a sh bo u.1 u.2)) (va_A [(a, .inr (6, [.null, .null, .null, .int 0, .int 0, .int 0]))] sz)) 1 8 (va_A [(a, .inr (6, [.null, .null, .null, .int 0, .int 0, .int 0]))] sz) := by
  refine Met.ofW (cc := cSe_init) (maxL := 3) (ret := none) (by decide) rfl ?_
  intro p e s m args below meth c s₁ B hml hv
  obtain ⟨rfl, hsz, hP, hK, hD0⟩ := hv
  have hx := B.exec
  have hb := B.bytes
  have hr := B.returns
  have hts := atoms_spec (ws := wsSe_init) B.pre
  have hown : s.vm.findClass RSe = some m.cls := findClass_of_methodNamed B.named
  have hlocks := B.notSynchronized
  have hin : meth.name = "<init>" := (name_of_methodNamed B.named B.method).1
  subst hsz
  have hD := hD0.self (sz := s.heap.size)
  generalize hAe : va_A [(a, .inr (6, [.null, .null, .null, .int 0, .int 0, .int 0]))] s.heap.size = A at hD ⊢
  have hA : ∀ q : Nat, s.heap.size ≤ q → A q := fun q h => by rw [← hAe]; exact Or.inr h
  have hS : va_S A s.heap s.heap [] := va_S.rf
  have hP : va_P D cl [(a, .inr (6, [.null, .null, .null, .int 0, .int 0, .int 0]))] s.heap := hP
  have hl := lv_entry ([.ref a, .ref sh, .ref bo]) (n := 3) (Nat.le_of_ble_eq_true rfl)
  rw [lg_entry_eq]
  generalize (lg_sl ([.ref a, .ref sh, .ref bo]) ++ List.replicate (3 - (lg_sl ([.ref a, .ref sh, .ref bo])).length) Slot.unset).toArray = ls at hl ⊢
  have hl : lv_has ls 3 [(0, .ref a), (1, .ref sh), (2, .ref bo)] := hl
  have inX_ : ∀ w ∈ wsSe0, w ∈ wsSe_init := fun w h => List.mem_cons_of_mem _ (inSe_all w h)
  have oi := hts _ (List.mem_cons_of_mem _ mlSe_3)
  have oj := hts _ (List.mem_cons_of_mem _ miO_cALL)
  have oc := hts _ (List.mem_cons_of_mem _ mcO_cALL)
  have aci := hts _ (List.mem_cons_of_mem _ ma_cALL_int)
  have f9 := hts _ (List.mem_cons_of_mem _ mfSe_9)
  have f15 := hts _ (List.mem_cons_of_mem _ mfSe_15)
  have f19 := hts _ (List.mem_cons_of_mem _ mfSe_19)
  have f22 := hts _ (List.mem_cons_of_mem _ mfSe_22)
  have f25 := hts _ (List.mem_cons_of_mem _ mfSe_25)
  have f29 := hts _ (List.mem_cons_of_mem _ mfSe_29)
  refine lv_aload_n hx hb dSe_init_0 rfl (lv_at hl 0 rfl) ?_
  refine W.objInit hx hb hown oi oj oc rfl (by rw [hml]; exact hl.1) rfl dSe_init_1 (Nat.le_of_ble_eq_true rfl) (Nat.le_of_ble_eq_true rfl) ?_
  refine W.eq (g2 := F0 m 4 ls []) rfl ?_
  refine lv_aload_n hx hb dSe_init_4 rfl (lv_at hl 0 rfl) ?_
  refine lv_bipush (v := 8) hx hb dSe_init_5 (by decide) ?_
  refine va_newa (atype := .int) (N' := 8) (a0 := (8, .inl (fun _ => 0))) (ty := .int) (n := 8) hx hb aci rfl hK hP hD hS hA (fun _ => rfl) (by decide) (by decide) (by decide) (by decide) (by decide) dSe_init_7 (fun q7 k7 H hK hP hD hS => ?_)
  have hK : va_K D cl [(k7, .int)] s := hK
  have hP : va_P D cl [(a, .inr (6, [.null, .null, .null, .int 0, .int 0, .int 0])), (q7, .inl (k7, 8, .inl (fun _ => 0)))] H := hP
  have hD : va_D A [(a, .inr (6, [.null, .null, .null, .int 0, .int 0, .int 0])), (q7, .inl (k7, 8, .inl (fun _ => 0)))] := hD
  refine W.widen (k := 1) (n := 8) (by decide) (by decide) ?_
  refine va_putF (D := D) (ci := 6) (v := .ref q7) (ty := tySe 2) (C := RSe) (T := TSe) (N := 6) hx hb hts inX_ tySe tySe_ok nmSe hown hK hP hD hS 0 rfl hcl.2.2.2.2.2.1 2 (by decide) f9 (fun _ h9 => h9) rfl hin rfl (tySe_ok 2 (by decide)) rfl rfl (Nat.le_of_ble_eq_true rfl) dSe_init_9 (fun H locs hP hD hS => ?_)
  have hP : va_P D cl [(a, .inr (6, [.null, .null, .ref q7, .int 0, .int 0, .int 0])), (q7, .inl (k7, 8, .inl (fun _ => 0)))] H := hP
  have hD : va_D A [(a, .inr (6, [.null, .null, .ref q7, .int 0, .int 0, .int 0])), (q7, .inl (k7, 8, .inl (fun _ => 0)))] := hD
  refine lv_aload_n hx hb dSe_init_12 rfl (lv_at hl 0 rfl) ?_
  refine lv_iconst (v := 0) hx hb dSe_init_13 (by decide) ?_
  refine va_put (D := D) (ci := 6) (v := .int 0) (ty := tySe 3) (C := RSe) (T := TSe) (N := 6) hx hb hts inX_ tySe tySe_ok nmSe hown hK hP hD hS 0 rfl hcl.2.2.2.2.2.1 3 (by decide) f15 (fun _ h9 => h9) rfl (tySe_ok 3 (by decide)) rfl rfl (Nat.le_of_ble_eq_true rfl) dSe_init_14 (fun H locs hP hD hS => ?_)
  have hP : va_P D cl [(a, .inr (6, [.null, .null, .ref q7, .int 0, .int 0, .int 0])), (q7, .inl (k7, 8, .inl (fun _ => 0)))] H := hP
  have hD : va_D A [(a, .inr (6, [.null, .null, .ref q7, .int 0, .int 0, .int 0])), (q7, .inl (k7, 8, .inl (fun _ => 0)))] := hD
  refine lv_aload_n hx hb dSe_init_17 rfl (lv_at hl 0 rfl) ?_
  refine lv_iconst (v := (-1)) hx hb dSe_init_18 (by decide) ?_
  refine va_put (D := D) (ci := 6) (v := .int (-1)) (ty := tySe 4) (C := RSe) (T := TSe) (N := 6) hx hb hts inX_ tySe tySe_ok nmSe hown hK hP hD hS 0 rfl hcl.2.2.2.2.2.1 4 (by decide) f19 (fun _ h9 => h9) rfl (tySe_ok 4 (by decide)) rfl rfl (Nat.le_of_ble_eq_true rfl) dSe_init_19 (fun H locs hP hD hS => ?_)
  have hP : va_P D cl [(a, .inr (6, [.null, .null, .ref q7, .int 0, .int (-1), .int 0])), (q7, .inl (k7, 8, .inl (fun _ => 0)))] H := hP
  have hD : va_D A [(a, .inr (6, [.null, .null, .ref q7, .int 0, .int (-1), .int 0])), (q7, .inl (k7, 8, .inl (fun _ => 0)))] := hD
  refine lv_aload_n hx hb dSe_init_22 rfl (lv_at hl 0 rfl) ?_
  refine lv_iconst (v := 0) hx hb dSe_init_23 (by decide) ?_
  refine va_put (D := D) (ci := 6) (v := .int 0) (ty := tySe 5) (C := RSe) (T := TSe) (N := 6) hx hb hts inX_ tySe tySe_ok nmSe hown hK hP hD hS 0 rfl hcl.2.2.2.2.2.1 5 (by decide) f22 (fun _ h9 => h9) rfl (tySe_ok 5 (by decide)) rfl rfl (Nat.le_of_ble_eq_true rfl) dSe_init_24 (fun H locs hP hD hS => ?_)
  have hP : va_P D cl [(a, .inr (6, [.null, .null, .ref q7, .int 0, .int (-1), .int 0])), (q7, .inl (k7, 8, .inl (fun _ => 0)))] H := hP
  have hD : va_D A [(a, .inr (6, [.null, .null, .ref q7, .int 0, .int (-1), .int 0])), (q7, .inl (k7, 8, .inl (fun _ => 0)))] := hD
  refine lv_aload_n hx hb dSe_init_27 rfl (lv_at hl 0 rfl) ?_
  refine lv_aload_n hx hb dSe_init_28 rfl (lv_at hl 1 rfl) ?_
  refine va_putF (D := D) (ci := 6) (v := .ref sh) (ty := tySe 0) (C := RSe) (T := TSe) (N := 6) hx hb hts inX_ tySe tySe_ok nmSe hown hK hP hD hS 0 rfl hcl.2.2.2.2.2.1 0 (by decide) f25 (fun _ h9 => h9) rfl hin rfl (tySe_ok 0 (by decide)) rfl rfl (Nat.le_of_ble_eq_true rfl) dSe_init_29 (fun H locs hP hD hS => ?_)
  have hP : va_P D cl [(a, .inr (6, [.ref sh, .null, .ref q7, .int 0, .int (-1), .int 0])), (q7, .inl (k7, 8, .inl (fun _ => 0)))] H := hP
  have hD : va_D A [(a, .inr (6, [.ref sh, .null, .ref q7, .int 0, .int (-1), .int 0])), (q7, .inl (k7, 8, .inl (fun _ => 0)))] := hD
  refine lv_aload_n hx hb dSe_init_32 rfl (lv_at hl 0 rfl) ?_
  refine lv_aload_n hx hb dSe_init_33 rfl (lv_at hl 2 rfl) ?_
  refine va_putF (D := D) (ci := 6) (v := .ref bo) (ty := tySe 1) (C := RSe) (T := TSe) (N := 6) hx hb hts inX_ tySe tySe_ok nmSe hown hK hP hD hS 0 rfl hcl.2.2.2.2.2.1 1 (by decide) f29 (fun _ h9 => h9) rfl hin rfl (tySe_ok 1 (by decide)) rfl rfl (Nat.le_of_ble_eq_true rfl) dSe_init_34 (fun H locs hP hD hS => ?_)
  have hP : va_P D cl [(a, .inr (6, [.ref sh, .ref bo, .ref q7, .int 0, .int (-1), .int 0])), (q7, .inl (k7, 8, .inl (fun _ => 0)))] H := hP
  have hD : va_D A [(a, .inr (6, [.ref sh, .ref bo, .ref q7, .int 0, .int (-1), .int 0])), (q7, .inl (k7, 8, .inl (fun _ => 0)))] := hD
  have hP9 : va_P D cl (iwSe a sh bo (fun j => if j = 14 then q7 else 0) (fun j => if j = 14 then k7 else k7)) H := hP
  have hD9 : va_D A (iwSe a sh bo (fun j => if j = 14 then q7 else 0) (fun j => if j = 14 then k7 else k7)) := hD
  have hK9 : va_K D cl (itSe (fun j => if j = 14 then k7 else k7)) s := hK
  exact W.vret hx hb hr (fun t ht hW => ⟨⟨((fun j => if j = 14 then q7 else 0), (fun j => if j = 14 then k7 else k7)), rfl, trivial, by rw [ht]; exact hP9, va_K.moved hW.alike hK9, hD9⟩, hS.F ht⟩) hS.2.2 dSe_init_37
def iwWa (a : Nat) (sh : Nat) (bo : Nat) (x0 : Int32) (q : Nat → Nat) (k : Nat → ClassId) : va_W := [(a, .inr (7, [.ref sh, .ref bo, .int x0, .int 0, .int (-1), .int 0]))]
def itWa (k : Nat → ClassId) : List (ClassId × FieldType) := []
set_option maxHeartbeats 4000000 in
set_option maxRecDepth 100000 in
theorem c_Wa_init (l : Launch) (D : va_G) (cl : List vw_C) (hcl : cOK cl) (a sz : Nat) (sh : Nat) (bo : Nat) (x0 : Int32) : Met l yWa_init wsWa_init ({ frames := 1, cells := 0, slots := 0, locals := 12 } : Room) (va_Pc [.ref a, .ref sh, .ref bo, .int x0] (fun U => U.heap.size = sz ∧ va_P D cl [(a, .inr (7, [.null, .null, .int 0, .int 0, .int 0, .int 0]))] U.heap ∧ va_K D cl [] U ∧ va_D (fun _ => True) [(a, .inr (7, [.null, .null, .int 0, .int 0, .int 0, .int 0]))])) (va_Qv (fun _ : (Nat → Nat) × (Nat → ClassId) => True) (fun u t => va_P D cl (iwWa a sh bo x0 u.1 u.2) t.heap ∧ va_K D cl (itWa u.2) t ∧ va_D (va_A [(a, .inr (7, [.null, .null, .int 0, .int 0, .int 0, .int 0]))] sz) (iwWa a sh bo x0 u.1 u.2)) (va_A [(a, .inr (7, [.null, .null, .int 0, .int 0, .int 0, .int 0]))] sz)) 0 0 (va_A [(a, .inr (7, [.null, .null, .int 0, .int 0, .int 0, .int 0]))] sz) := by
  refine Met.ofW (cc := cWa_init) (maxL := 4) (ret := none) (by decide) rfl ?_
  intro p e s m args below meth c s₁ B hml hv
  obtain ⟨rfl, hsz, hP, hK, hD0⟩ := hv
  have hx := B.exec
  have hb := B.bytes
  have hr := B.returns
  have hts := atoms_spec (ws := wsWa_init) B.pre
  have hown : s.vm.findClass RWa = some m.cls := findClass_of_methodNamed B.named
  have hlocks := B.notSynchronized
  have hin : meth.name = "<init>" := (name_of_methodNamed B.named B.method).1
  subst hsz
  have hD := hD0.self (sz := s.heap.size)
  generalize hAe : va_A [(a, .inr (7, [.null, .null, .int 0, .int 0, .int 0, .int 0]))] s.heap.size = A at hD ⊢
  have hA : ∀ q : Nat, s.heap.size ≤ q → A q := fun q h => by rw [← hAe]; exact Or.inr h
  have hS : va_S A s.heap s.heap [] := va_S.rf
  have hP : va_P D cl [(a, .inr (7, [.null, .null, .int 0, .int 0, .int 0, .int 0]))] s.heap := hP
  have hl := lv_entry ([.ref a, .ref sh, .ref bo, .int x0]) (n := 4) (Nat.le_of_ble_eq_true rfl)
  rw [lg_entry_eq]
  generalize (lg_sl ([.ref a, .ref sh, .ref bo, .int x0]) ++ List.replicate (4 - (lg_sl ([.ref a, .ref sh, .ref bo, .int x0])).length) Slot.unset).toArray = ls at hl ⊢
  have hl : lv_has ls 4 [(0, .ref a), (1, .ref sh), (2, .ref bo), (3, .int x0)] := hl
  have inX_ : ∀ w ∈ wsWa0, w ∈ wsWa_init := fun w h => List.mem_cons_of_mem _ (inWa_all w h)
  have oi := hts _ (List.mem_cons_of_mem _ mlWa_3)
  have oj := hts _ (List.mem_cons_of_mem _ miO_cALL)
  have oc := hts _ (List.mem_cons_of_mem _ mcO_cALL)
  have f9 := hts _ (List.mem_cons_of_mem _ mfWa_9)
  have f15 := hts _ (List.mem_cons_of_mem _ mfWa_15)
  have f18 := hts _ (List.mem_cons_of_mem _ mfWa_18)
  have f21 := hts _ (List.mem_cons_of_mem _ mfWa_21)
  have f25 := hts _ (List.mem_cons_of_mem _ mfWa_25)
  have f29 := hts _ (List.mem_cons_of_mem _ mfWa_29)
  refine lv_aload_n hx hb dWa_init_0 rfl (lv_at hl 0 rfl) ?_
  refine W.objInit hx hb hown oi oj oc rfl (by rw [hml]; exact hl.1) rfl dWa_init_1 (Nat.le_of_ble_eq_true rfl) (Nat.le_of_ble_eq_true rfl) ?_
  refine W.eq (g2 := F0 m 4 ls []) rfl ?_
  refine lv_aload_n hx hb dWa_init_4 rfl (lv_at hl 0 rfl) ?_
  refine lv_iconst (v := 0) hx hb dWa_init_5 (by decide) ?_
  refine va_put (D := D) (ci := 7) (v := .int 0) (ty := tyWa 3) (C := RWa) (T := TWa) (N := 6) hx hb hts inX_ tyWa tyWa_ok nmWa hown hK hP hD hS 0 rfl hcl.2.2.2.2.2.2.1 3 (by decide) f9 (fun _ h9 => h9) rfl (tyWa_ok 3 (by decide)) rfl rfl (Nat.le_of_ble_eq_true rfl) dWa_init_6 (fun H locs hP hD hS => ?_)
  have hP : va_P D cl [(a, .inr (7, [.null, .null, .int 0, .int 0, .int 0, .int 0]))] H := hP
  have hD : va_D A [(a, .inr (7, [.null, .null, .int 0, .int 0, .int 0, .int 0]))] := hD
  refine lv_aload_n hx hb dWa_init_9 rfl (lv_at hl 0 rfl) ?_
  refine lv_iconst (v := (-1)) hx hb dWa_init_10 (by decide) ?_
  refine va_put (D := D) (ci := 7) (v := .int (-1)) (ty := tyWa 4) (C := RWa) (T := TWa) (N := 6) hx hb hts inX_ tyWa tyWa_ok nmWa hown hK hP hD hS 0 rfl hcl.2.2.2.2.2.2.1 4 (by decide) f15 (fun _ h9 => h9) rfl (tyWa_ok 4 (by decide)) rfl rfl (Nat.le_of_ble_eq_true rfl) dWa_init_11 (fun H locs hP hD hS => ?_)
  have hP : va_P D cl [(a, .inr (7, [.null, .null, .int 0, .int 0, .int (-1), .int 0]))] H := hP
  have hD : va_D A [(a, .inr (7, [.null, .null, .int 0, .int 0, .int (-1), .int 0]))] := hD
  refine lv_aload_n hx hb dWa_init_14 rfl (lv_at hl 0 rfl) ?_
  refine lv_iconst (v := 0) hx hb dWa_init_15 (by decide) ?_
  refine va_put (D := D) (ci := 7) (v := .int 0) (ty := tyWa 5) (C := RWa) (T := TWa) (N := 6) hx hb hts inX_ tyWa tyWa_ok nmWa hown hK hP hD hS 0 rfl hcl.2.2.2.2.2.2.1 5 (by decide) f18 (fun _ h9 => h9) rfl (tyWa_ok 5 (by decide)) rfl rfl (Nat.le_of_ble_eq_true rfl) dWa_init_16 (fun H locs hP hD hS => ?_)
  have hP : va_P D cl [(a, .inr (7, [.null, .null, .int 0, .int 0, .int (-1), .int 0]))] H := hP
  have hD : va_D A [(a, .inr (7, [.null, .null, .int 0, .int 0, .int (-1), .int 0]))] := hD
  refine lv_aload_n hx hb dWa_init_19 rfl (lv_at hl 0 rfl) ?_
  refine lv_aload_n hx hb dWa_init_20 rfl (lv_at hl 1 rfl) ?_
  refine va_putF (D := D) (ci := 7) (v := .ref sh) (ty := tyWa 0) (C := RWa) (T := TWa) (N := 6) hx hb hts inX_ tyWa tyWa_ok nmWa hown hK hP hD hS 0 rfl hcl.2.2.2.2.2.2.1 0 (by decide) f21 (fun _ h9 => h9) rfl hin rfl (tyWa_ok 0 (by decide)) rfl rfl (Nat.le_of_ble_eq_true rfl) dWa_init_21 (fun H locs hP hD hS => ?_)
  have hP : va_P D cl [(a, .inr (7, [.ref sh, .null, .int 0, .int 0, .int (-1), .int 0]))] H := hP
  have hD : va_D A [(a, .inr (7, [.ref sh, .null, .int 0, .int 0, .int (-1), .int 0]))] := hD
  refine lv_aload_n hx hb dWa_init_24 rfl (lv_at hl 0 rfl) ?_
  refine lv_aload_n hx hb dWa_init_25 rfl (lv_at hl 2 rfl) ?_
  refine va_putF (D := D) (ci := 7) (v := .ref bo) (ty := tyWa 1) (C := RWa) (T := TWa) (N := 6) hx hb hts inX_ tyWa tyWa_ok nmWa hown hK hP hD hS 0 rfl hcl.2.2.2.2.2.2.1 1 (by decide) f25 (fun _ h9 => h9) rfl hin rfl (tyWa_ok 1 (by decide)) rfl rfl (Nat.le_of_ble_eq_true rfl) dWa_init_26 (fun H locs hP hD hS => ?_)
  have hP : va_P D cl [(a, .inr (7, [.ref sh, .ref bo, .int 0, .int 0, .int (-1), .int 0]))] H := hP
  have hD : va_D A [(a, .inr (7, [.ref sh, .ref bo, .int 0, .int 0, .int (-1), .int 0]))] := hD
  refine lv_aload_n hx hb dWa_init_29 rfl (lv_at hl 0 rfl) ?_
  refine lv_iload_n hx hb dWa_init_30 rfl (lv_at hl 3 rfl) ?_
  refine va_put (D := D) (ci := 7) (v := .int x0) (ty := tyWa 2) (C := RWa) (T := TWa) (N := 6) hx hb hts inX_ tyWa tyWa_ok nmWa hown hK hP hD hS 0 rfl hcl.2.2.2.2.2.2.1 2 (by decide) f29 (fun _ h9 => h9) rfl (tyWa_ok 2 (by decide)) rfl rfl (Nat.le_of_ble_eq_true rfl) dWa_init_31 (fun H locs hP hD hS => ?_)
  have hP : va_P D cl [(a, .inr (7, [.ref sh, .ref bo, .int x0, .int 0, .int (-1), .int 0]))] H := hP
  have hD : va_D A [(a, .inr (7, [.ref sh, .ref bo, .int x0, .int 0, .int (-1), .int 0]))] := hD
  have hP9 : va_P D cl (iwWa a sh bo x0 (fun j => 0) (fun j => 0)) H := hP
  have hD9 : va_D A (iwWa a sh bo x0 (fun j => 0) (fun j => 0)) := hD
  have hK9 : va_K D cl (itWa (fun j => 0)) s := hK
  exact W.vret hx hb hr (fun t ht hW => ⟨⟨((fun j => 0), (fun j => 0)), rfl, trivial, by rw [ht]; exact hP9, va_K.moved hW.alike hK9, hD9⟩, hS.F ht⟩) hS.2.2 dWa_init_34
def iwSw (a : Nat) (sh : Nat) (bo : Nat) (q : Nat → Nat) (k : Nat → ClassId) : va_W := [(a, .inr (8, [.ref sh, .ref bo, .int 0, .int 0]))]
def itSw (k : Nat → ClassId) : List (ClassId × FieldType) := []
set_option maxHeartbeats 4000000 in
set_option maxRecDepth 100000 in
theorem c_Sw_init (l : Launch) (D : va_G) (cl : List vw_C) (hcl : cOK cl) (a sz : Nat) (sh : Nat) (bo : Nat) : Met l ySw_init wsSw_init ({ frames := 1, cells := 0, slots := 0, locals := 12 } : Room) (va_Pc [.ref a, .ref sh, .ref bo] (fun U => U.heap.size = sz ∧ va_P D cl [(a, .inr (8, [.null, .null, .int 0, .int 0]))] U.heap ∧ va_K D cl [] U ∧ va_D (fun _ => True) [(a, .inr (8, [.null, .null, .int 0, .int 0]))])) (va_Qv (fun _ : (Nat → Nat) × (Nat → ClassId) => True) (fun u t => va_P D cl (iwSw a sh bo u.1 u.2) t.heap ∧ va_K D cl (itSw u.2) t ∧ va_D (va_A [(a, .inr (8, [.null, .null, .int 0, .int 0]))] sz) (iwSw a sh bo u.1 u.2)) (va_A [(a, .inr (8, [.null, .null, .int 0, .int 0]))] sz)) 0 0 (va_A [(a, .inr (8, [.null, .null, .int 0, .int 0]))] sz) := by
  refine Met.ofW (cc := cSw_init) (maxL := 3) (ret := none) (by decide) rfl ?_
  intro p e s m args below meth c s₁ B hml hv
  obtain ⟨rfl, hsz, hP, hK, hD0⟩ := hv
  have hx := B.exec
  have hb := B.bytes
  have hr := B.returns
  have hts := atoms_spec (ws := wsSw_init) B.pre
  have hown : s.vm.findClass RSw = some m.cls := findClass_of_methodNamed B.named
  have hlocks := B.notSynchronized
  have hin : meth.name = "<init>" := (name_of_methodNamed B.named B.method).1
  subst hsz
  have hD := hD0.self (sz := s.heap.size)
  generalize hAe : va_A [(a, .inr (8, [.null, .null, .int 0, .int 0]))] s.heap.size = A at hD ⊢
  have hA : ∀ q : Nat, s.heap.size ≤ q → A q := fun q h => by rw [← hAe]; exact Or.inr h
  have hS : va_S A s.heap s.heap [] := va_S.rf
  have hP : va_P D cl [(a, .inr (8, [.null, .null, .int 0, .int 0]))] s.heap := hP
  have hl := lv_entry ([.ref a, .ref sh, .ref bo]) (n := 3) (Nat.le_of_ble_eq_true rfl)
  rw [lg_entry_eq]
  generalize (lg_sl ([.ref a, .ref sh, .ref bo]) ++ List.replicate (3 - (lg_sl ([.ref a, .ref sh, .ref bo])).length) Slot.unset).toArray = ls at hl ⊢
  have hl : lv_has ls 3 [(0, .ref a), (1, .ref sh), (2, .ref bo)] := hl
  have inX_ : ∀ w ∈ wsSw0, w ∈ wsSw_init := fun w h => List.mem_cons_of_mem _ (inSw_all w h)
  have oi := hts _ (List.mem_cons_of_mem _ mlSw_1)
  have oj := hts _ (List.mem_cons_of_mem _ miO_cALL)
  have oc := hts _ (List.mem_cons_of_mem _ mcO_cALL)
  have f7 := hts _ (List.mem_cons_of_mem _ mfSw_7)
  have f13 := hts _ (List.mem_cons_of_mem _ mfSw_13)
  have f16 := hts _ (List.mem_cons_of_mem _ mfSw_16)
  have f20 := hts _ (List.mem_cons_of_mem _ mfSw_20)
  refine lv_aload_n hx hb dSw_init_0 rfl (lv_at hl 0 rfl) ?_
  refine W.objInit hx hb hown oi oj oc rfl (by rw [hml]; exact hl.1) rfl dSw_init_1 (Nat.le_of_ble_eq_true rfl) (Nat.le_of_ble_eq_true rfl) ?_
  refine W.eq (g2 := F0 m 4 ls []) rfl ?_
  refine lv_aload_n hx hb dSw_init_4 rfl (lv_at hl 0 rfl) ?_
  refine lv_iconst (v := 0) hx hb dSw_init_5 (by decide) ?_
  refine va_put (D := D) (ci := 8) (v := .int 0) (ty := tySw 2) (C := RSw) (T := TSw) (N := 4) hx hb hts inX_ tySw tySw_ok nmSw hown hK hP hD hS 0 rfl hcl.2.2.2.2.2.2.2 2 (by decide) f7 (fun _ h9 => h9) rfl (tySw_ok 2 (by decide)) rfl rfl (Nat.le_of_ble_eq_true rfl) dSw_init_6 (fun H locs hP hD hS => ?_)
  have hP : va_P D cl [(a, .inr (8, [.null, .null, .int 0, .int 0]))] H := hP
  have hD : va_D A [(a, .inr (8, [.null, .null, .int 0, .int 0]))] := hD
  refine lv_aload_n hx hb dSw_init_9 rfl (lv_at hl 0 rfl) ?_
  refine lv_iconst (v := 0) hx hb dSw_init_10 (by decide) ?_
  refine va_put (D := D) (ci := 8) (v := .int 0) (ty := tySw 3) (C := RSw) (T := TSw) (N := 4) hx hb hts inX_ tySw tySw_ok nmSw hown hK hP hD hS 0 rfl hcl.2.2.2.2.2.2.2 3 (by decide) f13 (fun _ h9 => h9) rfl (tySw_ok 3 (by decide)) rfl rfl (Nat.le_of_ble_eq_true rfl) dSw_init_11 (fun H locs hP hD hS => ?_)
  have hP : va_P D cl [(a, .inr (8, [.null, .null, .int 0, .int 0]))] H := hP
  have hD : va_D A [(a, .inr (8, [.null, .null, .int 0, .int 0]))] := hD
  refine lv_aload_n hx hb dSw_init_14 rfl (lv_at hl 0 rfl) ?_
  refine lv_aload_n hx hb dSw_init_15 rfl (lv_at hl 1 rfl) ?_
  refine va_putF (D := D) (ci := 8) (v := .ref sh) (ty := tySw 0) (C := RSw) (T := TSw) (N := 4) hx hb hts inX_ tySw tySw_ok nmSw hown hK hP hD hS 0 rfl hcl.2.2.2.2.2.2.2 0 (by decide) f16 (fun _ h9 => h9) rfl hin rfl (tySw_ok 0 (by decide)) rfl rfl (Nat.le_of_ble_eq_true rfl) dSw_init_16 (fun H locs hP hD hS => ?_)
  have hP : va_P D cl [(a, .inr (8, [.ref sh, .null, .int 0, .int 0]))] H := hP
  have hD : va_D A [(a, .inr (8, [.ref sh, .null, .int 0, .int 0]))] := hD
  refine lv_aload_n hx hb dSw_init_19 rfl (lv_at hl 0 rfl) ?_
  refine lv_aload_n hx hb dSw_init_20 rfl (lv_at hl 2 rfl) ?_
  refine va_putF (D := D) (ci := 8) (v := .ref bo) (ty := tySw 1) (C := RSw) (T := TSw) (N := 4) hx hb hts inX_ tySw tySw_ok nmSw hown hK hP hD hS 0 rfl hcl.2.2.2.2.2.2.2 1 (by decide) f20 (fun _ h9 => h9) rfl hin rfl (tySw_ok 1 (by decide)) rfl rfl (Nat.le_of_ble_eq_true rfl) dSw_init_21 (fun H locs hP hD hS => ?_)
  have hP : va_P D cl [(a, .inr (8, [.ref sh, .ref bo, .int 0, .int 0]))] H := hP
  have hD : va_D A [(a, .inr (8, [.ref sh, .ref bo, .int 0, .int 0]))] := hD
  have hP9 : va_P D cl (iwSw a sh bo (fun j => 0) (fun j => 0)) H := hP
  have hD9 : va_D A (iwSw a sh bo (fun j => 0) (fun j => 0)) := hD
  have hK9 : va_K D cl (itSw (fun j => 0)) s := hK
  exact W.vret hx hb hr (fun t ht hW => ⟨⟨((fun j => 0), (fun j => 0)), rfl, trivial, by rw [ht]; exact hP9, va_K.moved hW.alike hK9, hD9⟩, hS.F ht⟩) hS.2.2 dSw_init_24
set_option maxHeartbeats 4000000 in
set_option maxRecDepth 100000 in
theorem c_X_init (l : Launch) (D : va_G) (cl : List vw_C) (hcl : cOK cl) (a sz : Nat) (sd : Int32) : Met l yX_init wsX_init ({ frames := 3, cells := 22, slots := 30909, locals := 54 } : Room) (va_Pc [.ref a, .int sd] (fun U => U.heap.size = sz ∧ va_P D cl [(a, .inr (1, [.null, .null, .null, .null, .null, .null]))] U.heap ∧ va_K D cl [] U ∧ va_D (fun _ => True) [(a, .inr (1, [.null, .null, .null, .null, .null, .null]))] ∧ va_Nw (.methodLinkNest RX 11 ySh_init "DesignSpaces") U)) (va_Qv (fun u : ((Nat → Nat) × (Nat → Nat)) × (Nat → ClassId) => u.1.1 0 = a) (fun u t => va_P D cl (cW u.1.1 u.1.2 u.2 (cF0 sd) cG0) t.heap ∧ va_K D cl (cT u.2) t ∧ va_D (va_A [(a, .inr (1, [.null, .null, .null, .null, .null, .null]))] sz) (cW u.1.1 u.1.2 u.2 (cF0 sd) cG0)) (va_A [(a, .inr (1, [.null, .null, .null, .null, .null, .null]))] sz)) 22 30909 (va_A [(a, .inr (1, [.null, .null, .null, .null, .null, .null]))] sz) := by
  refine Met.ofW (cc := cX_init) (maxL := 2) (ret := none) (by decide) rfl ?_
  intro p e s m args below meth c s₁ B hml hv
  obtain ⟨rfl, hsz, hP, hK, hD0, hNw⟩ := hv
  have hx := B.exec
  have hb := B.bytes
  have hr := B.returns
  have hts := atoms_spec (ws := wsX_init) B.pre
  have hown : s.vm.findClass RX = some m.cls := findClass_of_methodNamed B.named
  have hlocks := B.notSynchronized
  have hin : meth.name = "<init>" := (name_of_methodNamed B.named B.method).1
  subst hsz
  have hD := hD0.self (sz := s.heap.size)
  generalize hAe : va_A [(a, .inr (1, [.null, .null, .null, .null, .null, .null]))] s.heap.size = A at hD ⊢
  have hA : ∀ q : Nat, s.heap.size ≤ q → A q := fun q h => by rw [← hAe]; exact Or.inr h
  have hS : va_S A s.heap s.heap [] := va_S.rf
  have hP : va_P D cl [(a, .inr (1, [.null, .null, .null, .null, .null, .null]))] s.heap := hP
  have hl := lv_entry ([.ref a, .int sd]) (n := 2) (Nat.le_of_ble_eq_true rfl)
  rw [lg_entry_eq]
  generalize (lg_sl ([.ref a, .int sd]) ++ List.replicate (2 - (lg_sl ([.ref a, .int sd])).length) Slot.unset).toArray = ls at hl ⊢
  have hl : lv_has ls 2 [(0, .ref a), (1, .int sd)] := hl
  have inX_ : ∀ w ∈ wsX0, w ∈ wsX_init := fun w h => List.mem_cons_of_mem _ (inX_all w h)
  have oi := hts _ (List.mem_cons_of_mem _ mlX_3)
  have oj := hts _ (List.mem_cons_of_mem _ miO_cALL)
  have oc := hts _ (List.mem_cons_of_mem _ mcO_cALL)
  have inSh_ : ∀ w ∈ wsSh0, w ∈ wsX_init := fun w h => List.mem_cons_of_mem _ (inSh_all w h)
  have wx9 := hts _ (List.mem_cons_of_mem _ mxX_9)
  have wtSh := hts _ (List.mem_cons_of_mem _ mtSh)
  have wnSh := hts _ (List.mem_cons_of_mem _ mnSh)
  have wiSh := hts _ (List.mem_cons_of_mem _ miSh_init)
  have f12 := hts _ (List.mem_cons_of_mem _ mfX_12)
  have inBo_ : ∀ w ∈ wsBo0, w ∈ wsX_init := fun w h => List.mem_cons_of_mem _ (inBo_all w h)
  have wx16 := hts _ (List.mem_cons_of_mem _ mxX_16)
  have wtBo := hts _ (List.mem_cons_of_mem _ mtBo)
  have wnBo := hts _ (List.mem_cons_of_mem _ mnBo)
  have wiBo := hts _ (List.mem_cons_of_mem _ miBo_init)
  have wl18 := hts _ (List.mem_cons_of_mem _ mlX_18)
  have f21 := hts _ (List.mem_cons_of_mem _ mfX_21)
  have inFr_ : ∀ w ∈ wsFr0, w ∈ wsX_init := fun w h => List.mem_cons_of_mem _ (inFr_all w h)
  have wx25 := hts _ (List.mem_cons_of_mem _ mxX_25)
  have wtFr := hts _ (List.mem_cons_of_mem _ mtFr)
  have wnFr := hts _ (List.mem_cons_of_mem _ mnFr)
  have wiFr := hts _ (List.mem_cons_of_mem _ miFr_init)
  have wl27 := hts _ (List.mem_cons_of_mem _ mlX_27)
  have f30 := hts _ (List.mem_cons_of_mem _ mfX_30)
  have inSe_ : ∀ w ∈ wsSe0, w ∈ wsX_init := fun w h => List.mem_cons_of_mem _ (inSe_all w h)
  have wx34 := hts _ (List.mem_cons_of_mem _ mxX_34)
  have wtSe := hts _ (List.mem_cons_of_mem _ mtSe)
  have wnSe := hts _ (List.mem_cons_of_mem _ mnSe)
  have wiSe := hts _ (List.mem_cons_of_mem _ miSe_init)
  have wl36 := hts _ (List.mem_cons_of_mem _ mlX_36)
  have f37 := hts _ (List.mem_cons_of_mem _ mfX_37)
  have inWa_ : ∀ w ∈ wsWa0, w ∈ wsX_init := fun w h => List.mem_cons_of_mem _ (inWa_all w h)
  have wx41 := hts _ (List.mem_cons_of_mem _ mxX_41)
  have wtWa := hts _ (List.mem_cons_of_mem _ mtWa)
  have wnWa := hts _ (List.mem_cons_of_mem _ mnWa)
  have k_43 := hts _ (List.mem_cons_of_mem _ mkX_43)
  have wiWa := hts _ (List.mem_cons_of_mem _ miWa_init)
  have wl44 := hts _ (List.mem_cons_of_mem _ mlX_44)
  have f47 := hts _ (List.mem_cons_of_mem _ mfX_47)
  have inSw_ : ∀ w ∈ wsSw0, w ∈ wsX_init := fun w h => List.mem_cons_of_mem _ (inSw_all w h)
  have wx51 := hts _ (List.mem_cons_of_mem _ mxX_51)
  have wtSw := hts _ (List.mem_cons_of_mem _ mtSw)
  have wnSw := hts _ (List.mem_cons_of_mem _ mnSw)
  have wiSw := hts _ (List.mem_cons_of_mem _ miSw_init)
  have wl53 := hts _ (List.mem_cons_of_mem _ mlX_53)
  have f54 := hts _ (List.mem_cons_of_mem _ mfX_54)
  refine lv_aload_n hx hb dX_init_0 rfl (lv_at hl 0 rfl) ?_
  refine W.objInit hx hb hown oi oj oc rfl (by rw [hml]; exact hl.1) rfl dX_init_1 (Nat.le_of_ble_eq_true rfl) (Nat.le_of_ble_eq_true rfl) ?_
  refine W.eq (g2 := F0 m 4 ls []) rfl ?_
  refine lv_aload_n hx hb dX_init_4 rfl (lv_at hl 0 rfl) ?_
  refine va_new (ci := 2) (fs := [.null, .null, .int 0, .int 0]) (C := RSh) (T := TSh) (N := 4) hx hb hts inSh_ tySh tySh_ok hown wx9 wtSh wnSh hK hP hD hS hA hcl.2.1 (by decide +kernel) (by decide) (by decide) dX_init_5 (fun q5 H hP hD hS => ?_)
  have hP : va_P D cl [(a, .inr (1, [.null, .null, .null, .null, .null, .null])), (q5, .inr (2, [.null, .null, .int 0, .int 0]))] H := hP
  have hD : va_D A [(a, .inr (1, [.null, .null, .null, .null, .null, .null])), (q5, .inr (2, [.null, .null, .int 0, .int 0]))] := hD
  refine W.widen (k := 1) (n := 4) (by decide) (by decide) ?_
  refine lv_dup hx hb dX_init_8 rfl ?_
  have hPc := hP.sub (ws' := [(q5, .inr (2, [.null, .null, .int 0, .int 0]))]) [1] rfl
  have hDc := hD.sub (ws' := [(q5, .inr (2, [.null, .null, .int 0, .int 0]))]) [1] (by decide) rfl
  have hKc := hK.sub (tys' := []) [] rfl
  have hFc := va_free (wc := [(q5, .inr (2, [.null, .null, .int 0, .int 0]))]) hD hS hA [1] rfl
  refine va_callv (va_runIN (As := []) (rest := [.ref q5, .ref a]) ⟨hx, hb, hml, hown, hts⟩ (c_Sh_init l D cl hcl q5 H.size) ⟨va_cnB 0 hts (gI_cALL mcSh_init) rfl rfl rfl hNw wnSh (by decide +kernel) ⟨Nat.le_of_ble_eq_true rfl, Nat.le_of_ble_eq_true rfl⟩, rfl, wiSh⟩ ⟨fun a U g mk q => by obtain ⟨q0, q1, qP, qK, qD⟩ := q; exact ⟨q0, q1, qP, va_K.moved (u := U) (U := U.calling g mk a) (Vm.Alike.refl U.vm) qK, qD⟩, fun U hU hW => ⟨rfl, by rw [hU], by rw [hU]; exact hPc, va_K.moved hW.alike hKc, hDc.weaken (fun _ _ _ _ => trivial)⟩⟩ rfl rfl hl.1 rfl (lv_room (Nat.le_of_ble_eq_true rfl)) dX_init_9 ⟨by decide, by decide⟩) hS (fun q _ h => hFc q h) hFc (fun uSh t H1 locs ht hvm _ hB hz1 hk1 hS => ?_)
  obtain ⟨hP1, hK1, hD1⟩ := hB
  rw [ht] at hP1
  have hK1 := va_K.moved hvm.symm hK1
  obtain ⟨hP, hD⟩ := va_join (wr := [(a, .inr (1, [.null, .null, .null, .null, .null, .null]))]) (w1 := iwSh q5 uSh.1 uSh.2) hP hD [1] [0] rfl rfl (by decide) (by decide) hk1 hFc hP1 hD1
  have hK := (hK.sub (tys' := []) [] rfl).app hK1
  generalize H1 = H at hP hS ⊢
  have hK : va_K D cl [((uSh.2 0), .int), ((uSh.2 1), .int)] s := hK
  have hP : va_P D cl [(a, .inr (1, [.null, .null, .null, .null, .null, .null])), (q5, .inr (2, [.ref (uSh.1 0), .ref (uSh.1 1), .int 0, .int 1])), ((uSh.1 0), .inl ((uSh.2 0), 8, .inl (fun _ => 0))), ((uSh.1 1), .inl ((uSh.2 1), 8, .inl (fun _ => 0)))] H := hP
  have hD : va_D A [(a, .inr (1, [.null, .null, .null, .null, .null, .null])), (q5, .inr (2, [.ref (uSh.1 0), .ref (uSh.1 1), .int 0, .int 1])), ((uSh.1 0), .inl ((uSh.2 0), 8, .inl (fun _ => 0))), ((uSh.1 1), .inl ((uSh.2 1), 8, .inl (fun _ => 0)))] := hD
  refine W.widen (k := 3) (n := 20) (by decide) (by decide) ?_
  refine va_putF (D := D) (ci := 1) (v := .ref q5) (ty := tyX 0) (C := RX) (T := TX) (N := 6) hx hb hts inX_ tyX tyX_ok nmX hown hK hP hD hS 0 rfl hcl.1 0 (by decide) f12 (fun _ h9 => h9) rfl hin rfl (tyX_ok 0 (by decide)) rfl rfl (Nat.le_of_ble_eq_true rfl) dX_init_12 (fun H locs hP hD hS => ?_)
  have hP : va_P D cl [(a, .inr (1, [.ref q5, .null, .null, .null, .null, .null])), (q5, .inr (2, [.ref (uSh.1 0), .ref (uSh.1 1), .int 0, .int 1])), ((uSh.1 0), .inl ((uSh.2 0), 8, .inl (fun _ => 0))), ((uSh.1 1), .inl ((uSh.2 1), 8, .inl (fun _ => 0)))] H := hP
  have hD : va_D A [(a, .inr (1, [.ref q5, .null, .null, .null, .null, .null])), (q5, .inr (2, [.ref (uSh.1 0), .ref (uSh.1 1), .int 0, .int 1])), ((uSh.1 0), .inl ((uSh.2 0), 8, .inl (fun _ => 0))), ((uSh.1 1), .inl ((uSh.2 1), 8, .inl (fun _ => 0)))] := hD
  refine lv_aload_n hx hb dX_init_15 rfl (lv_at hl 0 rfl) ?_
  refine va_new (ci := 4) (fs := [.null, .null, .null, .null, .int 0, .int 0, .null, .null, .null, .null]) (C := RBo) (T := TBo) (N := 10) hx hb hts inBo_ tyBo tyBo_ok hown wx16 wtBo wnBo hK hP hD hS hA hcl.2.2.2.1 (by decide +kernel) (by decide) (by decide) dX_init_16 (fun q16 H hP hD hS => ?_)
  have hP : va_P D cl [(a, .inr (1, [.ref q5, .null, .null, .null, .null, .null])), (q5, .inr (2, [.ref (uSh.1 0), .ref (uSh.1 1), .int 0, .int 1])), ((uSh.1 0), .inl ((uSh.2 0), 8, .inl (fun _ => 0))), ((uSh.1 1), .inl ((uSh.2 1), 8, .inl (fun _ => 0))), (q16, .inr (4, [.null, .null, .null, .null, .int 0, .int 0, .null, .null, .null, .null]))] H := hP
  have hD : va_D A [(a, .inr (1, [.ref q5, .null, .null, .null, .null, .null])), (q5, .inr (2, [.ref (uSh.1 0), .ref (uSh.1 1), .int 0, .int 1])), ((uSh.1 0), .inl ((uSh.2 0), 8, .inl (fun _ => 0))), ((uSh.1 1), .inl ((uSh.2 1), 8, .inl (fun _ => 0))), (q16, .inr (4, [.null, .null, .null, .null, .int 0, .int 0, .null, .null, .null, .null]))] := hD
  refine W.widen (k := 4) (n := 30) (by decide) (by decide) ?_
  refine lv_dup hx hb dX_init_19 rfl ?_
  refine lv_aload_n hx hb dX_init_20 rfl (lv_at hl 0 rfl) ?_
  refine va_get (D := D) (ci := 1) (v := .ref q5) (C := RX) (T := TX) (N := 6) hx hb hts inX_ hown hK hP 0 rfl hcl.1 0 (by decide) f12 (fun _ h9 => h9) rfl dX_init_21 ?_
  have hPc := hP.sub (ws' := [(q16, .inr (4, [.null, .null, .null, .null, .int 0, .int 0, .null, .null, .null, .null]))]) [4] rfl
  have hDc := hD.sub (ws' := [(q16, .inr (4, [.null, .null, .null, .null, .int 0, .int 0, .null, .null, .null, .null]))]) [4] (by decide) rfl
  have hKc := hK.sub (tys' := []) [] rfl
  have hFc := va_free (wc := [(q16, .inr (4, [.null, .null, .null, .null, .int 0, .int 0, .null, .null, .null, .null]))]) hD hS hA [4] rfl
  refine va_callv (va_runI (As := [.ref q5]) (rest := [.ref q16, .ref a]) ⟨hx, hb, hml, hown, hts⟩ (c_Bo_init l D cl hcl q16 H.size q5) (cwI 1 hts (gI_cALL mcBo_init) rfl rfl rfl wnBo wl18 wiBo rfl (by decide +kernel) ⟨Nat.le_of_ble_eq_true rfl, Nat.le_of_ble_eq_true rfl⟩) ⟨fun a U g mk q => by obtain ⟨q0, q1, qP, qK, qD⟩ := q; exact ⟨q0, q1, qP, va_K.moved (u := U) (U := U.calling g mk a) (Vm.Alike.refl U.vm) qK, qD⟩, fun U hU hW => ⟨rfl, by rw [hU], by rw [hU]; exact hPc, va_K.moved hW.alike hKc, hDc.weaken (fun _ _ _ _ => trivial)⟩⟩ rfl rfl hl.1 rfl (lv_room (Nat.le_of_ble_eq_true rfl)) dX_init_24 ⟨by decide, by decide⟩) hS (fun q _ h => hFc q h) hFc (fun uBo t H1 locs ht hvm _ hB hz1 hk1 hS => ?_)
  obtain ⟨hP1, hK1, hD1⟩ := hB
  rw [ht] at hP1
  have hK1 := va_K.moved hvm.symm hK1
  obtain ⟨hP, hD⟩ := va_join (wr := [(a, .inr (1, [.ref q5, .null, .null, .null, .null, .null])), (q5, .inr (2, [.ref (uSh.1 0), .ref (uSh.1 1), .int 0, .int 1])), ((uSh.1 0), .inl ((uSh.2 0), 8, .inl (fun _ => 0))), ((uSh.1 1), .inl ((uSh.2 1), 8, .inl (fun _ => 0)))]) (w1 := iwBo q16 q5 uBo.1 uBo.2) hP hD [4] [0, 1, 2, 3] rfl rfl (by decide) (by decide) hk1 hFc hP1 hD1
  have hK := (hK.sub (tys' := [((uSh.2 0), .int), ((uSh.2 1), .int)]) [0, 1] rfl).app hK1
  generalize H1 = H at hP hS ⊢
  have hK : va_K D cl [((uSh.2 0), .int), ((uSh.2 1), .int), ((uBo.2 6), .int), ((uBo.2 7), .int), ((uBo.2 8), .boolean), ((uBo.2 9), .int), ((uBo.2 10), .int), ((uBo.2 11), .boolean), ((uBo.2 2), .int), ((uBo.2 3), .int), ((uBo.2 4), .int), ((uBo.2 5), .int)] s := hK
  have hP : va_P D cl [(a, .inr (1, [.ref q5, .null, .null, .null, .null, .null])), (q5, .inr (2, [.ref (uSh.1 0), .ref (uSh.1 1), .int 0, .int 1])), ((uSh.1 0), .inl ((uSh.2 0), 8, .inl (fun _ => 0))), ((uSh.1 1), .inl ((uSh.2 1), 8, .inl (fun _ => 0))), (q16, .inr (4, [.ref q5, .ref (uBo.1 102), .ref (uBo.1 6), .ref (uBo.1 7), .int 0, .int 0, .ref (uBo.1 8), .ref (uBo.1 9), .ref (uBo.1 10), .ref (uBo.1 11)])), ((uBo.1 6), .inl ((uBo.2 6), 4, .inl (fun _ => 0))), ((uBo.1 7), .inl ((uBo.2 7), 400, .inl (fun _ => 0))), ((uBo.1 8), .inl ((uBo.2 8), 4, .inl (fun _ => 0))), ((uBo.1 9), .inl ((uBo.2 9), 4, .inl (fun _ => 0))), ((uBo.1 10), .inl ((uBo.2 10), 16384, .inl (fun _ => 0))), ((uBo.1 11), .inl ((uBo.2 11), 4096, .inl (fun _ => 0))), ((uBo.1 102), .inr (3, [.ref q5, .ref (uBo.1 2), .ref (uBo.1 3), .ref (uBo.1 4), .ref (uBo.1 5)])), ((uBo.1 2), .inl ((uBo.2 2), 440, .inl (fun _ => 0))), ((uBo.1 3), .inl ((uBo.2 3), 440, .inl (fun _ => 0))), ((uBo.1 4), .inl ((uBo.2 4), 440, .inl (fun _ => 0))), ((uBo.1 5), .inl ((uBo.2 5), 440, .inl (fun _ => 0)))] H := hP
  have hD : va_D A [(a, .inr (1, [.ref q5, .null, .null, .null, .null, .null])), (q5, .inr (2, [.ref (uSh.1 0), .ref (uSh.1 1), .int 0, .int 1])), ((uSh.1 0), .inl ((uSh.2 0), 8, .inl (fun _ => 0))), ((uSh.1 1), .inl ((uSh.2 1), 8, .inl (fun _ => 0))), (q16, .inr (4, [.ref q5, .ref (uBo.1 102), .ref (uBo.1 6), .ref (uBo.1 7), .int 0, .int 0, .ref (uBo.1 8), .ref (uBo.1 9), .ref (uBo.1 10), .ref (uBo.1 11)])), ((uBo.1 6), .inl ((uBo.2 6), 4, .inl (fun _ => 0))), ((uBo.1 7), .inl ((uBo.2 7), 400, .inl (fun _ => 0))), ((uBo.1 8), .inl ((uBo.2 8), 4, .inl (fun _ => 0))), ((uBo.1 9), .inl ((uBo.2 9), 4, .inl (fun _ => 0))), ((uBo.1 10), .inl ((uBo.2 10), 16384, .inl (fun _ => 0))), ((uBo.1 11), .inl ((uBo.2 11), 4096, .inl (fun _ => 0))), ((uBo.1 102), .inr (3, [.ref q5, .ref (uBo.1 2), .ref (uBo.1 3), .ref (uBo.1 4), .ref (uBo.1 5)])), ((uBo.1 2), .inl ((uBo.2 2), 440, .inl (fun _ => 0))), ((uBo.1 3), .inl ((uBo.2 3), 440, .inl (fun _ => 0))), ((uBo.1 4), .inl ((uBo.2 4), 440, .inl (fun _ => 0))), ((uBo.1 5), .inl ((uBo.2 5), 440, .inl (fun _ => 0)))] := hD
  refine W.widen (k := 15) (n := 22687) (by decide) (by decide) ?_
  refine va_putF (D := D) (ci := 1) (v := .ref q16) (ty := tyX 1) (C := RX) (T := TX) (N := 6) hx hb hts inX_ tyX tyX_ok nmX hown hK hP hD hS 0 rfl hcl.1 1 (by decide) f21 (fun _ h9 => h9) rfl hin rfl (tyX_ok 1 (by decide)) rfl rfl (Nat.le_of_ble_eq_true rfl) dX_init_27 (fun H locs hP hD hS => ?_)
  have hP : va_P D cl [(a, .inr (1, [.ref q5, .ref q16, .null, .null, .null, .null])), (q5, .inr (2, [.ref (uSh.1 0), .ref (uSh.1 1), .int 0, .int 1])), ((uSh.1 0), .inl ((uSh.2 0), 8, .inl (fun _ => 0))), ((uSh.1 1), .inl ((uSh.2 1), 8, .inl (fun _ => 0))), (q16, .inr (4, [.ref q5, .ref (uBo.1 102), .ref (uBo.1 6), .ref (uBo.1 7), .int 0, .int 0, .ref (uBo.1 8), .ref (uBo.1 9), .ref (uBo.1 10), .ref (uBo.1 11)])), ((uBo.1 6), .inl ((uBo.2 6), 4, .inl (fun _ => 0))), ((uBo.1 7), .inl ((uBo.2 7), 400, .inl (fun _ => 0))), ((uBo.1 8), .inl ((uBo.2 8), 4, .inl (fun _ => 0))), ((uBo.1 9), .inl ((uBo.2 9), 4, .inl (fun _ => 0))), ((uBo.1 10), .inl ((uBo.2 10), 16384, .inl (fun _ => 0))), ((uBo.1 11), .inl ((uBo.2 11), 4096, .inl (fun _ => 0))), ((uBo.1 102), .inr (3, [.ref q5, .ref (uBo.1 2), .ref (uBo.1 3), .ref (uBo.1 4), .ref (uBo.1 5)])), ((uBo.1 2), .inl ((uBo.2 2), 440, .inl (fun _ => 0))), ((uBo.1 3), .inl ((uBo.2 3), 440, .inl (fun _ => 0))), ((uBo.1 4), .inl ((uBo.2 4), 440, .inl (fun _ => 0))), ((uBo.1 5), .inl ((uBo.2 5), 440, .inl (fun _ => 0)))] H := hP
  have hD : va_D A [(a, .inr (1, [.ref q5, .ref q16, .null, .null, .null, .null])), (q5, .inr (2, [.ref (uSh.1 0), .ref (uSh.1 1), .int 0, .int 1])), ((uSh.1 0), .inl ((uSh.2 0), 8, .inl (fun _ => 0))), ((uSh.1 1), .inl ((uSh.2 1), 8, .inl (fun _ => 0))), (q16, .inr (4, [.ref q5, .ref (uBo.1 102), .ref (uBo.1 6), .ref (uBo.1 7), .int 0, .int 0, .ref (uBo.1 8), .ref (uBo.1 9), .ref (uBo.1 10), .ref (uBo.1 11)])), ((uBo.1 6), .inl ((uBo.2 6), 4, .inl (fun _ => 0))), ((uBo.1 7), .inl ((uBo.2 7), 400, .inl (fun _ => 0))), ((uBo.1 8), .inl ((uBo.2 8), 4, .inl (fun _ => 0))), ((uBo.1 9), .inl ((uBo.2 9), 4, .inl (fun _ => 0))), ((uBo.1 10), .inl ((uBo.2 10), 16384, .inl (fun _ => 0))), ((uBo.1 11), .inl ((uBo.2 11), 4096, .inl (fun _ => 0))), ((uBo.1 102), .inr (3, [.ref q5, .ref (uBo.1 2), .ref (uBo.1 3), .ref (uBo.1 4), .ref (uBo.1 5)])), ((uBo.1 2), .inl ((uBo.2 2), 440, .inl (fun _ => 0))), ((uBo.1 3), .inl ((uBo.2 3), 440, .inl (fun _ => 0))), ((uBo.1 4), .inl ((uBo.2 4), 440, .inl (fun _ => 0))), ((uBo.1 5), .inl ((uBo.2 5), 440, .inl (fun _ => 0)))] := hD
  refine lv_aload_n hx hb dX_init_30 rfl (lv_at hl 0 rfl) ?_
  refine va_new (ci := 5) (fs := [.null, .null, .null, .null, .int 0, .int 0]) (C := RFr) (T := TFr) (N := 6) hx hb hts inFr_ tyFr tyFr_ok hown wx25 wtFr wnFr hK hP hD hS hA hcl.2.2.2.2.1 (by decide +kernel) (by decide) (by decide) dX_init_31 (fun q31 H hP hD hS => ?_)
  have hP : va_P D cl [(a, .inr (1, [.ref q5, .ref q16, .null, .null, .null, .null])), (q5, .inr (2, [.ref (uSh.1 0), .ref (uSh.1 1), .int 0, .int 1])), ((uSh.1 0), .inl ((uSh.2 0), 8, .inl (fun _ => 0))), ((uSh.1 1), .inl ((uSh.2 1), 8, .inl (fun _ => 0))), (q16, .inr (4, [.ref q5, .ref (uBo.1 102), .ref (uBo.1 6), .ref (uBo.1 7), .int 0, .int 0, .ref (uBo.1 8), .ref (uBo.1 9), .ref (uBo.1 10), .ref (uBo.1 11)])), ((uBo.1 6), .inl ((uBo.2 6), 4, .inl (fun _ => 0))), ((uBo.1 7), .inl ((uBo.2 7), 400, .inl (fun _ => 0))), ((uBo.1 8), .inl ((uBo.2 8), 4, .inl (fun _ => 0))), ((uBo.1 9), .inl ((uBo.2 9), 4, .inl (fun _ => 0))), ((uBo.1 10), .inl ((uBo.2 10), 16384, .inl (fun _ => 0))), ((uBo.1 11), .inl ((uBo.2 11), 4096, .inl (fun _ => 0))), ((uBo.1 102), .inr (3, [.ref q5, .ref (uBo.1 2), .ref (uBo.1 3), .ref (uBo.1 4), .ref (uBo.1 5)])), ((uBo.1 2), .inl ((uBo.2 2), 440, .inl (fun _ => 0))), ((uBo.1 3), .inl ((uBo.2 3), 440, .inl (fun _ => 0))), ((uBo.1 4), .inl ((uBo.2 4), 440, .inl (fun _ => 0))), ((uBo.1 5), .inl ((uBo.2 5), 440, .inl (fun _ => 0))), (q31, .inr (5, [.null, .null, .null, .null, .int 0, .int 0]))] H := hP
  have hD : va_D A [(a, .inr (1, [.ref q5, .ref q16, .null, .null, .null, .null])), (q5, .inr (2, [.ref (uSh.1 0), .ref (uSh.1 1), .int 0, .int 1])), ((uSh.1 0), .inl ((uSh.2 0), 8, .inl (fun _ => 0))), ((uSh.1 1), .inl ((uSh.2 1), 8, .inl (fun _ => 0))), (q16, .inr (4, [.ref q5, .ref (uBo.1 102), .ref (uBo.1 6), .ref (uBo.1 7), .int 0, .int 0, .ref (uBo.1 8), .ref (uBo.1 9), .ref (uBo.1 10), .ref (uBo.1 11)])), ((uBo.1 6), .inl ((uBo.2 6), 4, .inl (fun _ => 0))), ((uBo.1 7), .inl ((uBo.2 7), 400, .inl (fun _ => 0))), ((uBo.1 8), .inl ((uBo.2 8), 4, .inl (fun _ => 0))), ((uBo.1 9), .inl ((uBo.2 9), 4, .inl (fun _ => 0))), ((uBo.1 10), .inl ((uBo.2 10), 16384, .inl (fun _ => 0))), ((uBo.1 11), .inl ((uBo.2 11), 4096, .inl (fun _ => 0))), ((uBo.1 102), .inr (3, [.ref q5, .ref (uBo.1 2), .ref (uBo.1 3), .ref (uBo.1 4), .ref (uBo.1 5)])), ((uBo.1 2), .inl ((uBo.2 2), 440, .inl (fun _ => 0))), ((uBo.1 3), .inl ((uBo.2 3), 440, .inl (fun _ => 0))), ((uBo.1 4), .inl ((uBo.2 4), 440, .inl (fun _ => 0))), ((uBo.1 5), .inl ((uBo.2 5), 440, .inl (fun _ => 0))), (q31, .inr (5, [.null, .null, .null, .null, .int 0, .int 0]))] := hD
  refine W.widen (k := 16) (n := 22693) (by decide) (by decide) ?_
  refine lv_dup hx hb dX_init_34 rfl ?_
  refine lv_aload_n hx hb dX_init_35 rfl (lv_at hl 0 rfl) ?_
  refine va_get (D := D) (ci := 1) (v := .ref q5) (C := RX) (T := TX) (N := 6) hx hb hts inX_ hown hK hP 0 rfl hcl.1 0 (by decide) f12 (fun _ h9 => h9) rfl dX_init_36 ?_
  refine lv_aload_n hx hb dX_init_39 rfl (lv_at hl 0 rfl) ?_
  refine va_get (D := D) (ci := 1) (v := .ref q16) (C := RX) (T := TX) (N := 6) hx hb hts inX_ hown hK hP 0 rfl hcl.1 1 (by decide) f21 (fun _ h9 => h9) rfl dX_init_40 ?_
  have hPc := hP.sub (ws' := [(q31, .inr (5, [.null, .null, .null, .null, .int 0, .int 0]))]) [16] rfl
  have hDc := hD.sub (ws' := [(q31, .inr (5, [.null, .null, .null, .null, .int 0, .int 0]))]) [16] (by decide) rfl
  have hKc := hK.sub (tys' := []) [] rfl
  have hFc := va_free (wc := [(q31, .inr (5, [.null, .null, .null, .null, .int 0, .int 0]))]) hD hS hA [16] rfl
  refine va_callv (va_runI (As := [.ref q5, .ref q16]) (rest := [.ref q31, .ref a]) ⟨hx, hb, hml, hown, hts⟩ (c_Fr_init l D cl hcl q31 H.size q5 q16) (cwI 2 hts (gI_cALL mcFr_init) rfl rfl rfl wnFr wl27 wiFr rfl (by decide +kernel) ⟨Nat.le_of_ble_eq_true rfl, Nat.le_of_ble_eq_true rfl⟩) ⟨fun a U g mk q => by obtain ⟨q0, q1, qP, qK, qD⟩ := q; exact ⟨q0, q1, qP, va_K.moved (u := U) (U := U.calling g mk a) (Vm.Alike.refl U.vm) qK, qD⟩, fun U hU hW => ⟨rfl, by rw [hU], by rw [hU]; exact hPc, va_K.moved hW.alike hKc, hDc.weaken (fun _ _ _ _ => trivial)⟩⟩ rfl rfl hl.1 rfl (lv_room (Nat.le_of_ble_eq_true rfl)) dX_init_43 ⟨by decide, by decide⟩) hS (fun q _ h => hFc q h) hFc (fun uFr t H1 locs ht hvm _ hB hz1 hk1 hS => ?_)
  obtain ⟨hP1, hK1, hD1⟩ := hB
  rw [ht] at hP1
  have hK1 := va_K.moved hvm.symm hK1
  obtain ⟨hP, hD⟩ := va_join (wr := [(a, .inr (1, [.ref q5, .ref q16, .null, .null, .null, .null])), (q5, .inr (2, [.ref (uSh.1 0), .ref (uSh.1 1), .int 0, .int 1])), ((uSh.1 0), .inl ((uSh.2 0), 8, .inl (fun _ => 0))), ((uSh.1 1), .inl ((uSh.2 1), 8, .inl (fun _ => 0))), (q16, .inr (4, [.ref q5, .ref (uBo.1 102), .ref (uBo.1 6), .ref (uBo.1 7), .int 0, .int 0, .ref (uBo.1 8), .ref (uBo.1 9), .ref (uBo.1 10), .ref (uBo.1 11)])), ((uBo.1 6), .inl ((uBo.2 6), 4, .inl (fun _ => 0))), ((uBo.1 7), .inl ((uBo.2 7), 400, .inl (fun _ => 0))), ((uBo.1 8), .inl ((uBo.2 8), 4, .inl (fun _ => 0))), ((uBo.1 9), .inl ((uBo.2 9), 4, .inl (fun _ => 0))), ((uBo.1 10), .inl ((uBo.2 10), 16384, .inl (fun _ => 0))), ((uBo.1 11), .inl ((uBo.2 11), 4096, .inl (fun _ => 0))), ((uBo.1 102), .inr (3, [.ref q5, .ref (uBo.1 2), .ref (uBo.1 3), .ref (uBo.1 4), .ref (uBo.1 5)])), ((uBo.1 2), .inl ((uBo.2 2), 440, .inl (fun _ => 0))), ((uBo.1 3), .inl ((uBo.2 3), 440, .inl (fun _ => 0))), ((uBo.1 4), .inl ((uBo.2 4), 440, .inl (fun _ => 0))), ((uBo.1 5), .inl ((uBo.2 5), 440, .inl (fun _ => 0)))]) (w1 := iwFr q31 q5 q16 uFr.1 uFr.2) hP hD [16] [0, 1, 2, 3, 4, 5, 6, 7, 8, 9, 10, 11, 12, 13, 14, 15] rfl rfl (by decide) (by decide) hk1 hFc hP1 hD1
  have hK := (hK.sub (tys' := [((uSh.2 0), .int), ((uSh.2 1), .int), ((uBo.2 6), .int), ((uBo.2 7), .int), ((uBo.2 8), .boolean), ((uBo.2 9), .int), ((uBo.2 10), .int), ((uBo.2 11), .boolean), ((uBo.2 2), .int), ((uBo.2 3), .int), ((uBo.2 4), .int), ((uBo.2 5), .int)]) [0, 1, 2, 3, 4, 5, 6, 7, 8, 9, 10, 11] rfl).app hK1
  generalize H1 = H at hP hS ⊢
  have hK : va_K D cl [((uSh.2 0), .int), ((uSh.2 1), .int), ((uBo.2 6), .int), ((uBo.2 7), .int), ((uBo.2 8), .boolean), ((uBo.2 9), .int), ((uBo.2 10), .int), ((uBo.2 11), .boolean), ((uBo.2 2), .int), ((uBo.2 3), .int), ((uBo.2 4), .int), ((uBo.2 5), .int), ((uFr.2 12), .int), ((uFr.2 13), .int)] s := hK
  have hP : va_P D cl [(a, .inr (1, [.ref q5, .ref q16, .null, .null, .null, .null])), (q5, .inr (2, [.ref (uSh.1 0), .ref (uSh.1 1), .int 0, .int 1])), ((uSh.1 0), .inl ((uSh.2 0), 8, .inl (fun _ => 0))), ((uSh.1 1), .inl ((uSh.2 1), 8, .inl (fun _ => 0))), (q16, .inr (4, [.ref q5, .ref (uBo.1 102), .ref (uBo.1 6), .ref (uBo.1 7), .int 0, .int 0, .ref (uBo.1 8), .ref (uBo.1 9), .ref (uBo.1 10), .ref (uBo.1 11)])), ((uBo.1 6), .inl ((uBo.2 6), 4, .inl (fun _ => 0))), ((uBo.1 7), .inl ((uBo.2 7), 400, .inl (fun _ => 0))), ((uBo.1 8), .inl ((uBo.2 8), 4, .inl (fun _ => 0))), ((uBo.1 9), .inl ((uBo.2 9), 4, .inl (fun _ => 0))), ((uBo.1 10), .inl ((uBo.2 10), 16384, .inl (fun _ => 0))), ((uBo.1 11), .inl ((uBo.2 11), 4096, .inl (fun _ => 0))), ((uBo.1 102), .inr (3, [.ref q5, .ref (uBo.1 2), .ref (uBo.1 3), .ref (uBo.1 4), .ref (uBo.1 5)])), ((uBo.1 2), .inl ((uBo.2 2), 440, .inl (fun _ => 0))), ((uBo.1 3), .inl ((uBo.2 3), 440, .inl (fun _ => 0))), ((uBo.1 4), .inl ((uBo.2 4), 440, .inl (fun _ => 0))), ((uBo.1 5), .inl ((uBo.2 5), 440, .inl (fun _ => 0))), (q31, .inr (5, [.ref q5, .ref q16, .ref (uFr.1 12), .ref (uFr.1 13), .int 0, .int 0])), ((uFr.1 12), .inl ((uFr.2 12), 4096, .inl (fun _ => 0))), ((uFr.1 13), .inl ((uFr.2 13), 4096, .inl (fun _ => 0)))] H := hP
  have hD : va_D A [(a, .inr (1, [.ref q5, .ref q16, .null, .null, .null, .null])), (q5, .inr (2, [.ref (uSh.1 0), .ref (uSh.1 1), .int 0, .int 1])), ((uSh.1 0), .inl ((uSh.2 0), 8, .inl (fun _ => 0))), ((uSh.1 1), .inl ((uSh.2 1), 8, .inl (fun _ => 0))), (q16, .inr (4, [.ref q5, .ref (uBo.1 102), .ref (uBo.1 6), .ref (uBo.1 7), .int 0, .int 0, .ref (uBo.1 8), .ref (uBo.1 9), .ref (uBo.1 10), .ref (uBo.1 11)])), ((uBo.1 6), .inl ((uBo.2 6), 4, .inl (fun _ => 0))), ((uBo.1 7), .inl ((uBo.2 7), 400, .inl (fun _ => 0))), ((uBo.1 8), .inl ((uBo.2 8), 4, .inl (fun _ => 0))), ((uBo.1 9), .inl ((uBo.2 9), 4, .inl (fun _ => 0))), ((uBo.1 10), .inl ((uBo.2 10), 16384, .inl (fun _ => 0))), ((uBo.1 11), .inl ((uBo.2 11), 4096, .inl (fun _ => 0))), ((uBo.1 102), .inr (3, [.ref q5, .ref (uBo.1 2), .ref (uBo.1 3), .ref (uBo.1 4), .ref (uBo.1 5)])), ((uBo.1 2), .inl ((uBo.2 2), 440, .inl (fun _ => 0))), ((uBo.1 3), .inl ((uBo.2 3), 440, .inl (fun _ => 0))), ((uBo.1 4), .inl ((uBo.2 4), 440, .inl (fun _ => 0))), ((uBo.1 5), .inl ((uBo.2 5), 440, .inl (fun _ => 0))), (q31, .inr (5, [.ref q5, .ref q16, .ref (uFr.1 12), .ref (uFr.1 13), .int 0, .int 0])), ((uFr.1 12), .inl ((uFr.2 12), 4096, .inl (fun _ => 0))), ((uFr.1 13), .inl ((uFr.2 13), 4096, .inl (fun _ => 0)))] := hD
  refine W.widen (k := 18) (n := 30885) (by decide) (by decide) ?_
  refine va_putF (D := D) (ci := 1) (v := .ref q31) (ty := tyX 2) (C := RX) (T := TX) (N := 6) hx hb hts inX_ tyX tyX_ok nmX hown hK hP hD hS 0 rfl hcl.1 2 (by decide) f30 (fun _ h9 => h9) rfl hin rfl (tyX_ok 2 (by decide)) rfl rfl (Nat.le_of_ble_eq_true rfl) dX_init_46 (fun H locs hP hD hS => ?_)
  have hP : va_P D cl [(a, .inr (1, [.ref q5, .ref q16, .ref q31, .null, .null, .null])), (q5, .inr (2, [.ref (uSh.1 0), .ref (uSh.1 1), .int 0, .int 1])), ((uSh.1 0), .inl ((uSh.2 0), 8, .inl (fun _ => 0))), ((uSh.1 1), .inl ((uSh.2 1), 8, .inl (fun _ => 0))), (q16, .inr (4, [.ref q5, .ref (uBo.1 102), .ref (uBo.1 6), .ref (uBo.1 7), .int 0, .int 0, .ref (uBo.1 8), .ref (uBo.1 9), .ref (uBo.1 10), .ref (uBo.1 11)])), ((uBo.1 6), .inl ((uBo.2 6), 4, .inl (fun _ => 0))), ((uBo.1 7), .inl ((uBo.2 7), 400, .inl (fun _ => 0))), ((uBo.1 8), .inl ((uBo.2 8), 4, .inl (fun _ => 0))), ((uBo.1 9), .inl ((uBo.2 9), 4, .inl (fun _ => 0))), ((uBo.1 10), .inl ((uBo.2 10), 16384, .inl (fun _ => 0))), ((uBo.1 11), .inl ((uBo.2 11), 4096, .inl (fun _ => 0))), ((uBo.1 102), .inr (3, [.ref q5, .ref (uBo.1 2), .ref (uBo.1 3), .ref (uBo.1 4), .ref (uBo.1 5)])), ((uBo.1 2), .inl ((uBo.2 2), 440, .inl (fun _ => 0))), ((uBo.1 3), .inl ((uBo.2 3), 440, .inl (fun _ => 0))), ((uBo.1 4), .inl ((uBo.2 4), 440, .inl (fun _ => 0))), ((uBo.1 5), .inl ((uBo.2 5), 440, .inl (fun _ => 0))), (q31, .inr (5, [.ref q5, .ref q16, .ref (uFr.1 12), .ref (uFr.1 13), .int 0, .int 0])), ((uFr.1 12), .inl ((uFr.2 12), 4096, .inl (fun _ => 0))), ((uFr.1 13), .inl ((uFr.2 13), 4096, .inl (fun _ => 0)))] H := hP
  have hD : va_D A [(a, .inr (1, [.ref q5, .ref q16, .ref q31, .null, .null, .null])), (q5, .inr (2, [.ref (uSh.1 0), .ref (uSh.1 1), .int 0, .int 1])), ((uSh.1 0), .inl ((uSh.2 0), 8, .inl (fun _ => 0))), ((uSh.1 1), .inl ((uSh.2 1), 8, .inl (fun _ => 0))), (q16, .inr (4, [.ref q5, .ref (uBo.1 102), .ref (uBo.1 6), .ref (uBo.1 7), .int 0, .int 0, .ref (uBo.1 8), .ref (uBo.1 9), .ref (uBo.1 10), .ref (uBo.1 11)])), ((uBo.1 6), .inl ((uBo.2 6), 4, .inl (fun _ => 0))), ((uBo.1 7), .inl ((uBo.2 7), 400, .inl (fun _ => 0))), ((uBo.1 8), .inl ((uBo.2 8), 4, .inl (fun _ => 0))), ((uBo.1 9), .inl ((uBo.2 9), 4, .inl (fun _ => 0))), ((uBo.1 10), .inl ((uBo.2 10), 16384, .inl (fun _ => 0))), ((uBo.1 11), .inl ((uBo.2 11), 4096, .inl (fun _ => 0))), ((uBo.1 102), .inr (3, [.ref q5, .ref (uBo.1 2), .ref (uBo.1 3), .ref (uBo.1 4), .ref (uBo.1 5)])), ((uBo.1 2), .inl ((uBo.2 2), 440, .inl (fun _ => 0))), ((uBo.1 3), .inl ((uBo.2 3), 440, .inl (fun _ => 0))), ((uBo.1 4), .inl ((uBo.2 4), 440, .inl (fun _ => 0))), ((uBo.1 5), .inl ((uBo.2 5), 440, .inl (fun _ => 0))), (q31, .inr (5, [.ref q5, .ref q16, .ref (uFr.1 12), .ref (uFr.1 13), .int 0, .int 0])), ((uFr.1 12), .inl ((uFr.2 12), 4096, .inl (fun _ => 0))), ((uFr.1 13), .inl ((uFr.2 13), 4096, .inl (fun _ => 0)))] := hD
  refine lv_aload_n hx hb dX_init_49 rfl (lv_at hl 0 rfl) ?_
  refine va_new (ci := 6) (fs := [.null, .null, .null, .int 0, .int 0, .int 0]) (C := RSe) (T := TSe) (N := 6) hx hb hts inSe_ tySe tySe_ok hown wx34 wtSe wnSe hK hP hD hS hA hcl.2.2.2.2.2.1 (by decide +kernel) (by decide) (by decide) dX_init_50 (fun q50 H hP hD hS => ?_)
  have hP : va_P D cl [(a, .inr (1, [.ref q5, .ref q16, .ref q31, .null, .null, .null])), (q5, .inr (2, [.ref (uSh.1 0), .ref (uSh.1 1), .int 0, .int 1])), ((uSh.1 0), .inl ((uSh.2 0), 8, .inl (fun _ => 0))), ((uSh.1 1), .inl ((uSh.2 1), 8, .inl (fun _ => 0))), (q16, .inr (4, [.ref q5, .ref (uBo.1 102), .ref (uBo.1 6), .ref (uBo.1 7), .int 0, .int 0, .ref (uBo.1 8), .ref (uBo.1 9), .ref (uBo.1 10), .ref (uBo.1 11)])), ((uBo.1 6), .inl ((uBo.2 6), 4, .inl (fun _ => 0))), ((uBo.1 7), .inl ((uBo.2 7), 400, .inl (fun _ => 0))), ((uBo.1 8), .inl ((uBo.2 8), 4, .inl (fun _ => 0))), ((uBo.1 9), .inl ((uBo.2 9), 4, .inl (fun _ => 0))), ((uBo.1 10), .inl ((uBo.2 10), 16384, .inl (fun _ => 0))), ((uBo.1 11), .inl ((uBo.2 11), 4096, .inl (fun _ => 0))), ((uBo.1 102), .inr (3, [.ref q5, .ref (uBo.1 2), .ref (uBo.1 3), .ref (uBo.1 4), .ref (uBo.1 5)])), ((uBo.1 2), .inl ((uBo.2 2), 440, .inl (fun _ => 0))), ((uBo.1 3), .inl ((uBo.2 3), 440, .inl (fun _ => 0))), ((uBo.1 4), .inl ((uBo.2 4), 440, .inl (fun _ => 0))), ((uBo.1 5), .inl ((uBo.2 5), 440, .inl (fun _ => 0))), (q31, .inr (5, [.ref q5, .ref q16, .ref (uFr.1 12), .ref (uFr.1 13), .int 0, .int 0])), ((uFr.1 12), .inl ((uFr.2 12), 4096, .inl (fun _ => 0))), ((uFr.1 13), .inl ((uFr.2 13), 4096, .inl (fun _ => 0))), (q50, .inr (6, [.null, .null, .null, .int 0, .int 0, .int 0]))] H := hP
  have hD : va_D A [(a, .inr (1, [.ref q5, .ref q16, .ref q31, .null, .null, .null])), (q5, .inr (2, [.ref (uSh.1 0), .ref (uSh.1 1), .int 0, .int 1])), ((uSh.1 0), .inl ((uSh.2 0), 8, .inl (fun _ => 0))), ((uSh.1 1), .inl ((uSh.2 1), 8, .inl (fun _ => 0))), (q16, .inr (4, [.ref q5, .ref (uBo.1 102), .ref (uBo.1 6), .ref (uBo.1 7), .int 0, .int 0, .ref (uBo.1 8), .ref (uBo.1 9), .ref (uBo.1 10), .ref (uBo.1 11)])), ((uBo.1 6), .inl ((uBo.2 6), 4, .inl (fun _ => 0))), ((uBo.1 7), .inl ((uBo.2 7), 400, .inl (fun _ => 0))), ((uBo.1 8), .inl ((uBo.2 8), 4, .inl (fun _ => 0))), ((uBo.1 9), .inl ((uBo.2 9), 4, .inl (fun _ => 0))), ((uBo.1 10), .inl ((uBo.2 10), 16384, .inl (fun _ => 0))), ((uBo.1 11), .inl ((uBo.2 11), 4096, .inl (fun _ => 0))), ((uBo.1 102), .inr (3, [.ref q5, .ref (uBo.1 2), .ref (uBo.1 3), .ref (uBo.1 4), .ref (uBo.1 5)])), ((uBo.1 2), .inl ((uBo.2 2), 440, .inl (fun _ => 0))), ((uBo.1 3), .inl ((uBo.2 3), 440, .inl (fun _ => 0))), ((uBo.1 4), .inl ((uBo.2 4), 440, .inl (fun _ => 0))), ((uBo.1 5), .inl ((uBo.2 5), 440, .inl (fun _ => 0))), (q31, .inr (5, [.ref q5, .ref q16, .ref (uFr.1 12), .ref (uFr.1 13), .int 0, .int 0])), ((uFr.1 12), .inl ((uFr.2 12), 4096, .inl (fun _ => 0))), ((uFr.1 13), .inl ((uFr.2 13), 4096, .inl (fun _ => 0))), (q50, .inr (6, [.null, .null, .null, .int 0, .int 0, .int 0]))] := hD
  refine W.widen (k := 19) (n := 30891) (by decide) (by decide) ?_
  refine lv_dup hx hb dX_init_53 rfl ?_
  refine lv_aload_n hx hb dX_init_54 rfl (lv_at hl 0 rfl) ?_
  refine va_get (D := D) (ci := 1) (v := .ref q5) (C := RX) (T := TX) (N := 6) hx hb hts inX_ hown hK hP 0 rfl hcl.1 0 (by decide) f12 (fun _ h9 => h9) rfl dX_init_55 ?_
  refine lv_aload_n hx hb dX_init_58 rfl (lv_at hl 0 rfl) ?_
  refine va_get (D := D) (ci := 1) (v := .ref q16) (C := RX) (T := TX) (N := 6) hx hb hts inX_ hown hK hP 0 rfl hcl.1 1 (by decide) f21 (fun _ h9 => h9) rfl dX_init_59 ?_
  have hPc := hP.sub (ws' := [(q50, .inr (6, [.null, .null, .null, .int 0, .int 0, .int 0]))]) [19] rfl
  have hDc := hD.sub (ws' := [(q50, .inr (6, [.null, .null, .null, .int 0, .int 0, .int 0]))]) [19] (by decide) rfl
  have hKc := hK.sub (tys' := []) [] rfl
  have hFc := va_free (wc := [(q50, .inr (6, [.null, .null, .null, .int 0, .int 0, .int 0]))]) hD hS hA [19] rfl
  refine va_callv (va_runI (As := [.ref q5, .ref q16]) (rest := [.ref q50, .ref a]) ⟨hx, hb, hml, hown, hts⟩ (c_Se_init l D cl hcl q50 H.size q5 q16) (cwI 2 hts (gI_cALL mcSe_init) rfl rfl rfl wnSe wl36 wiSe rfl (by decide +kernel) ⟨Nat.le_of_ble_eq_true rfl, Nat.le_of_ble_eq_true rfl⟩) ⟨fun a U g mk q => by obtain ⟨q0, q1, qP, qK, qD⟩ := q; exact ⟨q0, q1, qP, va_K.moved (u := U) (U := U.calling g mk a) (Vm.Alike.refl U.vm) qK, qD⟩, fun U hU hW => ⟨rfl, by rw [hU], by rw [hU]; exact hPc, va_K.moved hW.alike hKc, hDc.weaken (fun _ _ _ _ => trivial)⟩⟩ rfl rfl hl.1 rfl (lv_room (Nat.le_of_ble_eq_true rfl)) dX_init_62 ⟨by decide, by decide⟩) hS (fun q _ h => hFc q h) hFc (fun uSe t H1 locs ht hvm _ hB hz1 hk1 hS => ?_)
  obtain ⟨hP1, hK1, hD1⟩ := hB
  rw [ht] at hP1
  have hK1 := va_K.moved hvm.symm hK1
  obtain ⟨hP, hD⟩ := va_join (wr := [(a, .inr (1, [.ref q5, .ref q16, .ref q31, .null, .null, .null])), (q5, .inr (2, [.ref (uSh.1 0), .ref (uSh.1 1), .int 0, .int 1])), ((uSh.1 0), .inl ((uSh.2 0), 8, .inl (fun _ => 0))), ((uSh.1 1), .inl ((uSh.2 1), 8, .inl (fun _ => 0))), (q16, .inr (4, [.ref q5, .ref (uBo.1 102), .ref (uBo.1 6), .ref (uBo.1 7), .int 0, .int 0, .ref (uBo.1 8), .ref (uBo.1 9), .ref (uBo.1 10), .ref (uBo.1 11)])), ((uBo.1 6), .inl ((uBo.2 6), 4, .inl (fun _ => 0))), ((uBo.1 7), .inl ((uBo.2 7), 400, .inl (fun _ => 0))), ((uBo.1 8), .inl ((uBo.2 8), 4, .inl (fun _ => 0))), ((uBo.1 9), .inl ((uBo.2 9), 4, .inl (fun _ => 0))), ((uBo.1 10), .inl ((uBo.2 10), 16384, .inl (fun _ => 0))), ((uBo.1 11), .inl ((uBo.2 11), 4096, .inl (fun _ => 0))), ((uBo.1 102), .inr (3, [.ref q5, .ref (uBo.1 2), .ref (uBo.1 3), .ref (uBo.1 4), .ref (uBo.1 5)])), ((uBo.1 2), .inl ((uBo.2 2), 440, .inl (fun _ => 0))), ((uBo.1 3), .inl ((uBo.2 3), 440, .inl (fun _ => 0))), ((uBo.1 4), .inl ((uBo.2 4), 440, .inl (fun _ => 0))), ((uBo.1 5), .inl ((uBo.2 5), 440, .inl (fun _ => 0))), (q31, .inr (5, [.ref q5, .ref q16, .ref (uFr.1 12), .ref (uFr.1 13), .int 0, .int 0])), ((uFr.1 12), .inl ((uFr.2 12), 4096, .inl (fun _ => 0))), ((uFr.1 13), .inl ((uFr.2 13), 4096, .inl (fun _ => 0)))]) (w1 := iwSe q50 q5 q16 uSe.1 uSe.2) hP hD [19] [0, 1, 2, 3, 4, 5, 6, 7, 8, 9, 10, 11, 12, 13, 14, 15, 16, 17, 18] rfl rfl (by decide) (by decide) hk1 hFc hP1 hD1
  have hK := (hK.sub (tys' := [((uSh.2 0), .int), ((uSh.2 1), .int), ((uBo.2 6), .int), ((uBo.2 7), .int), ((uBo.2 8), .boolean), ((uBo.2 9), .int), ((uBo.2 10), .int), ((uBo.2 11), .boolean), ((uBo.2 2), .int), ((uBo.2 3), .int), ((uBo.2 4), .int), ((uBo.2 5), .int), ((uFr.2 12), .int), ((uFr.2 13), .int)]) [0, 1, 2, 3, 4, 5, 6, 7, 8, 9, 10, 11, 12, 13] rfl).app hK1
  generalize H1 = H at hP hS ⊢
  have hK : va_K D cl [((uSh.2 0), .int), ((uSh.2 1), .int), ((uBo.2 6), .int), ((uBo.2 7), .int), ((uBo.2 8), .boolean), ((uBo.2 9), .int), ((uBo.2 10), .int), ((uBo.2 11), .boolean), ((uBo.2 2), .int), ((uBo.2 3), .int), ((uBo.2 4), .int), ((uBo.2 5), .int), ((uFr.2 12), .int), ((uFr.2 13), .int), ((uSe.2 14), .int)] s := hK
  have hP : va_P D cl [(a, .inr (1, [.ref q5, .ref q16, .ref q31, .null, .null, .null])), (q5, .inr (2, [.ref (uSh.1 0), .ref (uSh.1 1), .int 0, .int 1])), ((uSh.1 0), .inl ((uSh.2 0), 8, .inl (fun _ => 0))), ((uSh.1 1), .inl ((uSh.2 1), 8, .inl (fun _ => 0))), (q16, .inr (4, [.ref q5, .ref (uBo.1 102), .ref (uBo.1 6), .ref (uBo.1 7), .int 0, .int 0, .ref (uBo.1 8), .ref (uBo.1 9), .ref (uBo.1 10), .ref (uBo.1 11)])), ((uBo.1 6), .inl ((uBo.2 6), 4, .inl (fun _ => 0))), ((uBo.1 7), .inl ((uBo.2 7), 400, .inl (fun _ => 0))), ((uBo.1 8), .inl ((uBo.2 8), 4, .inl (fun _ => 0))), ((uBo.1 9), .inl ((uBo.2 9), 4, .inl (fun _ => 0))), ((uBo.1 10), .inl ((uBo.2 10), 16384, .inl (fun _ => 0))), ((uBo.1 11), .inl ((uBo.2 11), 4096, .inl (fun _ => 0))), ((uBo.1 102), .inr (3, [.ref q5, .ref (uBo.1 2), .ref (uBo.1 3), .ref (uBo.1 4), .ref (uBo.1 5)])), ((uBo.1 2), .inl ((uBo.2 2), 440, .inl (fun _ => 0))), ((uBo.1 3), .inl ((uBo.2 3), 440, .inl (fun _ => 0))), ((uBo.1 4), .inl ((uBo.2 4), 440, .inl (fun _ => 0))), ((uBo.1 5), .inl ((uBo.2 5), 440, .inl (fun _ => 0))), (q31, .inr (5, [.ref q5, .ref q16, .ref (uFr.1 12), .ref (uFr.1 13), .int 0, .int 0])), ((uFr.1 12), .inl ((uFr.2 12), 4096, .inl (fun _ => 0))), ((uFr.1 13), .inl ((uFr.2 13), 4096, .inl (fun _ => 0))), (q50, .inr (6, [.ref q5, .ref q16, .ref (uSe.1 14), .int 0, .int (-1), .int 0])), ((uSe.1 14), .inl ((uSe.2 14), 8, .inl (fun _ => 0)))] H := hP
  have hD : va_D A [(a, .inr (1, [.ref q5, .ref q16, .ref q31, .null, .null, .null])), (q5, .inr (2, [.ref (uSh.1 0), .ref (uSh.1 1), .int 0, .int 1])), ((uSh.1 0), .inl ((uSh.2 0), 8, .inl (fun _ => 0))), ((uSh.1 1), .inl ((uSh.2 1), 8, .inl (fun _ => 0))), (q16, .inr (4, [.ref q5, .ref (uBo.1 102), .ref (uBo.1 6), .ref (uBo.1 7), .int 0, .int 0, .ref (uBo.1 8), .ref (uBo.1 9), .ref (uBo.1 10), .ref (uBo.1 11)])), ((uBo.1 6), .inl ((uBo.2 6), 4, .inl (fun _ => 0))), ((uBo.1 7), .inl ((uBo.2 7), 400, .inl (fun _ => 0))), ((uBo.1 8), .inl ((uBo.2 8), 4, .inl (fun _ => 0))), ((uBo.1 9), .inl ((uBo.2 9), 4, .inl (fun _ => 0))), ((uBo.1 10), .inl ((uBo.2 10), 16384, .inl (fun _ => 0))), ((uBo.1 11), .inl ((uBo.2 11), 4096, .inl (fun _ => 0))), ((uBo.1 102), .inr (3, [.ref q5, .ref (uBo.1 2), .ref (uBo.1 3), .ref (uBo.1 4), .ref (uBo.1 5)])), ((uBo.1 2), .inl ((uBo.2 2), 440, .inl (fun _ => 0))), ((uBo.1 3), .inl ((uBo.2 3), 440, .inl (fun _ => 0))), ((uBo.1 4), .inl ((uBo.2 4), 440, .inl (fun _ => 0))), ((uBo.1 5), .inl ((uBo.2 5), 440, .inl (fun _ => 0))), (q31, .inr (5, [.ref q5, .ref q16, .ref (uFr.1 12), .ref (uFr.1 13), .int 0, .int 0])), ((uFr.1 12), .inl ((uFr.2 12), 4096, .inl (fun _ => 0))), ((uFr.1 13), .inl ((uFr.2 13), 4096, .inl (fun _ => 0))), (q50, .inr (6, [.ref q5, .ref q16, .ref (uSe.1 14), .int 0, .int (-1), .int 0])), ((uSe.1 14), .inl ((uSe.2 14), 8, .inl (fun _ => 0)))] := hD
  refine W.widen (k := 20) (n := 30899) (by decide) (by decide) ?_
  refine va_putF (D := D) (ci := 1) (v := .ref q50) (ty := tyX 3) (C := RX) (T := TX) (N := 6) hx hb hts inX_ tyX tyX_ok nmX hown hK hP hD hS 0 rfl hcl.1 3 (by decide) f37 (fun _ h9 => h9) rfl hin rfl (tyX_ok 3 (by decide)) rfl rfl (Nat.le_of_ble_eq_true rfl) dX_init_65 (fun H locs hP hD hS => ?_)
  have hP : va_P D cl [(a, .inr (1, [.ref q5, .ref q16, .ref q31, .ref q50, .null, .null])), (q5, .inr (2, [.ref (uSh.1 0), .ref (uSh.1 1), .int 0, .int 1])), ((uSh.1 0), .inl ((uSh.2 0), 8, .inl (fun _ => 0))), ((uSh.1 1), .inl ((uSh.2 1), 8, .inl (fun _ => 0))), (q16, .inr (4, [.ref q5, .ref (uBo.1 102), .ref (uBo.1 6), .ref (uBo.1 7), .int 0, .int 0, .ref (uBo.1 8), .ref (uBo.1 9), .ref (uBo.1 10), .ref (uBo.1 11)])), ((uBo.1 6), .inl ((uBo.2 6), 4, .inl (fun _ => 0))), ((uBo.1 7), .inl ((uBo.2 7), 400, .inl (fun _ => 0))), ((uBo.1 8), .inl ((uBo.2 8), 4, .inl (fun _ => 0))), ((uBo.1 9), .inl ((uBo.2 9), 4, .inl (fun _ => 0))), ((uBo.1 10), .inl ((uBo.2 10), 16384, .inl (fun _ => 0))), ((uBo.1 11), .inl ((uBo.2 11), 4096, .inl (fun _ => 0))), ((uBo.1 102), .inr (3, [.ref q5, .ref (uBo.1 2), .ref (uBo.1 3), .ref (uBo.1 4), .ref (uBo.1 5)])), ((uBo.1 2), .inl ((uBo.2 2), 440, .inl (fun _ => 0))), ((uBo.1 3), .inl ((uBo.2 3), 440, .inl (fun _ => 0))), ((uBo.1 4), .inl ((uBo.2 4), 440, .inl (fun _ => 0))), ((uBo.1 5), .inl ((uBo.2 5), 440, .inl (fun _ => 0))), (q31, .inr (5, [.ref q5, .ref q16, .ref (uFr.1 12), .ref (uFr.1 13), .int 0, .int 0])), ((uFr.1 12), .inl ((uFr.2 12), 4096, .inl (fun _ => 0))), ((uFr.1 13), .inl ((uFr.2 13), 4096, .inl (fun _ => 0))), (q50, .inr (6, [.ref q5, .ref q16, .ref (uSe.1 14), .int 0, .int (-1), .int 0])), ((uSe.1 14), .inl ((uSe.2 14), 8, .inl (fun _ => 0)))] H := hP
  have hD : va_D A [(a, .inr (1, [.ref q5, .ref q16, .ref q31, .ref q50, .null, .null])), (q5, .inr (2, [.ref (uSh.1 0), .ref (uSh.1 1), .int 0, .int 1])), ((uSh.1 0), .inl ((uSh.2 0), 8, .inl (fun _ => 0))), ((uSh.1 1), .inl ((uSh.2 1), 8, .inl (fun _ => 0))), (q16, .inr (4, [.ref q5, .ref (uBo.1 102), .ref (uBo.1 6), .ref (uBo.1 7), .int 0, .int 0, .ref (uBo.1 8), .ref (uBo.1 9), .ref (uBo.1 10), .ref (uBo.1 11)])), ((uBo.1 6), .inl ((uBo.2 6), 4, .inl (fun _ => 0))), ((uBo.1 7), .inl ((uBo.2 7), 400, .inl (fun _ => 0))), ((uBo.1 8), .inl ((uBo.2 8), 4, .inl (fun _ => 0))), ((uBo.1 9), .inl ((uBo.2 9), 4, .inl (fun _ => 0))), ((uBo.1 10), .inl ((uBo.2 10), 16384, .inl (fun _ => 0))), ((uBo.1 11), .inl ((uBo.2 11), 4096, .inl (fun _ => 0))), ((uBo.1 102), .inr (3, [.ref q5, .ref (uBo.1 2), .ref (uBo.1 3), .ref (uBo.1 4), .ref (uBo.1 5)])), ((uBo.1 2), .inl ((uBo.2 2), 440, .inl (fun _ => 0))), ((uBo.1 3), .inl ((uBo.2 3), 440, .inl (fun _ => 0))), ((uBo.1 4), .inl ((uBo.2 4), 440, .inl (fun _ => 0))), ((uBo.1 5), .inl ((uBo.2 5), 440, .inl (fun _ => 0))), (q31, .inr (5, [.ref q5, .ref q16, .ref (uFr.1 12), .ref (uFr.1 13), .int 0, .int 0])), ((uFr.1 12), .inl ((uFr.2 12), 4096, .inl (fun _ => 0))), ((uFr.1 13), .inl ((uFr.2 13), 4096, .inl (fun _ => 0))), (q50, .inr (6, [.ref q5, .ref q16, .ref (uSe.1 14), .int 0, .int (-1), .int 0])), ((uSe.1 14), .inl ((uSe.2 14), 8, .inl (fun _ => 0)))] := hD
  refine lv_aload_n hx hb dX_init_68 rfl (lv_at hl 0 rfl) ?_
  refine va_new (ci := 7) (fs := [.null, .null, .int 0, .int 0, .int 0, .int 0]) (C := RWa) (T := TWa) (N := 6) hx hb hts inWa_ tyWa tyWa_ok hown wx41 wtWa wnWa hK hP hD hS hA hcl.2.2.2.2.2.2.1 (by decide +kernel) (by decide) (by decide) dX_init_69 (fun q69 H hP hD hS => ?_)
  have hP : va_P D cl [(a, .inr (1, [.ref q5, .ref q16, .ref q31, .ref q50, .null, .null])), (q5, .inr (2, [.ref (uSh.1 0), .ref (uSh.1 1), .int 0, .int 1])), ((uSh.1 0), .inl ((uSh.2 0), 8, .inl (fun _ => 0))), ((uSh.1 1), .inl ((uSh.2 1), 8, .inl (fun _ => 0))), (q16, .inr (4, [.ref q5, .ref (uBo.1 102), .ref (uBo.1 6), .ref (uBo.1 7), .int 0, .int 0, .ref (uBo.1 8), .ref (uBo.1 9), .ref (uBo.1 10), .ref (uBo.1 11)])), ((uBo.1 6), .inl ((uBo.2 6), 4, .inl (fun _ => 0))), ((uBo.1 7), .inl ((uBo.2 7), 400, .inl (fun _ => 0))), ((uBo.1 8), .inl ((uBo.2 8), 4, .inl (fun _ => 0))), ((uBo.1 9), .inl ((uBo.2 9), 4, .inl (fun _ => 0))), ((uBo.1 10), .inl ((uBo.2 10), 16384, .inl (fun _ => 0))), ((uBo.1 11), .inl ((uBo.2 11), 4096, .inl (fun _ => 0))), ((uBo.1 102), .inr (3, [.ref q5, .ref (uBo.1 2), .ref (uBo.1 3), .ref (uBo.1 4), .ref (uBo.1 5)])), ((uBo.1 2), .inl ((uBo.2 2), 440, .inl (fun _ => 0))), ((uBo.1 3), .inl ((uBo.2 3), 440, .inl (fun _ => 0))), ((uBo.1 4), .inl ((uBo.2 4), 440, .inl (fun _ => 0))), ((uBo.1 5), .inl ((uBo.2 5), 440, .inl (fun _ => 0))), (q31, .inr (5, [.ref q5, .ref q16, .ref (uFr.1 12), .ref (uFr.1 13), .int 0, .int 0])), ((uFr.1 12), .inl ((uFr.2 12), 4096, .inl (fun _ => 0))), ((uFr.1 13), .inl ((uFr.2 13), 4096, .inl (fun _ => 0))), (q50, .inr (6, [.ref q5, .ref q16, .ref (uSe.1 14), .int 0, .int (-1), .int 0])), ((uSe.1 14), .inl ((uSe.2 14), 8, .inl (fun _ => 0))), (q69, .inr (7, [.null, .null, .int 0, .int 0, .int 0, .int 0]))] H := hP
  have hD : va_D A [(a, .inr (1, [.ref q5, .ref q16, .ref q31, .ref q50, .null, .null])), (q5, .inr (2, [.ref (uSh.1 0), .ref (uSh.1 1), .int 0, .int 1])), ((uSh.1 0), .inl ((uSh.2 0), 8, .inl (fun _ => 0))), ((uSh.1 1), .inl ((uSh.2 1), 8, .inl (fun _ => 0))), (q16, .inr (4, [.ref q5, .ref (uBo.1 102), .ref (uBo.1 6), .ref (uBo.1 7), .int 0, .int 0, .ref (uBo.1 8), .ref (uBo.1 9), .ref (uBo.1 10), .ref (uBo.1 11)])), ((uBo.1 6), .inl ((uBo.2 6), 4, .inl (fun _ => 0))), ((uBo.1 7), .inl ((uBo.2 7), 400, .inl (fun _ => 0))), ((uBo.1 8), .inl ((uBo.2 8), 4, .inl (fun _ => 0))), ((uBo.1 9), .inl ((uBo.2 9), 4, .inl (fun _ => 0))), ((uBo.1 10), .inl ((uBo.2 10), 16384, .inl (fun _ => 0))), ((uBo.1 11), .inl ((uBo.2 11), 4096, .inl (fun _ => 0))), ((uBo.1 102), .inr (3, [.ref q5, .ref (uBo.1 2), .ref (uBo.1 3), .ref (uBo.1 4), .ref (uBo.1 5)])), ((uBo.1 2), .inl ((uBo.2 2), 440, .inl (fun _ => 0))), ((uBo.1 3), .inl ((uBo.2 3), 440, .inl (fun _ => 0))), ((uBo.1 4), .inl ((uBo.2 4), 440, .inl (fun _ => 0))), ((uBo.1 5), .inl ((uBo.2 5), 440, .inl (fun _ => 0))), (q31, .inr (5, [.ref q5, .ref q16, .ref (uFr.1 12), .ref (uFr.1 13), .int 0, .int 0])), ((uFr.1 12), .inl ((uFr.2 12), 4096, .inl (fun _ => 0))), ((uFr.1 13), .inl ((uFr.2 13), 4096, .inl (fun _ => 0))), (q50, .inr (6, [.ref q5, .ref q16, .ref (uSe.1 14), .int 0, .int (-1), .int 0])), ((uSe.1 14), .inl ((uSe.2 14), 8, .inl (fun _ => 0))), (q69, .inr (7, [.null, .null, .int 0, .int 0, .int 0, .int 0]))] := hD
  refine W.widen (k := 21) (n := 30905) (by decide) (by decide) ?_
  refine lv_dup hx hb dX_init_72 rfl ?_
  refine lv_aload_n hx hb dX_init_73 rfl (lv_at hl 0 rfl) ?_
  refine va_get (D := D) (ci := 1) (v := .ref q5) (C := RX) (T := TX) (N := 6) hx hb hts inX_ hown hK hP 0 rfl hcl.1 0 (by decide) f12 (fun _ h9 => h9) rfl dX_init_74 ?_
  refine lv_aload_n hx hb dX_init_77 rfl (lv_at hl 0 rfl) ?_
  refine va_get (D := D) (ci := 1) (v := .ref q16) (C := RX) (T := TX) (N := 6) hx hb hts inX_ hown hK hP 0 rfl hcl.1 1 (by decide) f21 (fun _ h9 => h9) rfl dX_init_78 ?_
  refine lv_iload_n hx hb dX_init_81 rfl (lv_at hl 1 rfl) ?_
  refine lv_ldc hx hb hown k_43 dX_init_82 ?_
  refine lv_iand hx hb dX_init_84 ?_
  have hPc := hP.sub (ws' := [(q69, .inr (7, [.null, .null, .int 0, .int 0, .int 0, .int 0]))]) [21] rfl
  have hDc := hD.sub (ws' := [(q69, .inr (7, [.null, .null, .int 0, .int 0, .int 0, .int 0]))]) [21] (by decide) rfl
  have hKc := hK.sub (tys' := []) [] rfl
  have hFc := va_free (wc := [(q69, .inr (7, [.null, .null, .int 0, .int 0, .int 0, .int 0]))]) hD hS hA [21] rfl
  refine va_callv (va_runI (As := [.ref q5, .ref q16, .int (sd &&& 2147483647)]) (rest := [.ref q69, .ref a]) ⟨hx, hb, hml, hown, hts⟩ (c_Wa_init l D cl hcl q69 H.size q5 q16 (sd &&& 2147483647)) (cwI 3 hts (gI_cALL mcWa_init) rfl rfl rfl wnWa wl44 wiWa rfl (by decide +kernel) ⟨Nat.le_of_ble_eq_true rfl, Nat.le_of_ble_eq_true rfl⟩) ⟨fun a U g mk q => by obtain ⟨q0, q1, qP, qK, qD⟩ := q; exact ⟨q0, q1, qP, va_K.moved (u := U) (U := U.calling g mk a) (Vm.Alike.refl U.vm) qK, qD⟩, fun U hU hW => ⟨rfl, by rw [hU], by rw [hU]; exact hPc, va_K.moved hW.alike hKc, hDc.weaken (fun _ _ _ _ => trivial)⟩⟩ rfl rfl hl.1 rfl (lv_room (Nat.le_of_ble_eq_true rfl)) dX_init_85 ⟨by decide, by decide⟩) hS (fun q _ h => hFc q h) hFc (fun uWa t H1 locs ht hvm _ hB hz1 hk1 hS => ?_)
  obtain ⟨hP1, hK1, hD1⟩ := hB
  rw [ht] at hP1
  have hK1 := va_K.moved hvm.symm hK1
  obtain ⟨hP, hD⟩ := va_join (wr := [(a, .inr (1, [.ref q5, .ref q16, .ref q31, .ref q50, .null, .null])), (q5, .inr (2, [.ref (uSh.1 0), .ref (uSh.1 1), .int 0, .int 1])), ((uSh.1 0), .inl ((uSh.2 0), 8, .inl (fun _ => 0))), ((uSh.1 1), .inl ((uSh.2 1), 8, .inl (fun _ => 0))), (q16, .inr (4, [.ref q5, .ref (uBo.1 102), .ref (uBo.1 6), .ref (uBo.1 7), .int 0, .int 0, .ref (uBo.1 8), .ref (uBo.1 9), .ref (uBo.1 10), .ref (uBo.1 11)])), ((uBo.1 6), .inl ((uBo.2 6), 4, .inl (fun _ => 0))), ((uBo.1 7), .inl ((uBo.2 7), 400, .inl (fun _ => 0))), ((uBo.1 8), .inl ((uBo.2 8), 4, .inl (fun _ => 0))), ((uBo.1 9), .inl ((uBo.2 9), 4, .inl (fun _ => 0))), ((uBo.1 10), .inl ((uBo.2 10), 16384, .inl (fun _ => 0))), ((uBo.1 11), .inl ((uBo.2 11), 4096, .inl (fun _ => 0))), ((uBo.1 102), .inr (3, [.ref q5, .ref (uBo.1 2), .ref (uBo.1 3), .ref (uBo.1 4), .ref (uBo.1 5)])), ((uBo.1 2), .inl ((uBo.2 2), 440, .inl (fun _ => 0))), ((uBo.1 3), .inl ((uBo.2 3), 440, .inl (fun _ => 0))), ((uBo.1 4), .inl ((uBo.2 4), 440, .inl (fun _ => 0))), ((uBo.1 5), .inl ((uBo.2 5), 440, .inl (fun _ => 0))), (q31, .inr (5, [.ref q5, .ref q16, .ref (uFr.1 12), .ref (uFr.1 13), .int 0, .int 0])), ((uFr.1 12), .inl ((uFr.2 12), 4096, .inl (fun _ => 0))), ((uFr.1 13), .inl ((uFr.2 13), 4096, .inl (fun _ => 0))), (q50, .inr (6, [.ref q5, .ref q16, .ref (uSe.1 14), .int 0, .int (-1), .int 0])), ((uSe.1 14), .inl ((uSe.2 14), 8, .inl (fun _ => 0)))]) (w1 := iwWa q69 q5 q16 (sd &&& 2147483647) uWa.1 uWa.2) hP hD [21] [0, 1, 2, 3, 4, 5, 6, 7, 8, 9, 10, 11, 12, 13, 14, 15, 16, 17, 18, 19, 20] rfl rfl (by decide) (by decide) hk1 hFc hP1 hD1
  have hK := (hK.sub (tys' := [((uSh.2 0), .int), ((uSh.2 1), .int), ((uBo.2 6), .int), ((uBo.2 7), .int), ((uBo.2 8), .boolean), ((uBo.2 9), .int), ((uBo.2 10), .int), ((uBo.2 11), .boolean), ((uBo.2 2), .int), ((uBo.2 3), .int), ((uBo.2 4), .int), ((uBo.2 5), .int), ((uFr.2 12), .int), ((uFr.2 13), .int), ((uSe.2 14), .int)]) [0, 1, 2, 3, 4, 5, 6, 7, 8, 9, 10, 11, 12, 13, 14] rfl).app hK1
  generalize H1 = H at hP hS ⊢
  have hK : va_K D cl [((uSh.2 0), .int), ((uSh.2 1), .int), ((uBo.2 6), .int), ((uBo.2 7), .int), ((uBo.2 8), .boolean), ((uBo.2 9), .int), ((uBo.2 10), .int), ((uBo.2 11), .boolean), ((uBo.2 2), .int), ((uBo.2 3), .int), ((uBo.2 4), .int), ((uBo.2 5), .int), ((uFr.2 12), .int), ((uFr.2 13), .int), ((uSe.2 14), .int)] s := hK
  have hP : va_P D cl [(a, .inr (1, [.ref q5, .ref q16, .ref q31, .ref q50, .null, .null])), (q5, .inr (2, [.ref (uSh.1 0), .ref (uSh.1 1), .int 0, .int 1])), ((uSh.1 0), .inl ((uSh.2 0), 8, .inl (fun _ => 0))), ((uSh.1 1), .inl ((uSh.2 1), 8, .inl (fun _ => 0))), (q16, .inr (4, [.ref q5, .ref (uBo.1 102), .ref (uBo.1 6), .ref (uBo.1 7), .int 0, .int 0, .ref (uBo.1 8), .ref (uBo.1 9), .ref (uBo.1 10), .ref (uBo.1 11)])), ((uBo.1 6), .inl ((uBo.2 6), 4, .inl (fun _ => 0))), ((uBo.1 7), .inl ((uBo.2 7), 400, .inl (fun _ => 0))), ((uBo.1 8), .inl ((uBo.2 8), 4, .inl (fun _ => 0))), ((uBo.1 9), .inl ((uBo.2 9), 4, .inl (fun _ => 0))), ((uBo.1 10), .inl ((uBo.2 10), 16384, .inl (fun _ => 0))), ((uBo.1 11), .inl ((uBo.2 11), 4096, .inl (fun _ => 0))), ((uBo.1 102), .inr (3, [.ref q5, .ref (uBo.1 2), .ref (uBo.1 3), .ref (uBo.1 4), .ref (uBo.1 5)])), ((uBo.1 2), .inl ((uBo.2 2), 440, .inl (fun _ => 0))), ((uBo.1 3), .inl ((uBo.2 3), 440, .inl (fun _ => 0))), ((uBo.1 4), .inl ((uBo.2 4), 440, .inl (fun _ => 0))), ((uBo.1 5), .inl ((uBo.2 5), 440, .inl (fun _ => 0))), (q31, .inr (5, [.ref q5, .ref q16, .ref (uFr.1 12), .ref (uFr.1 13), .int 0, .int 0])), ((uFr.1 12), .inl ((uFr.2 12), 4096, .inl (fun _ => 0))), ((uFr.1 13), .inl ((uFr.2 13), 4096, .inl (fun _ => 0))), (q50, .inr (6, [.ref q5, .ref q16, .ref (uSe.1 14), .int 0, .int (-1), .int 0])), ((uSe.1 14), .inl ((uSe.2 14), 8, .inl (fun _ => 0))), (q69, .inr (7, [.ref q5, .ref q16, .int (sd &&& 2147483647), .int 0, .int (-1), .int 0]))] H := hP
  have hD : va_D A [(a, .inr (1, [.ref q5, .ref q16, .ref q31, .ref q50, .null, .null])), (q5, .inr (2, [.ref (uSh.1 0), .ref (uSh.1 1), .int 0, .int 1])), ((uSh.1 0), .inl ((uSh.2 0), 8, .inl (fun _ => 0))), ((uSh.1 1), .inl ((uSh.2 1), 8, .inl (fun _ => 0))), (q16, .inr (4, [.ref q5, .ref (uBo.1 102), .ref (uBo.1 6), .ref (uBo.1 7), .int 0, .int 0, .ref (uBo.1 8), .ref (uBo.1 9), .ref (uBo.1 10), .ref (uBo.1 11)])), ((uBo.1 6), .inl ((uBo.2 6), 4, .inl (fun _ => 0))), ((uBo.1 7), .inl ((uBo.2 7), 400, .inl (fun _ => 0))), ((uBo.1 8), .inl ((uBo.2 8), 4, .inl (fun _ => 0))), ((uBo.1 9), .inl ((uBo.2 9), 4, .inl (fun _ => 0))), ((uBo.1 10), .inl ((uBo.2 10), 16384, .inl (fun _ => 0))), ((uBo.1 11), .inl ((uBo.2 11), 4096, .inl (fun _ => 0))), ((uBo.1 102), .inr (3, [.ref q5, .ref (uBo.1 2), .ref (uBo.1 3), .ref (uBo.1 4), .ref (uBo.1 5)])), ((uBo.1 2), .inl ((uBo.2 2), 440, .inl (fun _ => 0))), ((uBo.1 3), .inl ((uBo.2 3), 440, .inl (fun _ => 0))), ((uBo.1 4), .inl ((uBo.2 4), 440, .inl (fun _ => 0))), ((uBo.1 5), .inl ((uBo.2 5), 440, .inl (fun _ => 0))), (q31, .inr (5, [.ref q5, .ref q16, .ref (uFr.1 12), .ref (uFr.1 13), .int 0, .int 0])), ((uFr.1 12), .inl ((uFr.2 12), 4096, .inl (fun _ => 0))), ((uFr.1 13), .inl ((uFr.2 13), 4096, .inl (fun _ => 0))), (q50, .inr (6, [.ref q5, .ref q16, .ref (uSe.1 14), .int 0, .int (-1), .int 0])), ((uSe.1 14), .inl ((uSe.2 14), 8, .inl (fun _ => 0))), (q69, .inr (7, [.ref q5, .ref q16, .int (sd &&& 2147483647), .int 0, .int (-1), .int 0]))] := hD
  refine W.widen (k := 21) (n := 30905) (by decide) (by decide) ?_
  refine va_putF (D := D) (ci := 1) (v := .ref q69) (ty := tyX 4) (C := RX) (T := TX) (N := 6) hx hb hts inX_ tyX tyX_ok nmX hown hK hP hD hS 0 rfl hcl.1 4 (by decide) f47 (fun _ h9 => h9) rfl hin rfl (tyX_ok 4 (by decide)) rfl rfl (Nat.le_of_ble_eq_true rfl) dX_init_88 (fun H locs hP hD hS => ?_)
  have hP : va_P D cl [(a, .inr (1, [.ref q5, .ref q16, .ref q31, .ref q50, .ref q69, .null])), (q5, .inr (2, [.ref (uSh.1 0), .ref (uSh.1 1), .int 0, .int 1])), ((uSh.1 0), .inl ((uSh.2 0), 8, .inl (fun _ => 0))), ((uSh.1 1), .inl ((uSh.2 1), 8, .inl (fun _ => 0))), (q16, .inr (4, [.ref q5, .ref (uBo.1 102), .ref (uBo.1 6), .ref (uBo.1 7), .int 0, .int 0, .ref (uBo.1 8), .ref (uBo.1 9), .ref (uBo.1 10), .ref (uBo.1 11)])), ((uBo.1 6), .inl ((uBo.2 6), 4, .inl (fun _ => 0))), ((uBo.1 7), .inl ((uBo.2 7), 400, .inl (fun _ => 0))), ((uBo.1 8), .inl ((uBo.2 8), 4, .inl (fun _ => 0))), ((uBo.1 9), .inl ((uBo.2 9), 4, .inl (fun _ => 0))), ((uBo.1 10), .inl ((uBo.2 10), 16384, .inl (fun _ => 0))), ((uBo.1 11), .inl ((uBo.2 11), 4096, .inl (fun _ => 0))), ((uBo.1 102), .inr (3, [.ref q5, .ref (uBo.1 2), .ref (uBo.1 3), .ref (uBo.1 4), .ref (uBo.1 5)])), ((uBo.1 2), .inl ((uBo.2 2), 440, .inl (fun _ => 0))), ((uBo.1 3), .inl ((uBo.2 3), 440, .inl (fun _ => 0))), ((uBo.1 4), .inl ((uBo.2 4), 440, .inl (fun _ => 0))), ((uBo.1 5), .inl ((uBo.2 5), 440, .inl (fun _ => 0))), (q31, .inr (5, [.ref q5, .ref q16, .ref (uFr.1 12), .ref (uFr.1 13), .int 0, .int 0])), ((uFr.1 12), .inl ((uFr.2 12), 4096, .inl (fun _ => 0))), ((uFr.1 13), .inl ((uFr.2 13), 4096, .inl (fun _ => 0))), (q50, .inr (6, [.ref q5, .ref q16, .ref (uSe.1 14), .int 0, .int (-1), .int 0])), ((uSe.1 14), .inl ((uSe.2 14), 8, .inl (fun _ => 0))), (q69, .inr (7, [.ref q5, .ref q16, .int (sd &&& 2147483647), .int 0, .int (-1), .int 0]))] H := hP
  have hD : va_D A [(a, .inr (1, [.ref q5, .ref q16, .ref q31, .ref q50, .ref q69, .null])), (q5, .inr (2, [.ref (uSh.1 0), .ref (uSh.1 1), .int 0, .int 1])), ((uSh.1 0), .inl ((uSh.2 0), 8, .inl (fun _ => 0))), ((uSh.1 1), .inl ((uSh.2 1), 8, .inl (fun _ => 0))), (q16, .inr (4, [.ref q5, .ref (uBo.1 102), .ref (uBo.1 6), .ref (uBo.1 7), .int 0, .int 0, .ref (uBo.1 8), .ref (uBo.1 9), .ref (uBo.1 10), .ref (uBo.1 11)])), ((uBo.1 6), .inl ((uBo.2 6), 4, .inl (fun _ => 0))), ((uBo.1 7), .inl ((uBo.2 7), 400, .inl (fun _ => 0))), ((uBo.1 8), .inl ((uBo.2 8), 4, .inl (fun _ => 0))), ((uBo.1 9), .inl ((uBo.2 9), 4, .inl (fun _ => 0))), ((uBo.1 10), .inl ((uBo.2 10), 16384, .inl (fun _ => 0))), ((uBo.1 11), .inl ((uBo.2 11), 4096, .inl (fun _ => 0))), ((uBo.1 102), .inr (3, [.ref q5, .ref (uBo.1 2), .ref (uBo.1 3), .ref (uBo.1 4), .ref (uBo.1 5)])), ((uBo.1 2), .inl ((uBo.2 2), 440, .inl (fun _ => 0))), ((uBo.1 3), .inl ((uBo.2 3), 440, .inl (fun _ => 0))), ((uBo.1 4), .inl ((uBo.2 4), 440, .inl (fun _ => 0))), ((uBo.1 5), .inl ((uBo.2 5), 440, .inl (fun _ => 0))), (q31, .inr (5, [.ref q5, .ref q16, .ref (uFr.1 12), .ref (uFr.1 13), .int 0, .int 0])), ((uFr.1 12), .inl ((uFr.2 12), 4096, .inl (fun _ => 0))), ((uFr.1 13), .inl ((uFr.2 13), 4096, .inl (fun _ => 0))), (q50, .inr (6, [.ref q5, .ref q16, .ref (uSe.1 14), .int 0, .int (-1), .int 0])), ((uSe.1 14), .inl ((uSe.2 14), 8, .inl (fun _ => 0))), (q69, .inr (7, [.ref q5, .ref q16, .int (sd &&& 2147483647), .int 0, .int (-1), .int 0]))] := hD
  refine lv_aload_n hx hb dX_init_91 rfl (lv_at hl 0 rfl) ?_
  refine va_new (ci := 8) (fs := [.null, .null, .int 0, .int 0]) (C := RSw) (T := TSw) (N := 4) hx hb hts inSw_ tySw tySw_ok hown wx51 wtSw wnSw hK hP hD hS hA hcl.2.2.2.2.2.2.2 (by decide +kernel) (by decide) (by decide) dX_init_92 (fun q92 H hP hD hS => ?_)
  have hP : va_P D cl [(a, .inr (1, [.ref q5, .ref q16, .ref q31, .ref q50, .ref q69, .null])), (q5, .inr (2, [.ref (uSh.1 0), .ref (uSh.1 1), .int 0, .int 1])), ((uSh.1 0), .inl ((uSh.2 0), 8, .inl (fun _ => 0))), ((uSh.1 1), .inl ((uSh.2 1), 8, .inl (fun _ => 0))), (q16, .inr (4, [.ref q5, .ref (uBo.1 102), .ref (uBo.1 6), .ref (uBo.1 7), .int 0, .int 0, .ref (uBo.1 8), .ref (uBo.1 9), .ref (uBo.1 10), .ref (uBo.1 11)])), ((uBo.1 6), .inl ((uBo.2 6), 4, .inl (fun _ => 0))), ((uBo.1 7), .inl ((uBo.2 7), 400, .inl (fun _ => 0))), ((uBo.1 8), .inl ((uBo.2 8), 4, .inl (fun _ => 0))), ((uBo.1 9), .inl ((uBo.2 9), 4, .inl (fun _ => 0))), ((uBo.1 10), .inl ((uBo.2 10), 16384, .inl (fun _ => 0))), ((uBo.1 11), .inl ((uBo.2 11), 4096, .inl (fun _ => 0))), ((uBo.1 102), .inr (3, [.ref q5, .ref (uBo.1 2), .ref (uBo.1 3), .ref (uBo.1 4), .ref (uBo.1 5)])), ((uBo.1 2), .inl ((uBo.2 2), 440, .inl (fun _ => 0))), ((uBo.1 3), .inl ((uBo.2 3), 440, .inl (fun _ => 0))), ((uBo.1 4), .inl ((uBo.2 4), 440, .inl (fun _ => 0))), ((uBo.1 5), .inl ((uBo.2 5), 440, .inl (fun _ => 0))), (q31, .inr (5, [.ref q5, .ref q16, .ref (uFr.1 12), .ref (uFr.1 13), .int 0, .int 0])), ((uFr.1 12), .inl ((uFr.2 12), 4096, .inl (fun _ => 0))), ((uFr.1 13), .inl ((uFr.2 13), 4096, .inl (fun _ => 0))), (q50, .inr (6, [.ref q5, .ref q16, .ref (uSe.1 14), .int 0, .int (-1), .int 0])), ((uSe.1 14), .inl ((uSe.2 14), 8, .inl (fun _ => 0))), (q69, .inr (7, [.ref q5, .ref q16, .int (sd &&& 2147483647), .int 0, .int (-1), .int 0])), (q92, .inr (8, [.null, .null, .int 0, .int 0]))] H := hP
  have hD : va_D A [(a, .inr (1, [.ref q5, .ref q16, .ref q31, .ref q50, .ref q69, .null])), (q5, .inr (2, [.ref (uSh.1 0), .ref (uSh.1 1), .int 0, .int 1])), ((uSh.1 0), .inl ((uSh.2 0), 8, .inl (fun _ => 0))), ((uSh.1 1), .inl ((uSh.2 1), 8, .inl (fun _ => 0))), (q16, .inr (4, [.ref q5, .ref (uBo.1 102), .ref (uBo.1 6), .ref (uBo.1 7), .int 0, .int 0, .ref (uBo.1 8), .ref (uBo.1 9), .ref (uBo.1 10), .ref (uBo.1 11)])), ((uBo.1 6), .inl ((uBo.2 6), 4, .inl (fun _ => 0))), ((uBo.1 7), .inl ((uBo.2 7), 400, .inl (fun _ => 0))), ((uBo.1 8), .inl ((uBo.2 8), 4, .inl (fun _ => 0))), ((uBo.1 9), .inl ((uBo.2 9), 4, .inl (fun _ => 0))), ((uBo.1 10), .inl ((uBo.2 10), 16384, .inl (fun _ => 0))), ((uBo.1 11), .inl ((uBo.2 11), 4096, .inl (fun _ => 0))), ((uBo.1 102), .inr (3, [.ref q5, .ref (uBo.1 2), .ref (uBo.1 3), .ref (uBo.1 4), .ref (uBo.1 5)])), ((uBo.1 2), .inl ((uBo.2 2), 440, .inl (fun _ => 0))), ((uBo.1 3), .inl ((uBo.2 3), 440, .inl (fun _ => 0))), ((uBo.1 4), .inl ((uBo.2 4), 440, .inl (fun _ => 0))), ((uBo.1 5), .inl ((uBo.2 5), 440, .inl (fun _ => 0))), (q31, .inr (5, [.ref q5, .ref q16, .ref (uFr.1 12), .ref (uFr.1 13), .int 0, .int 0])), ((uFr.1 12), .inl ((uFr.2 12), 4096, .inl (fun _ => 0))), ((uFr.1 13), .inl ((uFr.2 13), 4096, .inl (fun _ => 0))), (q50, .inr (6, [.ref q5, .ref q16, .ref (uSe.1 14), .int 0, .int (-1), .int 0])), ((uSe.1 14), .inl ((uSe.2 14), 8, .inl (fun _ => 0))), (q69, .inr (7, [.ref q5, .ref q16, .int (sd &&& 2147483647), .int 0, .int (-1), .int 0])), (q92, .inr (8, [.null, .null, .int 0, .int 0]))] := hD
  refine W.widen (k := 22) (n := 30909) (by decide) (by decide) ?_
  refine lv_dup hx hb dX_init_95 rfl ?_
  refine lv_aload_n hx hb dX_init_96 rfl (lv_at hl 0 rfl) ?_
  refine va_get (D := D) (ci := 1) (v := .ref q5) (C := RX) (T := TX) (N := 6) hx hb hts inX_ hown hK hP 0 rfl hcl.1 0 (by decide) f12 (fun _ h9 => h9) rfl dX_init_97 ?_
  refine lv_aload_n hx hb dX_init_100 rfl (lv_at hl 0 rfl) ?_
  refine va_get (D := D) (ci := 1) (v := .ref q16) (C := RX) (T := TX) (N := 6) hx hb hts inX_ hown hK hP 0 rfl hcl.1 1 (by decide) f21 (fun _ h9 => h9) rfl dX_init_101 ?_
  have hPc := hP.sub (ws' := [(q92, .inr (8, [.null, .null, .int 0, .int 0]))]) [22] rfl
  have hDc := hD.sub (ws' := [(q92, .inr (8, [.null, .null, .int 0, .int 0]))]) [22] (by decide) rfl
  have hKc := hK.sub (tys' := []) [] rfl
  have hFc := va_free (wc := [(q92, .inr (8, [.null, .null, .int 0, .int 0]))]) hD hS hA [22] rfl
  refine va_callv (va_runI (As := [.ref q5, .ref q16]) (rest := [.ref q92, .ref a]) ⟨hx, hb, hml, hown, hts⟩ (c_Sw_init l D cl hcl q92 H.size q5 q16) (cwI 2 hts (gI_cALL mcSw_init) rfl rfl rfl wnSw wl53 wiSw rfl (by decide +kernel) ⟨Nat.le_of_ble_eq_true rfl, Nat.le_of_ble_eq_true rfl⟩) ⟨fun a U g mk q => by obtain ⟨q0, q1, qP, qK, qD⟩ := q; exact ⟨q0, q1, qP, va_K.moved (u := U) (U := U.calling g mk a) (Vm.Alike.refl U.vm) qK, qD⟩, fun U hU hW => ⟨rfl, by rw [hU], by rw [hU]; exact hPc, va_K.moved hW.alike hKc, hDc.weaken (fun _ _ _ _ => trivial)⟩⟩ rfl rfl hl.1 rfl (lv_room (Nat.le_of_ble_eq_true rfl)) dX_init_104 ⟨by decide, by decide⟩) hS (fun q _ h => hFc q h) hFc (fun uSw t H1 locs ht hvm _ hB hz1 hk1 hS => ?_)
  obtain ⟨hP1, hK1, hD1⟩ := hB
  rw [ht] at hP1
  have hK1 := va_K.moved hvm.symm hK1
  obtain ⟨hP, hD⟩ := va_join (wr := [(a, .inr (1, [.ref q5, .ref q16, .ref q31, .ref q50, .ref q69, .null])), (q5, .inr (2, [.ref (uSh.1 0), .ref (uSh.1 1), .int 0, .int 1])), ((uSh.1 0), .inl ((uSh.2 0), 8, .inl (fun _ => 0))), ((uSh.1 1), .inl ((uSh.2 1), 8, .inl (fun _ => 0))), (q16, .inr (4, [.ref q5, .ref (uBo.1 102), .ref (uBo.1 6), .ref (uBo.1 7), .int 0, .int 0, .ref (uBo.1 8), .ref (uBo.1 9), .ref (uBo.1 10), .ref (uBo.1 11)])), ((uBo.1 6), .inl ((uBo.2 6), 4, .inl (fun _ => 0))), ((uBo.1 7), .inl ((uBo.2 7), 400, .inl (fun _ => 0))), ((uBo.1 8), .inl ((uBo.2 8), 4, .inl (fun _ => 0))), ((uBo.1 9), .inl ((uBo.2 9), 4, .inl (fun _ => 0))), ((uBo.1 10), .inl ((uBo.2 10), 16384, .inl (fun _ => 0))), ((uBo.1 11), .inl ((uBo.2 11), 4096, .inl (fun _ => 0))), ((uBo.1 102), .inr (3, [.ref q5, .ref (uBo.1 2), .ref (uBo.1 3), .ref (uBo.1 4), .ref (uBo.1 5)])), ((uBo.1 2), .inl ((uBo.2 2), 440, .inl (fun _ => 0))), ((uBo.1 3), .inl ((uBo.2 3), 440, .inl (fun _ => 0))), ((uBo.1 4), .inl ((uBo.2 4), 440, .inl (fun _ => 0))), ((uBo.1 5), .inl ((uBo.2 5), 440, .inl (fun _ => 0))), (q31, .inr (5, [.ref q5, .ref q16, .ref (uFr.1 12), .ref (uFr.1 13), .int 0, .int 0])), ((uFr.1 12), .inl ((uFr.2 12), 4096, .inl (fun _ => 0))), ((uFr.1 13), .inl ((uFr.2 13), 4096, .inl (fun _ => 0))), (q50, .inr (6, [.ref q5, .ref q16, .ref (uSe.1 14), .int 0, .int (-1), .int 0])), ((uSe.1 14), .inl ((uSe.2 14), 8, .inl (fun _ => 0))), (q69, .inr (7, [.ref q5, .ref q16, .int (sd &&& 2147483647), .int 0, .int (-1), .int 0]))]) (w1 := iwSw q92 q5 q16 uSw.1 uSw.2) hP hD [22] [0, 1, 2, 3, 4, 5, 6, 7, 8, 9, 10, 11, 12, 13, 14, 15, 16, 17, 18, 19, 20, 21] rfl rfl (by decide) (by decide) hk1 hFc hP1 hD1
  have hK := (hK.sub (tys' := [((uSh.2 0), .int), ((uSh.2 1), .int), ((uBo.2 6), .int), ((uBo.2 7), .int), ((uBo.2 8), .boolean), ((uBo.2 9), .int), ((uBo.2 10), .int), ((uBo.2 11), .boolean), ((uBo.2 2), .int), ((uBo.2 3), .int), ((uBo.2 4), .int), ((uBo.2 5), .int), ((uFr.2 12), .int), ((uFr.2 13), .int), ((uSe.2 14), .int)]) [0, 1, 2, 3, 4, 5, 6, 7, 8, 9, 10, 11, 12, 13, 14] rfl).app hK1
  generalize H1 = H at hP hS ⊢
  have hK : va_K D cl [((uSh.2 0), .int), ((uSh.2 1), .int), ((uBo.2 6), .int), ((uBo.2 7), .int), ((uBo.2 8), .boolean), ((uBo.2 9), .int), ((uBo.2 10), .int), ((uBo.2 11), .boolean), ((uBo.2 2), .int), ((uBo.2 3), .int), ((uBo.2 4), .int), ((uBo.2 5), .int), ((uFr.2 12), .int), ((uFr.2 13), .int), ((uSe.2 14), .int)] s := hK
  have hP : va_P D cl [(a, .inr (1, [.ref q5, .ref q16, .ref q31, .ref q50, .ref q69, .null])), (q5, .inr (2, [.ref (uSh.1 0), .ref (uSh.1 1), .int 0, .int 1])), ((uSh.1 0), .inl ((uSh.2 0), 8, .inl (fun _ => 0))), ((uSh.1 1), .inl ((uSh.2 1), 8, .inl (fun _ => 0))), (q16, .inr (4, [.ref q5, .ref (uBo.1 102), .ref (uBo.1 6), .ref (uBo.1 7), .int 0, .int 0, .ref (uBo.1 8), .ref (uBo.1 9), .ref (uBo.1 10), .ref (uBo.1 11)])), ((uBo.1 6), .inl ((uBo.2 6), 4, .inl (fun _ => 0))), ((uBo.1 7), .inl ((uBo.2 7), 400, .inl (fun _ => 0))), ((uBo.1 8), .inl ((uBo.2 8), 4, .inl (fun _ => 0))), ((uBo.1 9), .inl ((uBo.2 9), 4, .inl (fun _ => 0))), ((uBo.1 10), .inl ((uBo.2 10), 16384, .inl (fun _ => 0))), ((uBo.1 11), .inl ((uBo.2 11), 4096, .inl (fun _ => 0))), ((uBo.1 102), .inr (3, [.ref q5, .ref (uBo.1 2), .ref (uBo.1 3), .ref (uBo.1 4), .ref (uBo.1 5)])), ((uBo.1 2), .inl ((uBo.2 2), 440, .inl (fun _ => 0))), ((uBo.1 3), .inl ((uBo.2 3), 440, .inl (fun _ => 0))), ((uBo.1 4), .inl ((uBo.2 4), 440, .inl (fun _ => 0))), ((uBo.1 5), .inl ((uBo.2 5), 440, .inl (fun _ => 0))), (q31, .inr (5, [.ref q5, .ref q16, .ref (uFr.1 12), .ref (uFr.1 13), .int 0, .int 0])), ((uFr.1 12), .inl ((uFr.2 12), 4096, .inl (fun _ => 0))), ((uFr.1 13), .inl ((uFr.2 13), 4096, .inl (fun _ => 0))), (q50, .inr (6, [.ref q5, .ref q16, .ref (uSe.1 14), .int 0, .int (-1), .int 0])), ((uSe.1 14), .inl ((uSe.2 14), 8, .inl (fun _ => 0))), (q69, .inr (7, [.ref q5, .ref q16, .int (sd &&& 2147483647), .int 0, .int (-1), .int 0])), (q92, .inr (8, [.ref q5, .ref q16, .int 0, .int 0]))] H := hP
  have hD : va_D A [(a, .inr (1, [.ref q5, .ref q16, .ref q31, .ref q50, .ref q69, .null])), (q5, .inr (2, [.ref (uSh.1 0), .ref (uSh.1 1), .int 0, .int 1])), ((uSh.1 0), .inl ((uSh.2 0), 8, .inl (fun _ => 0))), ((uSh.1 1), .inl ((uSh.2 1), 8, .inl (fun _ => 0))), (q16, .inr (4, [.ref q5, .ref (uBo.1 102), .ref (uBo.1 6), .ref (uBo.1 7), .int 0, .int 0, .ref (uBo.1 8), .ref (uBo.1 9), .ref (uBo.1 10), .ref (uBo.1 11)])), ((uBo.1 6), .inl ((uBo.2 6), 4, .inl (fun _ => 0))), ((uBo.1 7), .inl ((uBo.2 7), 400, .inl (fun _ => 0))), ((uBo.1 8), .inl ((uBo.2 8), 4, .inl (fun _ => 0))), ((uBo.1 9), .inl ((uBo.2 9), 4, .inl (fun _ => 0))), ((uBo.1 10), .inl ((uBo.2 10), 16384, .inl (fun _ => 0))), ((uBo.1 11), .inl ((uBo.2 11), 4096, .inl (fun _ => 0))), ((uBo.1 102), .inr (3, [.ref q5, .ref (uBo.1 2), .ref (uBo.1 3), .ref (uBo.1 4), .ref (uBo.1 5)])), ((uBo.1 2), .inl ((uBo.2 2), 440, .inl (fun _ => 0))), ((uBo.1 3), .inl ((uBo.2 3), 440, .inl (fun _ => 0))), ((uBo.1 4), .inl ((uBo.2 4), 440, .inl (fun _ => 0))), ((uBo.1 5), .inl ((uBo.2 5), 440, .inl (fun _ => 0))), (q31, .inr (5, [.ref q5, .ref q16, .ref (uFr.1 12), .ref (uFr.1 13), .int 0, .int 0])), ((uFr.1 12), .inl ((uFr.2 12), 4096, .inl (fun _ => 0))), ((uFr.1 13), .inl ((uFr.2 13), 4096, .inl (fun _ => 0))), (q50, .inr (6, [.ref q5, .ref q16, .ref (uSe.1 14), .int 0, .int (-1), .int 0])), ((uSe.1 14), .inl ((uSe.2 14), 8, .inl (fun _ => 0))), (q69, .inr (7, [.ref q5, .ref q16, .int (sd &&& 2147483647), .int 0, .int (-1), .int 0])), (q92, .inr (8, [.ref q5, .ref q16, .int 0, .int 0]))] := hD
  refine W.widen (k := 22) (n := 30909) (by decide) (by decide) ?_
  refine va_putF (D := D) (ci := 1) (v := .ref q92) (ty := tyX 5) (C := RX) (T := TX) (N := 6) hx hb hts inX_ tyX tyX_ok nmX hown hK hP hD hS 0 rfl hcl.1 5 (by decide) f54 (fun _ h9 => h9) rfl hin rfl (tyX_ok 5 (by decide)) rfl rfl (Nat.le_of_ble_eq_true rfl) dX_init_107 (fun H locs hP hD hS => ?_)
  have hP : va_P D cl [(a, .inr (1, [.ref q5, .ref q16, .ref q31, .ref q50, .ref q69, .ref q92])), (q5, .inr (2, [.ref (uSh.1 0), .ref (uSh.1 1), .int 0, .int 1])), ((uSh.1 0), .inl ((uSh.2 0), 8, .inl (fun _ => 0))), ((uSh.1 1), .inl ((uSh.2 1), 8, .inl (fun _ => 0))), (q16, .inr (4, [.ref q5, .ref (uBo.1 102), .ref (uBo.1 6), .ref (uBo.1 7), .int 0, .int 0, .ref (uBo.1 8), .ref (uBo.1 9), .ref (uBo.1 10), .ref (uBo.1 11)])), ((uBo.1 6), .inl ((uBo.2 6), 4, .inl (fun _ => 0))), ((uBo.1 7), .inl ((uBo.2 7), 400, .inl (fun _ => 0))), ((uBo.1 8), .inl ((uBo.2 8), 4, .inl (fun _ => 0))), ((uBo.1 9), .inl ((uBo.2 9), 4, .inl (fun _ => 0))), ((uBo.1 10), .inl ((uBo.2 10), 16384, .inl (fun _ => 0))), ((uBo.1 11), .inl ((uBo.2 11), 4096, .inl (fun _ => 0))), ((uBo.1 102), .inr (3, [.ref q5, .ref (uBo.1 2), .ref (uBo.1 3), .ref (uBo.1 4), .ref (uBo.1 5)])), ((uBo.1 2), .inl ((uBo.2 2), 440, .inl (fun _ => 0))), ((uBo.1 3), .inl ((uBo.2 3), 440, .inl (fun _ => 0))), ((uBo.1 4), .inl ((uBo.2 4), 440, .inl (fun _ => 0))), ((uBo.1 5), .inl ((uBo.2 5), 440, .inl (fun _ => 0))), (q31, .inr (5, [.ref q5, .ref q16, .ref (uFr.1 12), .ref (uFr.1 13), .int 0, .int 0])), ((uFr.1 12), .inl ((uFr.2 12), 4096, .inl (fun _ => 0))), ((uFr.1 13), .inl ((uFr.2 13), 4096, .inl (fun _ => 0))), (q50, .inr (6, [.ref q5, .ref q16, .ref (uSe.1 14), .int 0, .int (-1), .int 0])), ((uSe.1 14), .inl ((uSe.2 14), 8, .inl (fun _ => 0))), (q69, .inr (7, [.ref q5, .ref q16, .int (sd &&& 2147483647), .int 0, .int (-1), .int 0])), (q92, .inr (8, [.ref q5, .ref q16, .int 0, .int 0]))] H := hP
  have hD : va_D A [(a, .inr (1, [.ref q5, .ref q16, .ref q31, .ref q50, .ref q69, .ref q92])), (q5, .inr (2, [.ref (uSh.1 0), .ref (uSh.1 1), .int 0, .int 1])), ((uSh.1 0), .inl ((uSh.2 0), 8, .inl (fun _ => 0))), ((uSh.1 1), .inl ((uSh.2 1), 8, .inl (fun _ => 0))), (q16, .inr (4, [.ref q5, .ref (uBo.1 102), .ref (uBo.1 6), .ref (uBo.1 7), .int 0, .int 0, .ref (uBo.1 8), .ref (uBo.1 9), .ref (uBo.1 10), .ref (uBo.1 11)])), ((uBo.1 6), .inl ((uBo.2 6), 4, .inl (fun _ => 0))), ((uBo.1 7), .inl ((uBo.2 7), 400, .inl (fun _ => 0))), ((uBo.1 8), .inl ((uBo.2 8), 4, .inl (fun _ => 0))), ((uBo.1 9), .inl ((uBo.2 9), 4, .inl (fun _ => 0))), ((uBo.1 10), .inl ((uBo.2 10), 16384, .inl (fun _ => 0))), ((uBo.1 11), .inl ((uBo.2 11), 4096, .inl (fun _ => 0))), ((uBo.1 102), .inr (3, [.ref q5, .ref (uBo.1 2), .ref (uBo.1 3), .ref (uBo.1 4), .ref (uBo.1 5)])), ((uBo.1 2), .inl ((uBo.2 2), 440, .inl (fun _ => 0))), ((uBo.1 3), .inl ((uBo.2 3), 440, .inl (fun _ => 0))), ((uBo.1 4), .inl ((uBo.2 4), 440, .inl (fun _ => 0))), ((uBo.1 5), .inl ((uBo.2 5), 440, .inl (fun _ => 0))), (q31, .inr (5, [.ref q5, .ref q16, .ref (uFr.1 12), .ref (uFr.1 13), .int 0, .int 0])), ((uFr.1 12), .inl ((uFr.2 12), 4096, .inl (fun _ => 0))), ((uFr.1 13), .inl ((uFr.2 13), 4096, .inl (fun _ => 0))), (q50, .inr (6, [.ref q5, .ref q16, .ref (uSe.1 14), .int 0, .int (-1), .int 0])), ((uSe.1 14), .inl ((uSe.2 14), 8, .inl (fun _ => 0))), (q69, .inr (7, [.ref q5, .ref q16, .int (sd &&& 2147483647), .int 0, .int (-1), .int 0])), (q92, .inr (8, [.ref q5, .ref q16, .int 0, .int 0]))] := hD
  have hP9 := hP.sub (ws' := cW (fun j => if j = 0 then a else if j = 1 then q5 else if j = 2 then (uBo.1 102) else if j = 3 then q16 else if j = 4 then q31 else if j = 5 then q50 else if j = 6 then q69 else if j = 7 then q92 else 0) (fun j => if j = 0 then (uSh.1 0) else if j = 1 then (uSh.1 1) else if j = 2 then (uBo.1 2) else if j = 3 then (uBo.1 3) else if j = 4 then (uBo.1 4) else if j = 5 then (uBo.1 5) else if j = 6 then (uBo.1 6) else if j = 7 then (uBo.1 7) else if j = 8 then (uBo.1 8) else if j = 9 then (uBo.1 9) else if j = 10 then (uBo.1 10) else if j = 11 then (uBo.1 11) else if j = 12 then (uFr.1 12) else if j = 13 then (uFr.1 13) else if j = 14 then (uSe.1 14) else 0) (fun j => if j = 0 then (uSh.2 0) else if j = 1 then (uSh.2 1) else if j = 2 then (uBo.2 2) else if j = 3 then (uBo.2 3) else if j = 4 then (uBo.2 4) else if j = 5 then (uBo.2 5) else if j = 6 then (uBo.2 6) else if j = 7 then (uBo.2 7) else if j = 8 then (uBo.2 8) else if j = 9 then (uBo.2 9) else if j = 10 then (uBo.2 10) else if j = 11 then (uBo.2 11) else if j = 12 then (uFr.2 12) else if j = 13 then (uFr.2 13) else if j = 14 then (uSe.2 14) else (uSh.2 0)) (cF0 sd) cG0) [0, 1, 11, 4, 16, 19, 21, 22, 2, 3, 12, 13, 14, 15, 5, 6, 7, 8, 9, 10, 17, 18, 20] rfl
  have hD9 := hD.sub (ws' := cW (fun j => if j = 0 then a else if j = 1 then q5 else if j = 2 then (uBo.1 102) else if j = 3 then q16 else if j = 4 then q31 else if j = 5 then q50 else if j = 6 then q69 else if j = 7 then q92 else 0) (fun j => if j = 0 then (uSh.1 0) else if j = 1 then (uSh.1 1) else if j = 2 then (uBo.1 2) else if j = 3 then (uBo.1 3) else if j = 4 then (uBo.1 4) else if j = 5 then (uBo.1 5) else if j = 6 then (uBo.1 6) else if j = 7 then (uBo.1 7) else if j = 8 then (uBo.1 8) else if j = 9 then (uBo.1 9) else if j = 10 then (uBo.1 10) else if j = 11 then (uBo.1 11) else if j = 12 then (uFr.1 12) else if j = 13 then (uFr.1 13) else if j = 14 then (uSe.1 14) else 0) (fun j => if j = 0 then (uSh.2 0) else if j = 1 then (uSh.2 1) else if j = 2 then (uBo.2 2) else if j = 3 then (uBo.2 3) else if j = 4 then (uBo.2 4) else if j = 5 then (uBo.2 5) else if j = 6 then (uBo.2 6) else if j = 7 then (uBo.2 7) else if j = 8 then (uBo.2 8) else if j = 9 then (uBo.2 9) else if j = 10 then (uBo.2 10) else if j = 11 then (uBo.2 11) else if j = 12 then (uFr.2 12) else if j = 13 then (uFr.2 13) else if j = 14 then (uSe.2 14) else (uSh.2 0)) (cF0 sd) cG0) [0, 1, 11, 4, 16, 19, 21, 22, 2, 3, 12, 13, 14, 15, 5, 6, 7, 8, 9, 10, 17, 18, 20] (by decide) rfl
  have hK9 := hK.sub (tys' := cT (fun j => if j = 0 then (uSh.2 0) else if j = 1 then (uSh.2 1) else if j = 2 then (uBo.2 2) else if j = 3 then (uBo.2 3) else if j = 4 then (uBo.2 4) else if j = 5 then (uBo.2 5) else if j = 6 then (uBo.2 6) else if j = 7 then (uBo.2 7) else if j = 8 then (uBo.2 8) else if j = 9 then (uBo.2 9) else if j = 10 then (uBo.2 10) else if j = 11 then (uBo.2 11) else if j = 12 then (uFr.2 12) else if j = 13 then (uFr.2 13) else if j = 14 then (uSe.2 14) else (uSh.2 0))) [0, 1, 8, 9, 10, 11, 2, 3, 4, 5, 6, 7, 12, 13, 14] rfl
  exact W.vret hx hb hr (fun t ht hW => ⟨⟨(((fun j => if j = 0 then a else if j = 1 then q5 else if j = 2 then (uBo.1 102) else if j = 3 then q16 else if j = 4 then q31 else if j = 5 then q50 else if j = 6 then q69 else if j = 7 then q92 else 0), (fun j => if j = 0 then (uSh.1 0) else if j = 1 then (uSh.1 1) else if j = 2 then (uBo.1 2) else if j = 3 then (uBo.1 3) else if j = 4 then (uBo.1 4) else if j = 5 then (uBo.1 5) else if j = 6 then (uBo.1 6) else if j = 7 then (uBo.1 7) else if j = 8 then (uBo.1 8) else if j = 9 then (uBo.1 9) else if j = 10 then (uBo.1 10) else if j = 11 then (uBo.1 11) else if j = 12 then (uFr.1 12) else if j = 13 then (uFr.1 13) else if j = 14 then (uSe.1 14) else 0)), (fun j => if j = 0 then (uSh.2 0) else if j = 1 then (uSh.2 1) else if j = 2 then (uBo.2 2) else if j = 3 then (uBo.2 3) else if j = 4 then (uBo.2 4) else if j = 5 then (uBo.2 5) else if j = 6 then (uBo.2 6) else if j = 7 then (uBo.2 7) else if j = 8 then (uBo.2 8) else if j = 9 then (uBo.2 9) else if j = 10 then (uBo.2 10) else if j = 11 then (uBo.2 11) else if j = 12 then (uFr.2 12) else if j = 13 then (uFr.2 13) else if j = 14 then (uSe.2 14) else (uSh.2 0))), rfl, rfl, by rw [ht]; exact hP9, va_K.moved hW.alike hK9, hD9⟩, hS.F ht⟩) hS.2.2 dX_init_110
