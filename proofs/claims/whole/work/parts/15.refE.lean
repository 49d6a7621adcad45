def mr_M_choice (f2 : Int32) (f5 : Int32) (f24 : Int32) (f25 : Int32) (f26 : Int32) (g6 : Nat → Int32) (nC : Nat) (n : Int32) : Int32 × Int32 × Int32 × Int32 × Int32 × Int32 × Int32 × (Nat → Int32) := (if (mr_M_within n 2 6) = 0 then ((mr_M_fail 1).1, (mr_M_fail 1).2, f2, f5, f24, f25, f26, g6) else (if (nI nC) = 8 then ((mr_M_fail 2).1, (mr_M_fail 2).2, f2, f5, f24, f25, f26, g6) else (if (f5 * n) ≤ 4096 then ((nI (nC + 1)) - 1, 0, nI (nC + 1), f5 * n, 0, 0, 0, upd g6 nC n) else ((mr_M_fail 2).1, (mr_M_fail 2).2, f2, f5, f24, f25, f26, g6))))
set_option maxHeartbeats 4000000 in
set_option maxRecDepth 100000 in
theorem c_M_choice (l : Launch) (D : va_G) (cl : List vw_C) (hcl : cl[0]? = some (RM, TM, 29)) (a : Nat) (ba : Nat → Nat) (ka : Nat → ClassId) (F : Nat → Int32) (G : Nat → Nat → Int32) {H0 : Heap} (hP : va_P D cl (mW a ba ka F G) H0) (hD : va_D (fun _ => True) (mW a ba ka F G)) (nC : Nat) (n : Int32) (h2 : F 2 = nI nC) (hC : nC ≤ 8) : ww_Met l yM_choice wsM_choice ({ frames := 1, cells := 0, slots := 0, locals := 22 } : Room) D cl (mT ka) H0 [.ref a, .int n] (mW a ba ka F G) (some (.int ((mr_M_choice (F 2) (F 5) (F 24) (F 25) (F 26) (G 6) nC n).1))) (mW a ba ka (upd (upd (upd (upd (upd (upd F 0 ((mr_M_choice (F 2) (F 5) (F 24) (F 25) (F 26) (G 6) nC n).2.1)) 2 ((mr_M_choice (F 2) (F 5) (F 24) (F 25) (F 26) (G 6) nC n).2.2.1)) 5 ((mr_M_choice (F 2) (F 5) (F 24) (F 25) (F 26) (G 6) nC n).2.2.2.1)) 24 ((mr_M_choice (F 2) (F 5) (F 24) (F 25) (F 26) (G 6) nC n).2.2.2.2.1)) 25 ((mr_M_choice (F 2) (F 5) (F 24) (F 25) (F 26) (G 6) nC n).2.2.2.2.2.1)) 26 ((mr_M_choice (F 2) (F 5) (F 24) (F 25) (F 26) (G 6) nC n).2.2.2.2.2.2.1)) (va_up G 6 ((mr_M_choice (F 2) (F 5) (F 24) (F 25) (F 26) (G 6) nC n).2.2.2.2.2.2.2))) := by
  refine ww_metI (by decide) rfl (Nat.le_of_ble_eq_true rfl) hP hD ?_
  intro p e s m args below meth c Q A Sx hK hP hD hS hA ls hl hret
  obtain ⟨hx, hb, hml, hown, hts⟩ := id Sx
  have hl : lv_has ls 2 [(0, .ref a), (1, .int n)] := hl
  obtain ⟨H, eH⟩ : ∃ H : Heap, H = H0 := ⟨_, rfl⟩
  obtain ⟨locs, eL⟩ : ∃ L : List Loc, L = [] := ⟨_, rfl⟩
  have hP : va_P D cl (mW a ba ka F G) H := by rw [eH]; exact hP
  have hS : va_S A H0 H locs := by rw [eH, eL]; exact hS
  rw [show W p l e ({ frames := 1, cells := 0, slots := 0, locals := 22 } : Room) s m args below meth c H0 [] 0 0 Q (F0 m 0 ls []) = W p l e ({ frames := 1, cells := 0, slots := 0, locals := 22 } : Room) s m args below meth c H locs 0 0 Q (F0 m 0 ls []) by rw [eH, eL]]
  clear eH eL
  have f70 := hts _ (List.mem_cons_of_mem _ mfM_70)
  have inM_ : ∀ w ∈ wsM0, w ∈ wsM_choice := fun w h => List.mem_cons_of_mem _ (inM_all w h)
  have f81 := hts _ (List.mem_cons_of_mem _ mfM_81)
  have f7 := hts _ (List.mem_cons_of_mem _ mfM_7)
  have f13 := hts _ (List.mem_cons_of_mem _ mfM_13)
  have f84 := hts _ (List.mem_cons_of_mem _ mfM_84)
  have f87 := hts _ (List.mem_cons_of_mem _ mfM_87)
  have f90 := hts _ (List.mem_cons_of_mem _ mfM_90)
  refine lv_aload_n hx hb dM_choice_0 rfl (lv_at hl 0 rfl) ?_
  refine lv_iconst (v := 0) hx hb dM_choice_1 (by decide) ?_
  refine va_put (D := D) (ci := 0) (fs := mWl0 ba F) (v := .int 0) (ty := .int) (C := RM) (T := TM) (N := 29) hx hb hts inM_ tyM tyM_ok nmM hown hK hP hD hS 0 rfl hcl 0 (by decide) f70 (fun _ h9 => h9) rfl (by decide +kernel) rfl rfl (Nat.le_of_ble_eq_true rfl) dM_choice_2 (fun H locs hP hD hS => ?_)
  rw [mW_f0] at hP hD
  refine lv_iload_n hx hb dM_choice_5 rfl (lv_at hl 1 rfl) ?_
  refine lv_iconst (v := 2) hx hb dM_choice_6 (by decide) ?_
  refine lv_bipush (v := 6) hx hb dM_choice_7 (by decide) ?_
  refine ro_callS (r := (.int (mr_M_within n 2 6))) (As := [.int n, .int 2, .int 6]) (rest := []) Sx (c_M_within l D cl hcl a ba ka (upd F 0 0) G hP n 2 6) (va_cwS 3 hts gM_choice_M_within rfl rfl rfl (by decide +kernel) ⟨Nat.le_of_ble_eq_true rfl, Nat.le_of_ble_eq_true rfl⟩) hK rfl hl.1 rfl (Nat.le_of_ble_eq_true rfl) dM_choice_9 ⟨Nat.zero_le _, Nat.zero_le _⟩ ?_
  refine lv_if_ne (tgt := 21) hx hb dM_choice_12 (by decide) (fun c12 => ?_) (fun c12 => ?_)
  · refine lv_aload_n hx hb dM_choice_21 rfl (lv_at hl 0 rfl) ?_
    refine va_get (D := D) (ci := 0) (v := .int (F 2)) (C := RM) (T := TM) (N := 29) hx hb hts inM_ hown hK hP 0 rfl hcl 2 (by decide) f81 (fun _ h9 => h9) rfl dM_choice_22 ?_
    refine wt_i h2 ?_
    refine lv_bipush (v := 8) hx hb dM_choice_25 (by decide) ?_
    refine lv_icmp_eq (tgt := 42) hx hb dM_choice_27 (by decide) (fun c27 => ?_) (fun c27 => ?_)
    · have n27 : nC = 8 := (nI_eq (a := nC) (b := 8) (by omega) (by omega)).mp c27
      refine lv_aload_n hx hb dM_choice_42 rfl (lv_at hl 0 rfl) ?_
      refine lv_iconst (v := 2) hx hb dM_choice_43 (by decide) ?_
      refine ww_callV (r := (some (.int ((mr_M_fail 2).1)))) (w' := mW a ba ka (upd (upd F 0 0) 0 ((mr_M_fail 2).2)) G) (As := [.int 2]) (rest := []) Sx (c_M_fail l D cl hcl a ba ka (upd F 0 0) G hP (hD.weaken (fun _ _ _ _ => trivial)) 2) (cwV 1 hts gM_choice_M_fail rfl rfl rfl (by decide +kernel) ⟨Nat.le_of_ble_eq_true rfl, Nat.le_of_ble_eq_true rfl⟩) hK (va_recv hK hP (ci := 0) (q0 := 0) hcl rfl) rfl hl.1 rfl (Nat.le_of_ble_eq_true rfl) dM_choice_44 ⟨Nat.zero_le _, Nat.zero_le _⟩ hD hS hA (fun H locs hP hD hS => ?_)
      rw [upd_ow] at hP hD
      have em : mr_M_choice (F 2) (F 5) (F 24) (F 25) (F 26) (G 6) nC n = ((mr_M_fail 2).1, (mr_M_fail 2).2, F 2, F 5, F 24, F 25, F 26, G 6) := by rw [mr_M_choice, if_neg c12, if_pos c27]
      exact hret _ _ _ _ _ _ (by simp only [em]) (by simp only [em]; rw [upd_keep (f := upd F 0 ((mr_M_fail 2).2)) (j := 2) (x := F 2) rfl, upd_keep (f := upd F 0 ((mr_M_fail 2).2)) (j := 5) (x := F 5) rfl, upd_keep (f := upd F 0 ((mr_M_fail 2).2)) (j := 24) (x := F 24) rfl, upd_keep (f := upd F 0 ((mr_M_fail 2).2)) (j := 25) (x := F 25) rfl, upd_keep (f := upd F 0 ((mr_M_fail 2).2)) (j := 26) (x := F 26) rfl, vup_keep (f := G) (j := 6) (x := G 6) rfl]) hP hD hS dM_choice_47
    · have n27 : ¬ nC = 8 := fun h9 => c27 ((nI_eq (a := nC) (b := 8) (by omega) (by omega)).mpr h9)
      have hC7 : nC < 8 := by omega
      refine lv_aload_n hx hb dM_choice_30 rfl (lv_at hl 0 rfl) ?_
      refine va_get (D := D) (ci := 0) (v := .int (F 5)) (C := RM) (T := TM) (N := 29) hx hb hts inM_ hown hK hP 0 rfl hcl 5 (by decide) f7 (fun _ h9 => h9) rfl dM_choice_31 ?_
      refine lv_iload_n hx hb dM_choice_34 rfl (lv_at hl 1 rfl) ?_
      refine lv_imul hx hb dM_choice_35 ?_
      refine lv_sipush (v := 4096) hx hb dM_choice_36 (by decide) ?_
      refine lv_icmp_le (tgt := 48) hx hb dM_choice_39 (by decide) (fun c39 => ?_) (fun c39 => ?_)
      · refine lv_aload_n hx hb dM_choice_48 rfl (lv_at hl 0 rfl) ?_
        refine va_get (D := D) (ci := 0) (v := .ref (ba 6)) (C := RM) (T := TM) (N := 29) hx hb hts inM_ hown hK hP 0 rfl hcl 6 (by decide) f13 (fun _ h9 => h9) rfl dM_choice_49 ?_
        refine lv_aload_n hx hb dM_choice_52 rfl (lv_at hl 0 rfl) ?_
        refine va_get (D := D) (ci := 0) (v := .int (F 2)) (C := RM) (T := TM) (N := 29) hx hb hts inM_ hown hK hP 0 rfl hcl 2 (by decide) f81 (fun _ h9 => h9) rfl dM_choice_53 ?_
        refine wt_i h2 ?_
        refine lv_iload_n hx hb dM_choice_56 rfl (lv_at hl 1 rfl) ?_
        have sd57 : nC < 8 := by omega
        refine wn_iast (f := G 6) hx hb hK hP hD hS 1 0 rfl rfl nC rfl sd57 (by decide) dM_choice_57 (fun H locs hP hD hS => ?_)
        rw [mW_g6] at hP hD
        refine lv_aload_n hx hb dM_choice_58 rfl (lv_at hl 0 rfl) ?_
        refine lv_dup hx hb dM_choice_59 rfl ?_
        refine va_get (D := D) (ci := 0) (v := .int (F 2)) (C := RM) (T := TM) (N := 29) hx hb hts inM_ hown hK hP 0 rfl hcl 2 (by decide) f81 (fun _ h9 => h9) rfl dM_choice_60 ?_
        refine wt_i h2 ?_
        refine lv_iconst (v := 1) hx hb dM_choice_63 (by decide) ?_
        refine lv_iadd hx hb dM_choice_64 ?_
        refine wt_i (r := nI (nC + 1)) (by exact nI_add nC 1) ?_
        refine va_put (D := D) (ci := 0) (fs := mWl0 ba (upd F 0 0)) (v := .int (nI (nC + 1))) (ty := .int) (C := RM) (T := TM) (N := 29) hx hb hts inM_ tyM tyM_ok nmM hown hK hP hD hS 0 rfl hcl 2 (by decide) f81 (fun _ h9 => h9) rfl (by decide +kernel) rfl rfl (Nat.le_of_ble_eq_true rfl) dM_choice_65 (fun H locs hP hD hS => ?_)
        rw [mW_f2] at hP hD
        refine lv_aload_n hx hb dM_choice_68 rfl (lv_at hl 0 rfl) ?_
        refine lv_dup hx hb dM_choice_69 rfl ?_
        refine va_get (D := D) (ci := 0) (v := .int (F 5)) (C := RM) (T := TM) (N := 29) hx hb hts inM_ hown hK hP 0 rfl hcl 5 (by decide) f7 (fun _ h9 => h9) rfl dM_choice_70 ?_
        refine lv_iload_n hx hb dM_choice_73 rfl (lv_at hl 1 rfl) ?_
        refine lv_imul hx hb dM_choice_74 ?_
        refine va_put (D := D) (ci := 0) (fs := mWl0 ba (upd (upd F 0 0) 2 (nI (nC + 1)))) (v := .int ((F 5) * n)) (ty := .int) (C := RM) (T := TM) (N := 29) hx hb hts inM_ tyM tyM_ok nmM hown hK hP hD hS 0 rfl hcl 5 (by decide) f7 (fun _ h9 => h9) rfl (by decide +kernel) rfl rfl (Nat.le_of_ble_eq_true rfl) dM_choice_75 (fun H locs hP hD hS => ?_)
        rw [mW_f5] at hP hD
        refine lv_aload_n hx hb dM_choice_78 rfl (lv_at hl 0 rfl) ?_
        refine lv_iconst (v := 0) hx hb dM_choice_79 (by decide) ?_
        refine va_put (D := D) (ci := 0) (fs := mWl0 ba (upd (upd (upd F 0 0) 2 (nI (nC + 1))) 5 ((F 5) * n))) (v := .int 0) (ty := .int) (C := RM) (T := TM) (N := 29) hx hb hts inM_ tyM tyM_ok nmM hown hK hP hD hS 0 rfl hcl 24 (by decide) f84 (fun _ h9 => h9) rfl (by decide +kernel) rfl rfl (Nat.le_of_ble_eq_true rfl) dM_choice_80 (fun H locs hP hD hS => ?_)
        rw [mW_f24] at hP hD
        refine lv_aload_n hx hb dM_choice_83 rfl (lv_at hl 0 rfl) ?_
        refine lv_iconst (v := 0) hx hb dM_choice_84 (by decide) ?_
        refine va_put (D := D) (ci := 0) (fs := mWl0 ba (upd (upd (upd (upd F 0 0) 2 (nI (nC + 1))) 5 ((F 5) * n)) 24 0)) (v := .int 0) (ty := .int) (C := RM) (T := TM) (N := 29) hx hb hts inM_ tyM tyM_ok nmM hown hK hP hD hS 0 rfl hcl 25 (by decide) f87 (fun _ h9 => h9) rfl (by decide +kernel) rfl rfl (Nat.le_of_ble_eq_true rfl) dM_choice_85 (fun H locs hP hD hS => ?_)
        rw [mW_f25] at hP hD
        refine lv_aload_n hx hb dM_choice_88 rfl (lv_at hl 0 rfl) ?_
        refine lv_iconst (v := 0) hx hb dM_choice_89 (by decide) ?_
        refine va_put (D := D) (ci := 0) (fs := mWl0 ba (upd (upd (upd (upd (upd F 0 0) 2 (nI (nC + 1))) 5 ((F 5) * n)) 24 0) 25 0)) (v := .int 0) (ty := .boolean) (C := RM) (T := TM) (N := 29) hx hb hts inM_ tyM tyM_ok nmM hown hK hP hD hS 0 rfl hcl 26 (by decide) f90 (fun _ h9 => h9) rfl (by decide +kernel) (by first | rfl | assumption) rfl (Nat.le_of_ble_eq_true rfl) dM_choice_90 (fun H locs hP hD hS => ?_)
        rw [mW_f26] at hP hD
        refine lv_aload_n hx hb dM_choice_93 rfl (lv_at hl 0 rfl) ?_
        have ef94 : (upd (upd (upd (upd (upd (upd F 0 0) 2 (nI (nC + 1))) 5 ((F 5) * n)) 24 0) 25 0) 26 0) 2 = nI (nC + 1) := by rw [pk_un (k := 26) (j := 2) (by decide), pk_un (k := 25) (j := 2) (by decide), pk_un (k := 24) (j := 2) (by decide), pk_un (k := 5) (j := 2) (by decide), pk_us]
        refine va_get (D := D) (ci := 0) (v := .int (nI (nC + 1))) (C := RM) (T := TM) (N := 29) hx hb hts inM_ hown hK hP 0 rfl hcl 2 (by decide) f81 (fun _ h9 => h9) (congrArg (fun z => some (Value.int z)) ef94) dM_choice_94 ?_
        refine lv_iconst (v := 1) hx hb dM_choice_97 (by decide) ?_
        refine lv_isub hx hb dM_choice_98 ?_
        have em : mr_M_choice (F 2) (F 5) (F 24) (F 25) (F 26) (G 6) nC n = ((nI (nC + 1)) - 1, 0, nI (nC + 1), (F 5) * n, 0, 0, 0, upd (G 6) nC n) := by rw [mr_M_choice, if_neg c12, if_neg c27, if_pos c39]
        exact hret _ _ _ _ _ _ (by simp only [em]) (by simp only [em]) hP hD hS dM_choice_99
      · refine lv_aload_n hx hb dM_choice_42 rfl (lv_at hl 0 rfl) ?_
        refine lv_iconst (v := 2) hx hb dM_choice_43 (by decide) ?_
        refine ww_callV (r := (some (.int ((mr_M_fail 2).1)))) (w' := mW a ba ka (upd (upd F 0 0) 0 ((mr_M_fail 2).2)) G) (As := [.int 2]) (rest := []) Sx (c_M_fail l D cl hcl a ba ka (upd F 0 0) G hP (hD.weaken (fun _ _ _ _ => trivial)) 2) (cwV 1 hts gM_choice_M_fail rfl rfl rfl (by decide +kernel) ⟨Nat.le_of_ble_eq_true rfl, Nat.le_of_ble_eq_true rfl⟩) hK (va_recv hK hP (ci := 0) (q0 := 0) hcl rfl) rfl hl.1 rfl (Nat.le_of_ble_eq_true rfl) dM_choice_44 ⟨Nat.zero_le _, Nat.zero_le _⟩ hD hS hA (fun H locs hP hD hS => ?_)
        rw [upd_ow] at hP hD
        have em : mr_M_choice (F 2) (F 5) (F 24) (F 25) (F 26) (G 6) nC n = ((mr_M_fail 2).1, (mr_M_fail 2).2, F 2, F 5, F 24, F 25, F 26, G 6) := by rw [mr_M_choice, if_neg c12, if_neg c27, if_neg c39]
        exact hret _ _ _ _ _ _ (by simp only [em]) (by simp only [em]; rw [upd_keep (f := upd F 0 ((mr_M_fail 2).2)) (j := 2) (x := F 2) rfl, upd_keep (f := upd F 0 ((mr_M_fail 2).2)) (j := 5) (x := F 5) rfl, upd_keep (f := upd F 0 ((mr_M_fail 2).2)) (j := 24) (x := F 24) rfl, upd_keep (f := upd F 0 ((mr_M_fail 2).2)) (j := 25) (x := F 25) rfl, upd_keep (f := upd F 0 ((mr_M_fail 2).2)) (j := 26) (x := F 26) rfl, vup_keep (f := G) (j := 6) (x := G 6) rfl]) hP hD hS dM_choice_47
  · refine lv_aload_n hx hb dM_choice_15 rfl (lv_at hl 0 rfl) ?_
    refine lv_iconst (v := 1) hx hb dM_choice_16 (by decide) ?_
    refine ww_callV (r := (some (.int ((mr_M_fail 1).1)))) (w' := mW a ba ka (upd (upd F 0 0) 0 ((mr_M_fail 1).2)) G) (As := [.int 1]) (rest := []) Sx (c_M_fail l D cl hcl a ba ka (upd F 0 0) G hP (hD.weaken (fun _ _ _ _ => trivial)) 1) (cwV 1 hts gM_choice_M_fail rfl rfl rfl (by decide +kernel) ⟨Nat.le_of_ble_eq_true rfl, Nat.le_of_ble_eq_true rfl⟩) hK (va_recv hK hP (ci := 0) (q0 := 0) hcl rfl) rfl hl.1 rfl (Nat.le_of_ble_eq_true rfl) dM_choice_17 ⟨Nat.zero_le _, Nat.zero_le _⟩ hD hS hA (fun H locs hP hD hS => ?_)
    rw [upd_ow] at hP hD
    have em : mr_M_choice (F 2) (F 5) (F 24) (F 25) (F 26) (G 6) nC n = ((mr_M_fail 1).1, (mr_M_fail 1).2, F 2, F 5, F 24, F 25, F 26, G 6) := by rw [mr_M_choice, if_pos c12]
    exact hret _ _ _ _ _ _ (by simp only [em]) (by simp only [em]; rw [upd_keep (f := upd F 0 ((mr_M_fail 1).2)) (j := 2) (x := F 2) rfl, upd_keep (f := upd F 0 ((mr_M_fail 1).2)) (j := 5) (x := F 5) rfl, upd_keep (f := upd F 0 ((mr_M_fail 1).2)) (j := 24) (x := F 24) rfl, upd_keep (f := upd F 0 ((mr_M_fail 1).2)) (j := 25) (x := F 25) rfl, upd_keep (f := upd F 0 ((mr_M_fail 1).2)) (j := 26) (x := F 26) rfl, vup_keep (f := G) (j := 6) (x := G 6) rfl]) hP hD hS dM_choice_20
def mr_M_term (f3 : Int32) (f26 : Int32) (g6 : Nat → Int32) (g7 : Nat → Int32) (g8 : Nat → Int32) (g9 : Nat → Int32) (g10 : Nat → Int32) (g11 : Nat → Int32) (g12 : Nat → Int32) (nC : Nat) (nT : Nat) (nu : Int32) (ta : Int32) (va : Int32) (tb : Int32) (vb : Int32) (w : Int32) : Int32 × Int32 × Int32 × Int32 × (Nat → Int32) × (Nat → Int32) × (Nat → Int32) × (Nat → Int32) × (Nat → Int32) × (Nat → Int32) := (if (mr_M_within nu 0 3) = 0 then ((mr_M_fail 1).1, (mr_M_fail 1).2, f3, f26, g7, g8, g9, g10, g11, g12) else (if (mr_M_isValue g6 nC ta va) = 0 then ((mr_M_fail 1).1, (mr_M_fail 1).2, f3, f26, g7, g8, g9, g10, g11, g12) else (if tb = (-1) then (if ta = tb then ((mr_M_fail 2).1, (mr_M_fail 2).2, f3, f26, g7, g8, g9, g10, g11, g12) else (if (mr_M_within w (-1000000) 1000000) = 0 then ((mr_M_fail 2).1, (mr_M_fail 2).2, f3, f26, g7, g8, g9, g10, g11, g12) else (if (nI nT) = 100 then ((mr_M_fail 3).1, (mr_M_fail 3).2, f3, f26, g7, g8, g9, g10, g11, g12) else (nI (nT + 1), 0, nI (nT + 1), 0, upd g7 nT nu, upd g8 nT ta, upd g9 nT va, upd g10 nT tb, upd g11 nT vb, upd g12 nT w)))) else (if (mr_M_isValue g6 nC tb vb) = 0 then ((mr_M_fail 1).1, (mr_M_fail 1).2, f3, f26, g7, g8, g9, g10, g11, g12) else (if ta = tb then ((mr_M_fail 2).1, (mr_M_fail 2).2, f3, f26, g7, g8, g9, g10, g11, g12) else (if (mr_M_within w (-1000000) 1000000) = 0 then ((mr_M_fail 2).1, (mr_M_fail 2).2, f3, f26, g7, g8, g9, g10, g11, g12) else (if (nI nT) = 100 then ((mr_M_fail 3).1, (mr_M_fail 3).2, f3, f26, g7, g8, g9, g10, g11, g12) else (nI (nT + 1), 0, nI (nT + 1), 0, upd g7 nT nu, upd g8 nT ta, upd g9 nT va, upd g10 nT tb, upd g11 nT vb, upd g12 nT w))))))))
set_option maxHeartbeats 4000000 in
set_option maxRecDepth 100000 in
theorem c_M_term (l : Launch) (D : va_G) (cl : List vw_C) (hcl : cl[0]? = some (RM, TM, 29)) (a : Nat) (ba : Nat → Nat) (ka : Nat → ClassId) (F : Nat → Int32) (G : Nat → Nat → Int32) {H0 : Heap} (hP : va_P D cl (mW a ba ka F G) H0) (hD : va_D (fun _ => True) (mW a ba ka F G)) (nC : Nat) (nT : Nat) (nu : Int32) (ta : Int32) (va : Int32) (tb : Int32) (vb : Int32) (w : Int32) (h2 : F 2 = nI nC) (hC : nC ≤ 8) (h3 : F 3 = nI nT) (hT : nT ≤ 100) : ww_Met l yM_term wsM_term ({ frames := 2, cells := 0, slots := 0, locals := 44 } : Room) D cl (mT ka) H0 [.ref a, .int nu, .int ta, .int va, .int tb, .int vb, .int w] (mW a ba ka F G) (some (.int ((mr_M_term (F 3) (F 26) (G 6) (G 7) (G 8) (G 9) (G 10) (G 11) (G 12) nC nT nu ta va tb vb w).1))) (mW a ba ka (upd (upd (upd F 0 ((mr_M_term (F 3) (F 26) (G 6) (G 7) (G 8) (G 9) (G 10) (G 11) (G 12) nC nT nu ta va tb vb w).2.1)) 3 ((mr_M_term (F 3) (F 26) (G 6) (G 7) (G 8) (G 9) (G 10) (G 11) (G 12) nC nT nu ta va tb vb w).2.2.1)) 26 ((mr_M_term (F 3) (F 26) (G 6) (G 7) (G 8) (G 9) (G 10) (G 11) (G 12) nC nT nu ta va tb vb w).2.2.2.1)) (va_up (va_up (va_up (va_up (va_up (va_up G 7 ((mr_M_term (F 3) (F 26) (G 6) (G 7) (G 8) (G 9) (G 10) (G 11) (G 12) nC nT nu ta va tb vb w).2.2.2.2.1)) 8 ((mr_M_term (F 3) (F 26) (G 6) (G 7) (G 8) (G 9) (G 10) (G 11) (G 12) nC nT nu ta va tb vb w).2.2.2.2.2.1)) 9 ((mr_M_term (F 3) (F 26) (G 6) (G 7) (G 8) (G 9) (G 10) (G 11) (G 12) nC nT nu ta va tb vb w).2.2.2.2.2.2.1)) 10 ((mr_M_term (F 3) (F 26) (G 6) (G 7) (G 8) (G 9) (G 10) (G 11) (G 12) nC nT nu ta va tb vb w).2.2.2.2.2.2.2.1)) 11 ((mr_M_term (F 3) (F 26) (G 6) (G 7) (G 8) (G 9) (G 10) (G 11) (G 12) nC nT nu ta va tb vb w).2.2.2.2.2.2.2.2.1)) 12 ((mr_M_term (F 3) (F 26) (G 6) (G 7) (G 8) (G 9) (G 10) (G 11) (G 12) nC nT nu ta va tb vb w).2.2.2.2.2.2.2.2.2))) := by
  refine ww_metI (by decide) rfl (Nat.le_of_ble_eq_true rfl) hP hD ?_
  intro p e s m args below meth c Q A Sx hK hP hD hS hA ls hl hret
  obtain ⟨hx, hb, hml, hown, hts⟩ := id Sx
  have hl : lv_has ls 7 [(0, .ref a), (1, .int nu), (2, .int ta), (3, .int va), (4, .int tb), (5, .int vb), (6, .int w)] := hl
  obtain ⟨H, eH⟩ : ∃ H : Heap, H = H0 := ⟨_, rfl⟩
  obtain ⟨locs, eL⟩ : ∃ L : List Loc, L = [] := ⟨_, rfl⟩
  have hP : va_P D cl (mW a ba ka F G) H := by rw [eH]; exact hP
  have hS : va_S A H0 H locs := by rw [eH, eL]; exact hS
  rw [show W p l e ({ frames := 2, cells := 0, slots := 0, locals := 44 } : Room) s m args below meth c H0 [] 0 0 Q (F0 m 0 ls []) = W p l e ({ frames := 2, cells := 0, slots := 0, locals := 44 } : Room) s m args below meth c H locs 0 0 Q (F0 m 0 ls []) by rw [eH, eL]]
  clear eH eL
  have f70 := hts _ (List.mem_cons_of_mem _ mfM_70)
  have inM_ : ∀ w ∈ wsM0, w ∈ wsM_term := fun w h => List.mem_cons_of_mem _ (inM_all w h)
  have k98 := hts _ (List.mem_cons_of_mem _ mkM_98)
  have k99 := hts _ (List.mem_cons_of_mem _ mkM_99)
  have f100 := hts _ (List.mem_cons_of_mem _ mfM_100)
  have f17 := hts _ (List.mem_cons_of_mem _ mfM_17)
  have f20 := hts _ (List.mem_cons_of_mem _ mfM_20)
  have f23 := hts _ (List.mem_cons_of_mem _ mfM_23)
  have f26 := hts _ (List.mem_cons_of_mem _ mfM_26)
  have f29 := hts _ (List.mem_cons_of_mem _ mfM_29)
  have f32 := hts _ (List.mem_cons_of_mem _ mfM_32)
  have f90 := hts _ (List.mem_cons_of_mem _ mfM_90)
  refine lv_aload_n hx hb dM_term_0 rfl (lv_at hl 0 rfl) ?_
  refine lv_iconst (v := 0) hx hb dM_term_1 (by decide) ?_
  refine va_put (D := D) (ci := 0) (fs := mWl0 ba F) (v := .int 0) (ty := .int) (C := RM) (T := TM) (N := 29) hx hb hts inM_ tyM tyM_ok nmM hown hK hP hD hS 0 rfl hcl 0 (by decide) f70 (fun _ h9 => h9) rfl (by decide +kernel) rfl rfl (Nat.le_of_ble_eq_true rfl) dM_term_2 (fun H locs hP hD hS => ?_)
  rw [mW_f0] at hP hD
  refine lv_iload_n hx hb dM_term_5 rfl (lv_at hl 1 rfl) ?_
  refine lv_iconst (v := 0) hx hb dM_term_6 (by decide) ?_
  refine lv_iconst (v := 3) hx hb dM_term_7 (by decide) ?_
  refine ro_callS (r := (.int (mr_M_within nu 0 3))) (As := [.int nu, .int 0, .int 3]) (rest := []) Sx (c_M_within l D cl hcl a ba ka (upd F 0 0) G hP nu 0 3) (va_cwS 3 hts gM_term_M_within rfl rfl rfl (by decide +kernel) ⟨Nat.le_of_ble_eq_true rfl, Nat.le_of_ble_eq_true rfl⟩) hK rfl hl.1 rfl (Nat.le_of_ble_eq_true rfl) dM_term_8 ⟨Nat.zero_le _, Nat.zero_le _⟩ ?_
  refine lv_if_eq (tgt := 40) hx hb dM_term_11 (by decide) (fun c11 => ?_) (fun c11 => ?_)
  · refine lv_aload_n hx hb dM_term_40 rfl (lv_at hl 0 rfl) ?_
    refine lv_iconst (v := 1) hx hb dM_term_41 (by decide) ?_
    refine ww_callV (r := (some (.int ((mr_M_fail 1).1)))) (w' := mW a ba ka (upd (upd F 0 0) 0 ((mr_M_fail 1).2)) G) (As := [.int 1]) (rest := []) Sx (c_M_fail l D cl hcl a ba ka (upd F 0 0) G hP (hD.weaken (fun _ _ _ _ => trivial)) 1) (cwV 1 hts gM_term_M_fail rfl rfl rfl (by decide +kernel) ⟨Nat.le_of_ble_eq_true rfl, Nat.le_of_ble_eq_true rfl⟩) hK (va_recv hK hP (ci := 0) (q0 := 0) hcl rfl) rfl hl.1 rfl (Nat.le_of_ble_eq_true rfl) dM_term_42 ⟨Nat.zero_le _, Nat.zero_le _⟩ hD hS hA (fun H locs hP hD hS => ?_)
    rw [upd_ow] at hP hD
    have em : mr_M_term (F 3) (F 26) (G 6) (G 7) (G 8) (G 9) (G 10) (G 11) (G 12) nC nT nu ta va tb vb w = ((mr_M_fail 1).1, (mr_M_fail 1).2, F 3, F 26, G 7, G 8, G 9, G 10, G 11, G 12) := by rw [mr_M_term, if_pos c11]
    exact hret _ _ _ _ _ _ (by simp only [em]) (by simp only [em]; rw [upd_keep (f := upd F 0 ((mr_M_fail 1).2)) (j := 3) (x := F 3) rfl, upd_keep (f := upd F 0 ((mr_M_fail 1).2)) (j := 26) (x := F 26) rfl, vup_keep (f := G) (j := 7) (x := G 7) rfl, vup_keep (f := G) (j := 8) (x := G 8) rfl, vup_keep (f := G) (j := 9) (x := G 9) rfl, vup_keep (f := G) (j := 10) (x := G 10) rfl, vup_keep (f := G) (j := 11) (x := G 11) rfl, vup_keep (f := G) (j := 12) (x := G 12) rfl]) hP hD hS dM_term_45
  · refine lv_aload_n hx hb dM_term_14 rfl (lv_at hl 0 rfl) ?_
    refine lv_iload_n hx hb dM_term_15 rfl (lv_at hl 2 rfl) ?_
    refine lv_iload_n hx hb dM_term_16 rfl (lv_at hl 3 rfl) ?_
    refine ro_callV (r := (.int (mr_M_isValue (G 6) nC ta va))) (As := [.int ta, .int va]) (rest := []) Sx (c_M_isValue l D cl hcl a ba ka (upd F 0 0) G hP nC ta va h2 hC) (cwV 2 hts gM_term_M_isValue rfl rfl rfl (by decide +kernel) ⟨Nat.le_of_ble_eq_true rfl, Nat.le_of_ble_eq_true rfl⟩) hK (va_recv hK hP (ci := 0) (q0 := 0) hcl rfl) rfl hl.1 rfl (Nat.le_of_ble_eq_true rfl) dM_term_17 ⟨Nat.zero_le _, Nat.zero_le _⟩ ?_
    refine lv_if_eq (tgt := 40) hx hb dM_term_20 (by decide) (fun c20 => ?_) (fun c20 => ?_)
    · refine lv_aload_n hx hb dM_term_40 rfl (lv_at hl 0 rfl) ?_
      refine lv_iconst (v := 1) hx hb dM_term_41 (by decide) ?_
      refine ww_callV (r := (some (.int ((mr_M_fail 1).1)))) (w' := mW a ba ka (upd (upd F 0 0) 0 ((mr_M_fail 1).2)) G) (As := [.int 1]) (rest := []) Sx (c_M_fail l D cl hcl a ba ka (upd F 0 0) G hP (hD.weaken (fun _ _ _ _ => trivial)) 1) (cwV 1 hts gM_term_M_fail rfl rfl rfl (by decide +kernel) ⟨Nat.le_of_ble_eq_true rfl, Nat.le_of_ble_eq_true rfl⟩) hK (va_recv hK hP (ci := 0) (q0 := 0) hcl rfl) rfl hl.1 rfl (Nat.le_of_ble_eq_true rfl) dM_term_42 ⟨Nat.zero_le _, Nat.zero_le _⟩ hD hS hA (fun H locs hP hD hS => ?_)
      rw [upd_ow] at hP hD
      have em : mr_M_term (F 3) (F 26) (G 6) (G 7) (G 8) (G 9) (G 10) (G 11) (G 12) nC nT nu ta va tb vb w = ((mr_M_fail 1).1, (mr_M_fail 1).2, F 3, F 26, G 7, G 8, G 9, G 10, G 11, G 12) := by rw [mr_M_term, if_neg c11, if_pos c20]
      exact hret _ _ _ _ _ _ (by simp only [em]) (by simp only [em]; rw [upd_keep (f := upd F 0 ((mr_M_fail 1).2)) (j := 3) (x := F 3) rfl, upd_keep (f := upd F 0 ((mr_M_fail 1).2)) (j := 26) (x := F 26) rfl, vup_keep (f := G) (j := 7) (x := G 7) rfl, vup_keep (f := G) (j := 8) (x := G 8) rfl, vup_keep (f := G) (j := 9) (x := G 9) rfl, vup_keep (f := G) (j := 10) (x := G 10) rfl, vup_keep (f := G) (j := 11) (x := G 11) rfl, vup_keep (f := G) (j := 12) (x := G 12) rfl]) hP hD hS dM_term_45
    · refine lv_iload hx hb dM_term_23 (lv_at hl 4 rfl) ?_
      refine lv_iconst (v := (-1)) hx hb dM_term_25 (by decide) ?_
      refine lv_icmp_eq (tgt := 46) hx hb dM_term_26 (by decide) (fun c26 => ?_) (fun c26 => ?_)
      · refine lv_iload_n hx hb dM_term_46 rfl (lv_at hl 2 rfl) ?_
        refine lv_iload hx hb dM_term_47 (lv_at hl 4 rfl) ?_
        refine lv_icmp_eq (tgt := 64) hx hb dM_term_49 (by decide) (fun c49 => ?_) (fun c49 => ?_)
        · refine lv_aload_n hx hb dM_term_64 rfl (lv_at hl 0 rfl) ?_
          refine lv_iconst (v := 2) hx hb dM_term_65 (by decide) ?_
          refine ww_callV (r := (some (.int ((mr_M_fail 2).1)))) (w' := mW a ba ka (upd (upd F 0 0) 0 ((mr_M_fail 2).2)) G) (As := [.int 2]) (rest := []) Sx (c_M_fail l D cl hcl a ba ka (upd F 0 0) G hP (hD.weaken (fun _ _ _ _ => trivial)) 2) (cwV 1 hts gM_term_M_fail rfl rfl rfl (by decide +kernel) ⟨Nat.le_of_ble_eq_true rfl, Nat.le_of_ble_eq_true rfl⟩) hK (va_recv hK hP (ci := 0) (q0 := 0) hcl rfl) rfl hl.1 rfl (Nat.le_of_ble_eq_true rfl) dM_term_66 ⟨Nat.zero_le _, Nat.zero_le _⟩ hD hS hA (fun H locs hP hD hS => ?_)
          rw [upd_ow] at hP hD
          have em : mr_M_term (F 3) (F 26) (G 6) (G 7) (G 8) (G 9) (G 10) (G 11) (G 12) nC nT nu ta va tb vb w = ((mr_M_fail 2).1, (mr_M_fail 2).2, F 3, F 26, G 7, G 8, G 9, G 10, G 11, G 12) := by rw [mr_M_term, if_neg c11, if_neg c20, if_pos c26, if_pos c49]
          exact hret _ _ _ _ _ _ (by simp only [em]) (by simp only [em]; rw [upd_keep (f := upd F 0 ((mr_M_fail 2).2)) (j := 3) (x := F 3) rfl, upd_keep (f := upd F 0 ((mr_M_fail 2).2)) (j := 26) (x := F 26) rfl, vup_keep (f := G) (j := 7) (x := G 7) rfl, vup_keep (f := G) (j := 8) (x := G 8) rfl, vup_keep (f := G) (j := 9) (x := G 9) rfl, vup_keep (f := G) (j := 10) (x := G 10) rfl, vup_keep (f := G) (j := 11) (x := G 11) rfl, vup_keep (f := G) (j := 12) (x := G 12) rfl]) hP hD hS dM_term_69
        · refine lv_iload hx hb dM_term_52 (lv_at hl 6 rfl) ?_
          refine lv_ldc hx hb hown k98 dM_term_54 ?_
          refine lv_ldc hx hb hown k99 dM_term_56 ?_
          refine ro_callS (r := (.int (mr_M_within w (-1000000) 1000000))) (As := [.int w, .int (-1000000), .int 1000000]) (rest := []) Sx (c_M_within l D cl hcl a ba ka (upd F 0 0) G hP w (-1000000) 1000000) (va_cwS 3 hts gM_term_M_within rfl rfl rfl (by decide +kernel) ⟨Nat.le_of_ble_eq_true rfl, Nat.le_of_ble_eq_true rfl⟩) hK rfl hl.1 rfl (Nat.le_of_ble_eq_true rfl) dM_term_58 ⟨Nat.zero_le _, Nat.zero_le _⟩ ?_
          refine lv_if_ne (tgt := 70) hx hb dM_term_61 (by decide) (fun c61 => ?_) (fun c61 => ?_)
          · refine lv_aload_n hx hb dM_term_70 rfl (lv_at hl 0 rfl) ?_
            refine va_get (D := D) (ci := 0) (v := .int (F 3)) (C := RM) (T := TM) (N := 29) hx hb hts inM_ hown hK hP 0 rfl hcl 3 (by decide) f100 (fun _ h9 => h9) rfl dM_term_71 ?_
            refine wt_i h3 ?_
            refine lv_bipush (v := 100) hx hb dM_term_74 (by decide) ?_
            refine lv_icmp_ne (tgt := 85) hx hb dM_term_76 (by decide) (fun c76 => ?_) (fun c76 => ?_)
            · have n76 : ¬ nT = 100 := fun h9 => c76 ((nI_eq (a := nT) (b := 100) (by omega) (by omega)).mpr h9)
              refine lv_aload_n hx hb dM_term_85 rfl (lv_at hl 0 rfl) ?_
              refine va_get (D := D) (ci := 0) (v := .ref (ba 7)) (C := RM) (T := TM) (N := 29) hx hb hts inM_ hown hK hP 0 rfl hcl 7 (by decide) f17 (fun _ h9 => h9) rfl dM_term_86 ?_
              refine lv_aload_n hx hb dM_term_89 rfl (lv_at hl 0 rfl) ?_
              refine va_get (D := D) (ci := 0) (v := .int (F 3)) (C := RM) (T := TM) (N := 29) hx hb hts inM_ hown hK hP 0 rfl hcl 3 (by decide) f100 (fun _ h9 => h9) rfl dM_term_90 ?_
              refine wt_i h3 ?_
              refine lv_iload_n hx hb dM_term_93 rfl (lv_at hl 1 rfl) ?_
              have sd94 : nT < 100 := by omega
              refine wn_iast (f := G 7) hx hb hK hP hD hS 2 1 rfl rfl nT rfl sd94 (by decide) dM_term_94 (fun H locs hP hD hS => ?_)
              rw [mW_g7] at hP hD
              refine lv_aload_n hx hb dM_term_95 rfl (lv_at hl 0 rfl) ?_
              refine va_get (D := D) (ci := 0) (v := .ref (ba 8)) (C := RM) (T := TM) (N := 29) hx hb hts inM_ hown hK hP 0 rfl hcl 8 (by decide) f20 (fun _ h9 => h9) rfl dM_term_96 ?_
              refine lv_aload_n hx hb dM_term_99 rfl (lv_at hl 0 rfl) ?_
              refine va_get (D := D) (ci := 0) (v := .int (F 3)) (C := RM) (T := TM) (N := 29) hx hb hts inM_ hown hK hP 0 rfl hcl 3 (by decide) f100 (fun _ h9 => h9) rfl dM_term_100 ?_
              refine wt_i h3 ?_
              refine lv_iload_n hx hb dM_term_103 rfl (lv_at hl 2 rfl) ?_
              have sd104 : nT < 100 := by omega
              refine wn_iast (f := G 8) hx hb hK hP hD hS 3 2 rfl rfl nT rfl sd104 (by decide) dM_term_104 (fun H locs hP hD hS => ?_)
              rw [mW_g8] at hP hD
              refine lv_aload_n hx hb dM_term_105 rfl (lv_at hl 0 rfl) ?_
              refine va_get (D := D) (ci := 0) (v := .ref (ba 9)) (C := RM) (T := TM) (N := 29) hx hb hts inM_ hown hK hP 0 rfl hcl 9 (by decide) f23 (fun _ h9 => h9) rfl dM_term_106 ?_
              refine lv_aload_n hx hb dM_term_109 rfl (lv_at hl 0 rfl) ?_
              refine va_get (D := D) (ci := 0) (v := .int (F 3)) (C := RM) (T := TM) (N := 29) hx hb hts inM_ hown hK hP 0 rfl hcl 3 (by decide) f100 (fun _ h9 => h9) rfl dM_term_110 ?_
              refine wt_i h3 ?_
              refine lv_iload_n hx hb dM_term_113 rfl (lv_at hl 3 rfl) ?_
              have sd114 : nT < 100 := by omega
              refine wn_iast (f := G 9) hx hb hK hP hD hS 4 3 rfl rfl nT rfl sd114 (by decide) dM_term_114 (fun H locs hP hD hS => ?_)
              rw [mW_g9] at hP hD
              refine lv_aload_n hx hb dM_term_115 rfl (lv_at hl 0 rfl) ?_
              refine va_get (D := D) (ci := 0) (v := .ref (ba 10)) (C := RM) (T := TM) (N := 29) hx hb hts inM_ hown hK hP 0 rfl hcl 10 (by decide) f26 (fun _ h9 => h9) rfl dM_term_116 ?_
              refine lv_aload_n hx hb dM_term_119 rfl (lv_at hl 0 rfl) ?_
              refine va_get (D := D) (ci := 0) (v := .int (F 3)) (C := RM) (T := TM) (N := 29) hx hb hts inM_ hown hK hP 0 rfl hcl 3 (by decide) f100 (fun _ h9 => h9) rfl dM_term_120 ?_
              refine wt_i h3 ?_
              refine lv_iload hx hb dM_term_123 (lv_at hl 4 rfl) ?_
              have sd125 : nT < 100 := by omega
              refine wn_iast (f := G 10) hx hb hK hP hD hS 5 4 rfl rfl nT rfl sd125 (by decide) dM_term_125 (fun H locs hP hD hS => ?_)
              rw [mW_g10] at hP hD
              refine lv_aload_n hx hb dM_term_126 rfl (lv_at hl 0 rfl) ?_
              refine va_get (D := D) (ci := 0) (v := .ref (ba 11)) (C := RM) (T := TM) (N := 29) hx hb hts inM_ hown hK hP 0 rfl hcl 11 (by decide) f29 (fun _ h9 => h9) rfl dM_term_127 ?_
              refine lv_aload_n hx hb dM_term_130 rfl (lv_at hl 0 rfl) ?_
              refine va_get (D := D) (ci := 0) (v := .int (F 3)) (C := RM) (T := TM) (N := 29) hx hb hts inM_ hown hK hP 0 rfl hcl 3 (by decide) f100 (fun _ h9 => h9) rfl dM_term_131 ?_
              refine wt_i h3 ?_
              refine lv_iload hx hb dM_term_134 (lv_at hl 5 rfl) ?_
              have sd136 : nT < 100 := by omega
              refine wn_iast (f := G 11) hx hb hK hP hD hS 6 5 rfl rfl nT rfl sd136 (by decide) dM_term_136 (fun H locs hP hD hS => ?_)
              rw [mW_g11] at hP hD
              refine lv_aload_n hx hb dM_term_137 rfl (lv_at hl 0 rfl) ?_
              refine va_get (D := D) (ci := 0) (v := .ref (ba 12)) (C := RM) (T := TM) (N := 29) hx hb hts inM_ hown hK hP 0 rfl hcl 12 (by decide) f32 (fun _ h9 => h9) rfl dM_term_138 ?_
              refine lv_aload_n hx hb dM_term_141 rfl (lv_at hl 0 rfl) ?_
              refine va_get (D := D) (ci := 0) (v := .int (F 3)) (C := RM) (T := TM) (N := 29) hx hb hts inM_ hown hK hP 0 rfl hcl 3 (by decide) f100 (fun _ h9 => h9) rfl dM_term_142 ?_
              refine wt_i h3 ?_
              refine lv_iload hx hb dM_term_145 (lv_at hl 6 rfl) ?_
              have sd147 : nT < 100 := by omega
              refine wn_iast (f := G 12) hx hb hK hP hD hS 7 6 rfl rfl nT rfl sd147 (by decide) dM_term_147 (fun H locs hP hD hS => ?_)
              rw [mW_g12] at hP hD
              refine lv_aload_n hx hb dM_term_148 rfl (lv_at hl 0 rfl) ?_
              refine lv_dup hx hb dM_term_149 rfl ?_
              refine va_get (D := D) (ci := 0) (v := .int (F 3)) (C := RM) (T := TM) (N := 29) hx hb hts inM_ hown hK hP 0 rfl hcl 3 (by decide) f100 (fun _ h9 => h9) rfl dM_term_150 ?_
              refine wt_i h3 ?_
              refine lv_iconst (v := 1) hx hb dM_term_153 (by decide) ?_
              refine lv_iadd hx hb dM_term_154 ?_
              refine wt_i (r := nI (nT + 1)) (by exact nI_add nT 1) ?_
              refine va_put (D := D) (ci := 0) (fs := mWl0 ba (upd F 0 0)) (v := .int (nI (nT + 1))) (ty := .int) (C := RM) (T := TM) (N := 29) hx hb hts inM_ tyM tyM_ok nmM hown hK hP hD hS 0 rfl hcl 3 (by decide) f100 (fun _ h9 => h9) rfl (by decide +kernel) rfl rfl (Nat.le_of_ble_eq_true rfl) dM_term_155 (fun H locs hP hD hS => ?_)
              rw [mW_f3] at hP hD
              refine lv_aload_n hx hb dM_term_158 rfl (lv_at hl 0 rfl) ?_
              refine lv_iconst (v := 0) hx hb dM_term_159 (by decide) ?_
              refine va_put (D := D) (ci := 0) (fs := mWl0 ba (upd (upd F 0 0) 3 (nI (nT + 1)))) (v := .int 0) (ty := .boolean) (C := RM) (T := TM) (N := 29) hx hb hts inM_ tyM tyM_ok nmM hown hK hP hD hS 0 rfl hcl 26 (by decide) f90 (fun _ h9 => h9) rfl (by decide +kernel) (by first | rfl | assumption) rfl (Nat.le_of_ble_eq_true rfl) dM_term_160 (fun H locs hP hD hS => ?_)
              rw [mW_f26] at hP hD
              refine lv_aload_n hx hb dM_term_163 rfl (lv_at hl 0 rfl) ?_
              have ef164 : (upd (upd (upd F 0 0) 3 (nI (nT + 1))) 26 0) 3 = nI (nT + 1) := by rw [pk_un (k := 26) (j := 3) (by decide), pk_us]
              refine va_get (D := D) (ci := 0) (v := .int (nI (nT + 1))) (C := RM) (T := TM) (N := 29) hx hb hts inM_ hown hK hP 0 rfl hcl 3 (by decide) f100 (fun _ h9 => h9) (congrArg (fun z => some (Value.int z)) ef164) dM_term_164 ?_
              have em : mr_M_term (F 3) (F 26) (G 6) (G 7) (G 8) (G 9) (G 10) (G 11) (G 12) nC nT nu ta va tb vb w = (nI (nT + 1), 0, nI (nT + 1), 0, upd (G 7) nT nu, upd (G 8) nT ta, upd (G 9) nT va, upd (G 10) nT tb, upd (G 11) nT vb, upd (G 12) nT w) := by rw [mr_M_term, if_neg c11, if_neg c20, if_pos c26, if_neg c49, if_neg c61, if_neg c76]
              exact hret _ _ _ _ _ _ (by simp only [em]) (by simp only [em]) hP hD hS dM_term_167
            · have n76 : nT = 100 := (nI_eq (a := nT) (b := 100) (by omega) (by omega)).mp c76
              refine lv_aload_n hx hb dM_term_79 rfl (lv_at hl 0 rfl) ?_
              refine lv_iconst (v := 3) hx hb dM_term_80 (by decide) ?_
              refine ww_callV (r := (some (.int ((mr_M_fail 3).1)))) (w' := mW a ba ka (upd (upd F 0 0) 0 ((mr_M_fail 3).2)) G) (As := [.int 3]) (rest := []) Sx (c_M_fail l D cl hcl a ba ka (upd F 0 0) G hP (hD.weaken (fun _ _ _ _ => trivial)) 3) (cwV 1 hts gM_term_M_fail rfl rfl rfl (by decide +kernel) ⟨Nat.le_of_ble_eq_true rfl, Nat.le_of_ble_eq_true rfl⟩) hK (va_recv hK hP (ci := 0) (q0 := 0) hcl rfl) rfl hl.1 rfl (Nat.le_of_ble_eq_true rfl) dM_term_81 ⟨Nat.zero_le _, Nat.zero_le _⟩ hD hS hA (fun H locs hP hD hS => ?_)
              rw [upd_ow] at hP hD
              have em : mr_M_term (F 3) (F 26) (G 6) (G 7) (G 8) (G 9) (G 10) (G 11) (G 12) nC nT nu ta va tb vb w = ((mr_M_fail 3).1, (mr_M_fail 3).2, F 3, F 26, G 7, G 8, G 9, G 10, G 11, G 12) := by rw [mr_M_term, if_neg c11, if_neg c20, if_pos c26, if_neg c49, if_neg c61, if_pos c76]
              exact hret _ _ _ _ _ _ (by simp only [em]) (by simp only [em]; rw [upd_keep (f := upd F 0 ((mr_M_fail 3).2)) (j := 3) (x := F 3) rfl, upd_keep (f := upd F 0 ((mr_M_fail 3).2)) (j := 26) (x := F 26) rfl, vup_keep (f := G) (j := 7) (x := G 7) rfl, vup_keep (f := G) (j := 8) (x := G 8) rfl, vup_keep (f := G) (j := 9) (x := G 9) rfl, vup_keep (f := G) (j := 10) (x := G 10) rfl, vup_keep (f := G) (j := 11) (x := G 11) rfl, vup_keep (f := G) (j := 12) (x := G 12) rfl]) hP hD hS dM_term_84
          · refine lv_aload_n hx hb dM_term_64 rfl (lv_at hl 0 rfl) ?_
            refine lv_iconst (v := 2) hx hb dM_term_65 (by decide) ?_
            refine ww_callV (r := (some (.int ((mr_M_fail 2).1)))) (w' := mW a ba ka (upd (upd F 0 0) 0 ((mr_M_fail 2).2)) G) (As := [.int 2]) (rest := []) Sx (c_M_fail l D cl hcl a ba ka (upd F 0 0) G hP (hD.weaken (fun _ _ _ _ => trivial)) 2) (cwV 1 hts gM_term_M_fail rfl rfl rfl (by decide +kernel) ⟨Nat.le_of_ble_eq_true rfl, Nat.le_of_ble_eq_true rfl⟩) hK (va_recv hK hP (ci := 0) (q0 := 0) hcl rfl) rfl hl.1 rfl (Nat.le_of_ble_eq_true rfl) dM_term_66 ⟨Nat.zero_le _, Nat.zero_le _⟩ hD hS hA (fun H locs hP hD hS => ?_)
            rw [upd_ow] at hP hD
            have em : mr_M_term (F 3) (F 26) (G 6) (G 7) (G 8) (G 9) (G 10) (G 11) (G 12) nC nT nu ta va tb vb w = ((mr_M_fail 2).1, (mr_M_fail 2).2, F 3, F 26, G 7, G 8, G 9, G 10, G 11, G 12) := by rw [mr_M_term, if_neg c11, if_neg c20, if_pos c26, if_neg c49, if_pos c61]
            exact hret _ _ _ _ _ _ (by simp only [em]) (by simp only [em]; rw [upd_keep (f := upd F 0 ((mr_M_fail 2).2)) (j := 3) (x := F 3) rfl, upd_keep (f := upd F 0 ((mr_M_fail 2).2)) (j := 26) (x := F 26) rfl, vup_keep (f := G) (j := 7) (x := G 7) rfl, vup_keep (f := G) (j := 8) (x := G 8) rfl, vup_keep (f := G) (j := 9) (x := G 9) rfl, vup_keep (f := G) (j := 10) (x := G 10) rfl, vup_keep (f := G) (j := 11) (x := G 11) rfl, vup_keep (f := G) (j := 12) (x := G 12) rfl]) hP hD hS dM_term_69
      · refine lv_aload_n hx hb dM_term_29 rfl (lv_at hl 0 rfl) ?_
        refine lv_iload hx hb dM_term_30 (lv_at hl 4 rfl) ?_
        refine lv_iload hx hb dM_term_32 (lv_at hl 5 rfl) ?_
        refine ro_callV (r := (.int (mr_M_isValue (G 6) nC tb vb))) (As := [.int tb, .int vb]) (rest := []) Sx (c_M_isValue l D cl hcl a ba ka (upd F 0 0) G hP nC tb vb h2 hC) (cwV 2 hts gM_term_M_isValue rfl rfl rfl (by decide +kernel) ⟨Nat.le_of_ble_eq_true rfl, Nat.le_of_ble_eq_true rfl⟩) hK (va_recv hK hP (ci := 0) (q0 := 0) hcl rfl) rfl hl.1 rfl (Nat.le_of_ble_eq_true rfl) dM_term_34 ⟨Nat.zero_le _, Nat.zero_le _⟩ ?_
        refine lv_if_ne (tgt := 46) hx hb dM_term_37 (by decide) (fun c37 => ?_) (fun c37 => ?_)
        · refine lv_iload_n hx hb dM_term_46 rfl (lv_at hl 2 rfl) ?_
          refine lv_iload hx hb dM_term_47 (lv_at hl 4 rfl) ?_
          refine lv_icmp_eq (tgt := 64) hx hb dM_term_49 (by decide) (fun c49 => ?_) (fun c49 => ?_)
          · refine lv_aload_n hx hb dM_term_64 rfl (lv_at hl 0 rfl) ?_
            refine lv_iconst (v := 2) hx hb dM_term_65 (by decide) ?_
            refine ww_callV (r := (some (.int ((mr_M_fail 2).1)))) (w' := mW a ba ka (upd (upd F 0 0) 0 ((mr_M_fail 2).2)) G) (As := [.int 2]) (rest := []) Sx (c_M_fail l D cl hcl a ba ka (upd F 0 0) G hP (hD.weaken (fun _ _ _ _ => trivial)) 2) (cwV 1 hts gM_term_M_fail rfl rfl rfl (by decide +kernel) ⟨Nat.le_of_ble_eq_true rfl, Nat.le_of_ble_eq_true rfl⟩) hK (va_recv hK hP (ci := 0) (q0 := 0) hcl rfl) rfl hl.1 rfl (Nat.le_of_ble_eq_true rfl) dM_term_66 ⟨Nat.zero_le _, Nat.zero_le _⟩ hD hS hA (fun H locs hP hD hS => ?_)
            rw [upd_ow] at hP hD
            have em : mr_M_term (F 3) (F 26) (G 6) (G 7) (G 8) (G 9) (G 10) (G 11) (G 12) nC nT nu ta va tb vb w = ((mr_M_fail 2).1, (mr_M_fail 2).2, F 3, F 26, G 7, G 8, G 9, G 10, G 11, G 12) := by rw [mr_M_term, if_neg c11, if_neg c20, if_neg c26, if_neg c37, if_pos c49]
            exact hret _ _ _ _ _ _ (by simp only [em]) (by simp only [em]; rw [upd_keep (f := upd F 0 ((mr_M_fail 2).2)) (j := 3) (x := F 3) rfl, upd_keep (f := upd F 0 ((mr_M_fail 2).2)) (j := 26) (x := F 26) rfl, vup_keep (f := G) (j := 7) (x := G 7) rfl, vup_keep (f := G) (j := 8) (x := G 8) rfl, vup_keep (f := G) (j := 9) (x := G 9) rfl, vup_keep (f := G) (j := 10) (x := G 10) rfl, vup_keep (f := G) (j := 11) (x := G 11) rfl, vup_keep (f := G) (j := 12) (x := G 12) rfl]) hP hD hS dM_term_69
          · refine lv_iload hx hb dM_term_52 (lv_at hl 6 rfl) ?_
            refine lv_ldc hx hb hown k98 dM_term_54 ?_
            refine lv_ldc hx hb hown k99 dM_term_56 ?_
            refine ro_callS (r := (.int (mr_M_within w (-1000000) 1000000))) (As := [.int w, .int (-1000000), .int 1000000]) (rest := []) Sx (c_M_within l D cl hcl a ba ka (upd F 0 0) G hP w (-1000000) 1000000) (va_cwS 3 hts gM_term_M_within rfl rfl rfl (by decide +kernel) ⟨Nat.le_of_ble_eq_true rfl, Nat.le_of_ble_eq_true rfl⟩) hK rfl hl.1 rfl (Nat.le_of_ble_eq_true rfl) dM_term_58 ⟨Nat.zero_le _, Nat.zero_le _⟩ ?_
            refine lv_if_ne (tgt := 70) hx hb dM_term_61 (by decide) (fun c61 => ?_) (fun c61 => ?_)
            · refine lv_aload_n hx hb dM_term_70 rfl (lv_at hl 0 rfl) ?_
              refine va_get (D := D) (ci := 0) (v := .int (F 3)) (C := RM) (T := TM) (N := 29) hx hb hts inM_ hown hK hP 0 rfl hcl 3 (by decide) f100 (fun _ h9 => h9) rfl dM_term_71 ?_
              refine wt_i h3 ?_
              refine lv_bipush (v := 100) hx hb dM_term_74 (by decide) ?_
              refine lv_icmp_ne (tgt := 85) hx hb dM_term_76 (by decide) (fun c76 => ?_) (fun c76 => ?_)
              · have n76 : ¬ nT = 100 := fun h9 => c76 ((nI_eq (a := nT) (b := 100) (by omega) (by omega)).mpr h9)
                refine lv_aload_n hx hb dM_term_85 rfl (lv_at hl 0 rfl) ?_
                refine va_get (D := D) (ci := 0) (v := .ref (ba 7)) (C := RM) (T := TM) (N := 29) hx hb hts inM_ hown hK hP 0 rfl hcl 7 (by decide) f17 (fun _ h9 => h9) rfl dM_term_86 ?_
                refine lv_aload_n hx hb dM_term_89 rfl (lv_at hl 0 rfl) ?_
                refine va_get (D := D) (ci := 0) (v := .int (F 3)) (C := RM) (T := TM) (N := 29) hx hb hts inM_ hown hK hP 0 rfl hcl 3 (by decide) f100 (fun _ h9 => h9) rfl dM_term_90 ?_
                refine wt_i h3 ?_
                refine lv_iload_n hx hb dM_term_93 rfl (lv_at hl 1 rfl) ?_
                have sd94 : nT < 100 := by omega
                refine wn_iast (f := G 7) hx hb hK hP hD hS 2 1 rfl rfl nT rfl sd94 (by decide) dM_term_94 (fun H locs hP hD hS => ?_)
                rw [mW_g7] at hP hD
                refine lv_aload_n hx hb dM_term_95 rfl (lv_at hl 0 rfl) ?_
                refine va_get (D := D) (ci := 0) (v := .ref (ba 8)) (C := RM) (T := TM) (N := 29) hx hb hts inM_ hown hK hP 0 rfl hcl 8 (by decide) f20 (fun _ h9 => h9) rfl dM_term_96 ?_
                refine lv_aload_n hx hb dM_term_99 rfl (lv_at hl 0 rfl) ?_
                refine va_get (D := D) (ci := 0) (v := .int (F 3)) (C := RM) (T := TM) (N := 29) hx hb hts inM_ hown hK hP 0 rfl hcl 3 (by decide) f100 (fun _ h9 => h9) rfl dM_term_100 ?_
                refine wt_i h3 ?_
                refine lv_iload_n hx hb dM_term_103 rfl (lv_at hl 2 rfl) ?_
                have sd104 : nT < 100 := by omega
                refine wn_iast (f := G 8) hx hb hK hP hD hS 3 2 rfl rfl nT rfl sd104 (by decide) dM_term_104 (fun H locs hP hD hS => ?_)
                rw [mW_g8] at hP hD
                refine lv_aload_n hx hb dM_term_105 rfl (lv_at hl 0 rfl) ?_
                refine va_get (D := D) (ci := 0) (v := .ref (ba 9)) (C := RM) (T := TM) (N := 29) hx hb hts inM_ hown hK hP 0 rfl hcl 9 (by decide) f23 (fun _ h9 => h9) rfl dM_term_106 ?_
                refine lv_aload_n hx hb dM_term_109 rfl (lv_at hl 0 rfl) ?_
                refine va_get (D := D) (ci := 0) (v := .int (F 3)) (C := RM) (T := TM) (N := 29) hx hb hts inM_ hown hK hP 0 rfl hcl 3 (by decide) f100 (fun _ h9 => h9) rfl dM_term_110 ?_
                refine wt_i h3 ?_
                refine lv_iload_n hx hb dM_term_113 rfl (lv_at hl 3 rfl) ?_
                have sd114 : nT < 100 := by omega
                refine wn_iast (f := G 9) hx hb hK hP hD hS 4 3 rfl rfl nT rfl sd114 (by decide) dM_term_114 (fun H locs hP hD hS => ?_)
                rw [mW_g9] at hP hD
                refine lv_aload_n hx hb dM_term_115 rfl (lv_at hl 0 rfl) ?_
                refine va_get (D := D) (ci := 0) (v := .ref (ba 10)) (C := RM) (T := TM) (N := 29) hx hb hts inM_ hown hK hP 0 rfl hcl 10 (by decide) f26 (fun _ h9 => h9) rfl dM_term_116 ?_
                refine lv_aload_n hx hb dM_term_119 rfl (lv_at hl 0 rfl) ?_
                refine va_get (D := D) (ci := 0) (v := .int (F 3)) (C := RM) (T := TM) (N := 29) hx hb hts inM_ hown hK hP 0 rfl hcl 3 (by decide) f100 (fun _ h9 => h9) rfl dM_term_120 ?_
                refine wt_i h3 ?_
                refine lv_iload hx hb dM_term_123 (lv_at hl 4 rfl) ?_
                have sd125 : nT < 100 := by omega
                refine wn_iast (f := G 10) hx hb hK hP hD hS 5 4 rfl rfl nT rfl sd125 (by decide) dM_term_125 (fun H locs hP hD hS => ?_)
                rw [mW_g10] at hP hD
                refine lv_aload_n hx hb dM_term_126 rfl (lv_at hl 0 rfl) ?_
                refine va_get (D := D) (ci := 0) (v := .ref (ba 11)) (C := RM) (T := TM) (N := 29) hx hb hts inM_ hown hK hP 0 rfl hcl 11 (by decide) f29 (fun _ h9 => h9) rfl dM_term_127 ?_
                refine lv_aload_n hx hb dM_term_130 rfl (lv_at hl 0 rfl) ?_
                refine va_get (D := D) (ci := 0) (v := .int (F 3)) (C := RM) (T := TM) (N := 29) hx hb hts inM_ hown hK hP 0 rfl hcl 3 (by decide) f100 (fun _ h9 => h9) rfl dM_term_131 ?_
                refine wt_i h3 ?_
                refine lv_iload hx hb dM_term_134 (lv_at hl 5 rfl) ?_
                have sd136 : nT < 100 := by omega
                refine wn_iast (f := G 11) hx hb hK hP hD hS 6 5 rfl rfl nT rfl sd136 (by decide) dM_term_136 (fun H locs hP hD hS => ?_)
                rw [mW_g11] at hP hD
                refine lv_aload_n hx hb dM_term_137 rfl (lv_at hl 0 rfl) ?_
                refine va_get (D := D) (ci := 0) (v := .ref (ba 12)) (C := RM) (T := TM) (N := 29) hx hb hts inM_ hown hK hP 0 rfl hcl 12 (by decide) f32 (fun _ h9 => h9) rfl dM_term_138 ?_
                refine lv_aload_n hx hb dM_term_141 rfl (lv_at hl 0 rfl) ?_
                refine va_get (D := D) (ci := 0) (v := .int (F 3)) (C := RM) (T := TM) (N := 29) hx hb hts inM_ hown hK hP 0 rfl hcl 3 (by decide) f100 (fun _ h9 => h9) rfl dM_term_142 ?_
                refine wt_i h3 ?_
                refine lv_iload hx hb dM_term_145 (lv_at hl 6 rfl) ?_
                have sd147 : nT < 100 := by omega
                refine wn_iast (f := G 12) hx hb hK hP hD hS 7 6 rfl rfl nT rfl sd147 (by decide) dM_term_147 (fun H locs hP hD hS => ?_)
                rw [mW_g12] at hP hD
                refine lv_aload_n hx hb dM_term_148 rfl (lv_at hl 0 rfl) ?_
                refine lv_dup hx hb dM_term_149 rfl ?_
                refine va_get (D := D) (ci := 0) (v := .int (F 3)) (C := RM) (T := TM) (N := 29) hx hb hts inM_ hown hK hP 0 rfl hcl 3 (by decide) f100 (fun _ h9 => h9) rfl dM_term_150 ?_
                refine wt_i h3 ?_
                refine lv_iconst (v := 1) hx hb dM_term_153 (by decide) ?_
                refine lv_iadd hx hb dM_term_154 ?_
                refine wt_i (r := nI (nT + 1)) (by exact nI_add nT 1) ?_
                refine va_put (D := D) (ci := 0) (fs := mWl0 ba (upd F 0 0)) (v := .int (nI (nT + 1))) (ty := .int) (C := RM) (T := TM) (N := 29) hx hb hts inM_ tyM tyM_ok nmM hown hK hP hD hS 0 rfl hcl 3 (by decide) f100 (fun _ h9 => h9) rfl (by decide +kernel) rfl rfl (Nat.le_of_ble_eq_true rfl) dM_term_155 (fun H locs hP hD hS => ?_)
                rw [mW_f3] at hP hD
                refine lv_aload_n hx hb dM_term_158 rfl (lv_at hl 0 rfl) ?_
                refine lv_iconst (v := 0) hx hb dM_term_159 (by decide) ?_
                refine va_put (D := D) (ci := 0) (fs := mWl0 ba (upd (upd F 0 0) 3 (nI (nT + 1)))) (v := .int 0) (ty := .boolean) (C := RM) (T := TM) (N := 29) hx hb hts inM_ tyM tyM_ok nmM hown hK hP hD hS 0 rfl hcl 26 (by decide) f90 (fun _ h9 => h9) rfl (by decide +kernel) (by first | rfl | assumption) rfl (Nat.le_of_ble_eq_true rfl) dM_term_160 (fun H locs hP hD hS => ?_)
                rw [mW_f26] at hP hD
                refine lv_aload_n hx hb dM_term_163 rfl (lv_at hl 0 rfl) ?_
                have ef164 : (upd (upd (upd F 0 0) 3 (nI (nT + 1))) 26 0) 3 = nI (nT + 1) := by rw [pk_un (k := 26) (j := 3) (by decide), pk_us]
                refine va_get (D := D) (ci := 0) (v := .int (nI (nT + 1))) (C := RM) (T := TM) (N := 29) hx hb hts inM_ hown hK hP 0 rfl hcl 3 (by decide) f100 (fun _ h9 => h9) (congrArg (fun z => some (Value.int z)) ef164) dM_term_164 ?_
                have em : mr_M_term (F 3) (F 26) (G 6) (G 7) (G 8) (G 9) (G 10) (G 11) (G 12) nC nT nu ta va tb vb w = (nI (nT + 1), 0, nI (nT + 1), 0, upd (G 7) nT nu, upd (G 8) nT ta, upd (G 9) nT va, upd (G 10) nT tb, upd (G 11) nT vb, upd (G 12) nT w) := by rw [mr_M_term, if_neg c11, if_neg c20, if_neg c26, if_neg c37, if_neg c49, if_neg c61, if_neg c76]
                exact hret _ _ _ _ _ _ (by simp only [em]) (by simp only [em]) hP hD hS dM_term_167
              · have n76 : nT = 100 := (nI_eq (a := nT) (b := 100) (by omega) (by omega)).mp c76
                refine lv_aload_n hx hb dM_term_79 rfl (lv_at hl 0 rfl) ?_
                refine lv_iconst (v := 3) hx hb dM_term_80 (by decide) ?_
                refine ww_callV (r := (some (.int ((mr_M_fail 3).1)))) (w' := mW a ba ka (upd (upd F 0 0) 0 ((mr_M_fail 3).2)) G) (As := [.int 3]) (rest := []) Sx (c_M_fail l D cl hcl a ba ka (upd F 0 0) G hP (hD.weaken (fun _ _ _ _ => trivial)) 3) (cwV 1 hts gM_term_M_fail rfl rfl rfl (by decide +kernel) ⟨Nat.le_of_ble_eq_true rfl, Nat.le_of_ble_eq_true rfl⟩) hK (va_recv hK hP (ci := 0) (q0 := 0) hcl rfl) rfl hl.1 rfl (Nat.le_of_ble_eq_true rfl) dM_term_81 ⟨Nat.zero_le _, Nat.zero_le _⟩ hD hS hA (fun H locs hP hD hS => ?_)
                rw [upd_ow] at hP hD
                have em : mr_M_term (F 3) (F 26) (G 6) (G 7) (G 8) (G 9) (G 10) (G 11) (G 12) nC nT nu ta va tb vb w = ((mr_M_fail 3).1, (mr_M_fail 3).2, F 3, F 26, G 7, G 8, G 9, G 10, G 11, G 12) := by rw [mr_M_term, if_neg c11, if_neg c20, if_neg c26, if_neg c37, if_neg c49, if_neg c61, if_pos c76]
                exact hret _ _ _ _ _ _ (by simp only [em]) (by simp only [em]; rw [upd_keep (f := upd F 0 ((mr_M_fail 3).2)) (j := 3) (x := F 3) rfl, upd_keep (f := upd F 0 ((mr_M_fail 3).2)) (j := 26) (x := F 26) rfl, vup_keep (f := G) (j := 7) (x := G 7) rfl, vup_keep (f := G) (j := 8) (x := G 8) rfl, vup_keep (f := G) (j := 9) (x := G 9) rfl, vup_keep (f := G) (j := 10) (x := G 10) rfl, vup_keep (f := G) (j := 11) (x := G 11) rfl, vup_keep (f := G) (j := 12) (x := G 12) rfl]) hP hD hS dM_term_84
            · refine lv_aload_n hx hb dM_term_64 rfl (lv_at hl 0 rfl) ?_
              refine lv_iconst (v := 2) hx hb dM_term_65 (by decide) ?_
              refine ww_callV (r := (some (.int ((mr_M_fail 2).1)))) (w' := mW a ba ka (upd (upd F 0 0) 0 ((mr_M_fail 2).2)) G) (As := [.int 2]) (rest := []) Sx (c_M_fail l D cl hcl a ba ka (upd F 0 0) G hP (hD.weaken (fun _ _ _ _ => trivial)) 2) (cwV 1 hts gM_term_M_fail rfl rfl rfl (by decide +kernel) ⟨Nat.le_of_ble_eq_true rfl, Nat.le_of_ble_eq_true rfl⟩) hK (va_recv hK hP (ci := 0) (q0 := 0) hcl rfl) rfl hl.1 rfl (Nat.le_of_ble_eq_true rfl) dM_term_66 ⟨Nat.zero_le _, Nat.zero_le _⟩ hD hS hA (fun H locs hP hD hS => ?_)
              rw [upd_ow] at hP hD
              have em : mr_M_term (F 3) (F 26) (G 6) (G 7) (G 8) (G 9) (G 10) (G 11) (G 12) nC nT nu ta va tb vb w = ((mr_M_fail 2).1, (mr_M_fail 2).2, F 3, F 26, G 7, G 8, G 9, G 10, G 11, G 12) := by rw [mr_M_term, if_neg c11, if_neg c20, if_neg c26, if_neg c37, if_neg c49, if_pos c61]
              exact hret _ _ _ _ _ _ (by simp only [em]) (by simp only [em]; rw [upd_keep (f := upd F 0 ((mr_M_fail 2).2)) (j := 3) (x := F 3) rfl, upd_keep (f := upd F 0 ((mr_M_fail 2).2)) (j := 26) (x := F 26) rfl, vup_keep (f := G) (j := 7) (x := G 7) rfl, vup_keep (f := G) (j := 8) (x := G 8) rfl, vup_keep (f := G) (j := 9) (x := G 9) rfl, vup_keep (f := G) (j := 10) (x := G 10) rfl, vup_keep (f := G) (j := 11) (x := G 11) rfl, vup_keep (f := G) (j := 12) (x := G 12) rfl]) hP hD hS dM_term_69
        · refine lv_aload_n hx hb dM_term_40 rfl (lv_at hl 0 rfl) ?_
          refine lv_iconst (v := 1) hx hb dM_term_41 (by decide) ?_
          refine ww_callV (r := (some (.int ((mr_M_fail 1).1)))) (w' := mW a ba ka (upd (upd F 0 0) 0 ((mr_M_fail 1).2)) G) (As := [.int 1]) (rest := []) Sx (c_M_fail l D cl hcl a ba ka (upd F 0 0) G hP (hD.weaken (fun _ _ _ _ => trivial)) 1) (cwV 1 hts gM_term_M_fail rfl rfl rfl (by decide +kernel) ⟨Nat.le_of_ble_eq_true rfl, Nat.le_of_ble_eq_true rfl⟩) hK (va_recv hK hP (ci := 0) (q0 := 0) hcl rfl) rfl hl.1 rfl (Nat.le_of_ble_eq_true rfl) dM_term_42 ⟨Nat.zero_le _, Nat.zero_le _⟩ hD hS hA (fun H locs hP hD hS => ?_)
          rw [upd_ow] at hP hD
          have em : mr_M_term (F 3) (F 26) (G 6) (G 7) (G 8) (G 9) (G 10) (G 11) (G 12) nC nT nu ta va tb vb w = ((mr_M_fail 1).1, (mr_M_fail 1).2, F 3, F 26, G 7, G 8, G 9, G 10, G 11, G 12) := by rw [mr_M_term, if_neg c11, if_neg c20, if_neg c26, if_pos c37]
          exact hret _ _ _ _ _ _ (by simp only [em]) (by simp only [em]; rw [upd_keep (f := upd F 0 ((mr_M_fail 1).2)) (j := 3) (x := F 3) rfl, upd_keep (f := upd F 0 ((mr_M_fail 1).2)) (j := 26) (x := F 26) rfl, vup_keep (f := G) (j := 7) (x := G 7) rfl, vup_keep (f := G) (j := 8) (x := G 8) rfl, vup_keep (f := G) (j := 9) (x := G 9) rfl, vup_keep (f := G) (j := 10) (x := G 10) rfl, vup_keep (f := G) (j := 11) (x := G 11) rfl, vup_keep (f := G) (j := 12) (x := G 12) rfl]) hP hD hS dM_term_45
def mr_M_rule (f4 : Int32) (f26 : Int32) (g6 : Nat → Int32) (g13 : Nat → Int32) (g14 : Nat → Int32) (g15 : Nat → Int32) (g16 : Nat → Int32) (nC : Nat) (nR : Nat) (ra : Int32) (va : Int32) (rb : Int32) (vb : Int32) : Int32 × Int32 × Int32 × Int32 × (Nat → Int32) × (Nat → Int32) × (Nat → Int32) × (Nat → Int32) := (if (mr_M_isValue g6 nC ra va) = 0 then ((mr_M_fail 1).1, (mr_M_fail 1).2, f4, f26, g13, g14, g15, g16) else (if (mr_M_isValue g6 nC rb vb) = 0 then ((mr_M_fail 1).1, (mr_M_fail 1).2, f4, f26, g13, g14, g15, g16) else (if ra = rb then ((mr_M_fail 2).1, (mr_M_fail 2).2, f4, f26, g13, g14, g15, g16) else (if (nI nR) = 40 then ((mr_M_fail 3).1, (mr_M_fail 3).2, f4, f26, g13, g14, g15, g16) else (nI (nR + 1), 0, nI (nR + 1), 0, upd g13 nR ra, upd g14 nR va, upd g15 nR rb, upd g16 nR vb)))))
set_option maxHeartbeats 4000000 in
set_option maxRecDepth 100000 in
theorem c_M_rule (l : Launch) (D : va_G) (cl : List vw_C) (hcl : cl[0]? = some (RM, TM, 29)) (a : Nat) (ba : Nat → Nat) (ka : Nat → ClassId) (F : Nat → Int32) (G : Nat → Nat → Int32) {H0 : Heap} (hP : va_P D cl (mW a ba ka F G) H0) (hD : va_D (fun _ => True) (mW a ba ka F G)) (nC : Nat) (nR : Nat) (ra : Int32) (va : Int32) (rb : Int32) (vb : Int32) (h2 : F 2 = nI nC) (hC : nC ≤ 8) (h4 : F 4 = nI nR) (hR : nR ≤ 40) : ww_Met l yM_rule wsM_rule ({ frames := 2, cells := 0, slots := 0, locals := 44 } : Room) D cl (mT ka) H0 [.ref a, .int ra, .int va, .int rb, .int vb] (mW a ba ka F G) (some (.int ((mr_M_rule (F 4) (F 26) (G 6) (G 13) (G 14) (G 15) (G 16) nC nR ra va rb vb).1))) (mW a ba ka (upd (upd (upd F 0 ((mr_M_rule (F 4) (F 26) (G 6) (G 13) (G 14) (G 15) (G 16) nC nR ra va rb vb).2.1)) 4 ((mr_M_rule (F 4) (F 26) (G 6) (G 13) (G 14) (G 15) (G 16) nC nR ra va rb vb).2.2.1)) 26 ((mr_M_rule (F 4) (F 26) (G 6) (G 13) (G 14) (G 15) (G 16) nC nR ra va rb vb).2.2.2.1)) (va_up (va_up (va_up (va_up G 13 ((mr_M_rule (F 4) (F 26) (G 6) (G 13) (G 14) (G 15) (G 16) nC nR ra va rb vb).2.2.2.2.1)) 14 ((mr_M_rule (F 4) (F 26) (G 6) (G 13) (G 14) (G 15) (G 16) nC nR ra va rb vb).2.2.2.2.2.1)) 15 ((mr_M_rule (F 4) (F 26) (G 6) (G 13) (G 14) (G 15) (G 16) nC nR ra va rb vb).2.2.2.2.2.2.1)) 16 ((mr_M_rule (F 4) (F 26) (G 6) (G 13) (G 14) (G 15) (G 16) nC nR ra va rb vb).2.2.2.2.2.2.2))) := by
  refine ww_metI (by decide) rfl (Nat.le_of_ble_eq_true rfl) hP hD ?_
  intro p e s m args below meth c Q A Sx hK hP hD hS hA ls hl hret
  obtain ⟨hx, hb, hml, hown, hts⟩ := id Sx
  have hl : lv_has ls 5 [(0, .ref a), (1, .int ra), (2, .int va), (3, .int rb), (4, .int vb)] := hl
  obtain ⟨H, eH⟩ : ∃ H : Heap, H = H0 := ⟨_, rfl⟩
  obtain ⟨locs, eL⟩ : ∃ L : List Loc, L = [] := ⟨_, rfl⟩
  have hP : va_P D cl (mW a ba ka F G) H := by rw [eH]; exact hP
  have hS : va_S A H0 H locs := by rw [eH, eL]; exact hS
  rw [show W p l e ({ frames := 2, cells := 0, slots := 0, locals := 44 } : Room) s m args below meth c H0 [] 0 0 Q (F0 m 0 ls []) = W p l e ({ frames := 2, cells := 0, slots := 0, locals := 44 } : Room) s m args below meth c H locs 0 0 Q (F0 m 0 ls []) by rw [eH, eL]]
  clear eH eL
  have f70 := hts _ (List.mem_cons_of_mem _ mfM_70)
  have inM_ : ∀ w ∈ wsM0, w ∈ wsM_rule := fun w h => List.mem_cons_of_mem _ (inM_all w h)
  have f103 := hts _ (List.mem_cons_of_mem _ mfM_103)
  have f35 := hts _ (List.mem_cons_of_mem _ mfM_35)
  have f38 := hts _ (List.mem_cons_of_mem _ mfM_38)
  have f41 := hts _ (List.mem_cons_of_mem _ mfM_41)
  have f44 := hts _ (List.mem_cons_of_mem _ mfM_44)
  have f90 := hts _ (List.mem_cons_of_mem _ mfM_90)
  refine lv_aload_n hx hb dM_rule_0 rfl (lv_at hl 0 rfl) ?_
  refine lv_iconst (v := 0) hx hb dM_rule_1 (by decide) ?_
  refine va_put (D := D) (ci := 0) (fs := mWl0 ba F) (v := .int 0) (ty := .int) (C := RM) (T := TM) (N := 29) hx hb hts inM_ tyM tyM_ok nmM hown hK hP hD hS 0 rfl hcl 0 (by decide) f70 (fun _ h9 => h9) rfl (by decide +kernel) rfl rfl (Nat.le_of_ble_eq_true rfl) dM_rule_2 (fun H locs hP hD hS => ?_)
  rw [mW_f0] at hP hD
  refine lv_aload_n hx hb dM_rule_5 rfl (lv_at hl 0 rfl) ?_
  refine lv_iload_n hx hb dM_rule_6 rfl (lv_at hl 1 rfl) ?_
  refine lv_iload_n hx hb dM_rule_7 rfl (lv_at hl 2 rfl) ?_
  refine ro_callV (r := (.int (mr_M_isValue (G 6) nC ra va))) (As := [.int ra, .int va]) (rest := []) Sx (c_M_isValue l D cl hcl a ba ka (upd F 0 0) G hP nC ra va h2 hC) (cwV 2 hts gM_rule_M_isValue rfl rfl rfl (by decide +kernel) ⟨Nat.le_of_ble_eq_true rfl, Nat.le_of_ble_eq_true rfl⟩) hK (va_recv hK hP (ci := 0) (q0 := 0) hcl rfl) rfl hl.1 rfl (Nat.le_of_ble_eq_true rfl) dM_rule_8 ⟨Nat.zero_le _, Nat.zero_le _⟩ ?_
  refine lv_if_eq (tgt := 24) hx hb dM_rule_11 (by decide) (fun c11 => ?_) (fun c11 => ?_)
  · refine lv_aload_n hx hb dM_rule_24 rfl (lv_at hl 0 rfl) ?_
    refine lv_iconst (v := 1) hx hb dM_rule_25 (by decide) ?_
    refine ww_callV (r := (some (.int ((mr_M_fail 1).1)))) (w' := mW a ba ka (upd (upd F 0 0) 0 ((mr_M_fail 1).2)) G) (As := [.int 1]) (rest := []) Sx (c_M_fail l D cl hcl a ba ka (upd F 0 0) G hP (hD.weaken (fun _ _ _ _ => trivial)) 1) (cwV 1 hts gM_rule_M_fail rfl rfl rfl (by decide +kernel) ⟨Nat.le_of_ble_eq_true rfl, Nat.le_of_ble_eq_true rfl⟩) hK (va_recv hK hP (ci := 0) (q0 := 0) hcl rfl) rfl hl.1 rfl (Nat.le_of_ble_eq_true rfl) dM_rule_26 ⟨Nat.zero_le _, Nat.zero_le _⟩ hD hS hA (fun H locs hP hD hS => ?_)
    rw [upd_ow] at hP hD
    have em : mr_M_rule (F 4) (F 26) (G 6) (G 13) (G 14) (G 15) (G 16) nC nR ra va rb vb = ((mr_M_fail 1).1, (mr_M_fail 1).2, F 4, F 26, G 13, G 14, G 15, G 16) := by rw [mr_M_rule, if_pos c11]
    exact hret _ _ _ _ _ _ (by simp only [em]) (by simp only [em]; rw [upd_keep (f := upd F 0 ((mr_M_fail 1).2)) (j := 4) (x := F 4) rfl, upd_keep (f := upd F 0 ((mr_M_fail 1).2)) (j := 26) (x := F 26) rfl, vup_keep (f := G) (j := 13) (x := G 13) rfl, vup_keep (f := G) (j := 14) (x := G 14) rfl, vup_keep (f := G) (j := 15) (x := G 15) rfl, vup_keep (f := G) (j := 16) (x := G 16) rfl]) hP hD hS dM_rule_29
  · refine lv_aload_n hx hb dM_rule_14 rfl (lv_at hl 0 rfl) ?_
    refine lv_iload_n hx hb dM_rule_15 rfl (lv_at hl 3 rfl) ?_
    refine lv_iload hx hb dM_rule_16 (lv_at hl 4 rfl) ?_
    refine ro_callV (r := (.int (mr_M_isValue (G 6) nC rb vb))) (As := [.int rb, .int vb]) (rest := []) Sx (c_M_isValue l D cl hcl a ba ka (upd F 0 0) G hP nC rb vb h2 hC) (cwV 2 hts gM_rule_M_isValue rfl rfl rfl (by decide +kernel) ⟨Nat.le_of_ble_eq_true rfl, Nat.le_of_ble_eq_true rfl⟩) hK (va_recv hK hP (ci := 0) (q0 := 0) hcl rfl) rfl hl.1 rfl (Nat.le_of_ble_eq_true rfl) dM_rule_18 ⟨Nat.zero_le _, Nat.zero_le _⟩ ?_
    refine lv_if_ne (tgt := 30) hx hb dM_rule_21 (by decide) (fun c21 => ?_) (fun c21 => ?_)
    · refine lv_iload_n hx hb dM_rule_30 rfl (lv_at hl 1 rfl) ?_
      refine lv_iload_n hx hb dM_rule_31 rfl (lv_at hl 3 rfl) ?_
      refine lv_icmp_ne (tgt := 41) hx hb dM_rule_32 (by decide) (fun c32 => ?_) (fun c32 => ?_)
      · refine lv_aload_n hx hb dM_rule_41 rfl (lv_at hl 0 rfl) ?_
        refine va_get (D := D) (ci := 0) (v := .int (F 4)) (C := RM) (T := TM) (N := 29) hx hb hts inM_ hown hK hP 0 rfl hcl 4 (by decide) f103 (fun _ h9 => h9) rfl dM_rule_42 ?_
        refine wt_i h4 ?_
        refine lv_bipush (v := 40) hx hb dM_rule_45 (by decide) ?_
        refine lv_icmp_ne (tgt := 56) hx hb dM_rule_47 (by decide) (fun c47 => ?_) (fun c47 => ?_)
        · have n47 : ¬ nR = 40 := fun h9 => c47 ((nI_eq (a := nR) (b := 40) (by omega) (by omega)).mpr h9)
          refine lv_aload_n hx hb dM_rule_56 rfl (lv_at hl 0 rfl) ?_
          refine va_get (D := D) (ci := 0) (v := .ref (ba 13)) (C := RM) (T := TM) (N := 29) hx hb hts inM_ hown hK hP 0 rfl hcl 13 (by decide) f35 (fun _ h9 => h9) rfl dM_rule_57 ?_
          refine lv_aload_n hx hb dM_rule_60 rfl (lv_at hl 0 rfl) ?_
          refine va_get (D := D) (ci := 0) (v := .int (F 4)) (C := RM) (T := TM) (N := 29) hx hb hts inM_ hown hK hP 0 rfl hcl 4 (by decide) f103 (fun _ h9 => h9) rfl dM_rule_61 ?_
          refine wt_i h4 ?_
          refine lv_iload_n hx hb dM_rule_64 rfl (lv_at hl 1 rfl) ?_
          have sd65 : nR < 40 := by omega
          refine wn_iast (f := G 13) hx hb hK hP hD hS 8 7 rfl rfl nR rfl sd65 (by decide) dM_rule_65 (fun H locs hP hD hS => ?_)
          rw [mW_g13] at hP hD
          refine lv_aload_n hx hb dM_rule_66 rfl (lv_at hl 0 rfl) ?_
          refine va_get (D := D) (ci := 0) (v := .ref (ba 14)) (C := RM) (T := TM) (N := 29) hx hb hts inM_ hown hK hP 0 rfl hcl 14 (by decide) f38 (fun _ h9 => h9) rfl dM_rule_67 ?_
          refine lv_aload_n hx hb dM_rule_70 rfl (lv_at hl 0 rfl) ?_
          refine va_get (D := D) (ci := 0) (v := .int (F 4)) (C := RM) (T := TM) (N := 29) hx hb hts inM_ hown hK hP 0 rfl hcl 4 (by decide) f103 (fun _ h9 => h9) rfl dM_rule_71 ?_
          refine wt_i h4 ?_
          refine lv_iload_n hx hb dM_rule_74 rfl (lv_at hl 2 rfl) ?_
          have sd75 : nR < 40 := by omega
          refine wn_iast (f := G 14) hx hb hK hP hD hS 9 8 rfl rfl nR rfl sd75 (by decide) dM_rule_75 (fun H locs hP hD hS => ?_)
          rw [mW_g14] at hP hD
          refine lv_aload_n hx hb dM_rule_76 rfl (lv_at hl 0 rfl) ?_
          refine va_get (D := D) (ci := 0) (v := .ref (ba 15)) (C := RM) (T := TM) (N := 29) hx hb hts inM_ hown hK hP 0 rfl hcl 15 (by decide) f41 (fun _ h9 => h9) rfl dM_rule_77 ?_
          refine lv_aload_n hx hb dM_rule_80 rfl (lv_at hl 0 rfl) ?_
          refine va_get (D := D) (ci := 0) (v := .int (F 4)) (C := RM) (T := TM) (N := 29) hx hb hts inM_ hown hK hP 0 rfl hcl 4 (by decide) f103 (fun _ h9 => h9) rfl dM_rule_81 ?_
          refine wt_i h4 ?_
          refine lv_iload_n hx hb dM_rule_84 rfl (lv_at hl 3 rfl) ?_
          have sd85 : nR < 40 := by omega
          refine wn_iast (f := G 15) hx hb hK hP hD hS 10 9 rfl rfl nR rfl sd85 (by decide) dM_rule_85 (fun H locs hP hD hS => ?_)
          rw [mW_g15] at hP hD
          refine lv_aload_n hx hb dM_rule_86 rfl (lv_at hl 0 rfl) ?_
          refine va_get (D := D) (ci := 0) (v := .ref (ba 16)) (C := RM) (T := TM) (N := 29) hx hb hts inM_ hown hK hP 0 rfl hcl 16 (by decide) f44 (fun _ h9 => h9) rfl dM_rule_87 ?_
          refine lv_aload_n hx hb dM_rule_90 rfl (lv_at hl 0 rfl) ?_
          refine va_get (D := D) (ci := 0) (v := .int (F 4)) (C := RM) (T := TM) (N := 29) hx hb hts inM_ hown hK hP 0 rfl hcl 4 (by decide) f103 (fun _ h9 => h9) rfl dM_rule_91 ?_
          refine wt_i h4 ?_
          refine lv_iload hx hb dM_rule_94 (lv_at hl 4 rfl) ?_
          have sd96 : nR < 40 := by omega
          refine wn_iast (f := G 16) hx hb hK hP hD hS 11 10 rfl rfl nR rfl sd96 (by decide) dM_rule_96 (fun H locs hP hD hS => ?_)
          rw [mW_g16] at hP hD
          refine lv_aload_n hx hb dM_rule_97 rfl (lv_at hl 0 rfl) ?_
          refine lv_dup hx hb dM_rule_98 rfl ?_
          refine va_get (D := D) (ci := 0) (v := .int (F 4)) (C := RM) (T := TM) (N := 29) hx hb hts inM_ hown hK hP 0 rfl hcl 4 (by decide) f103 (fun _ h9 => h9) rfl dM_rule_99 ?_
          refine wt_i h4 ?_
          refine lv_iconst (v := 1) hx hb dM_rule_102 (by decide) ?_
          refine lv_iadd hx hb dM_rule_103 ?_
          refine wt_i (r := nI (nR + 1)) (by exact nI_add nR 1) ?_
          refine va_put (D := D) (ci := 0) (fs := mWl0 ba (upd F 0 0)) (v := .int (nI (nR + 1))) (ty := .int) (C := RM) (T := TM) (N := 29) hx hb hts inM_ tyM tyM_ok nmM hown hK hP hD hS 0 rfl hcl 4 (by decide) f103 (fun _ h9 => h9) rfl (by decide +kernel) rfl rfl (Nat.le_of_ble_eq_true rfl) dM_rule_104 (fun H locs hP hD hS => ?_)
          rw [mW_f4] at hP hD
          refine lv_aload_n hx hb dM_rule_107 rfl (lv_at hl 0 rfl) ?_
          refine lv_iconst (v := 0) hx hb dM_rule_108 (by decide) ?_
          refine va_put (D := D) (ci := 0) (fs := mWl0 ba (upd (upd F 0 0) 4 (nI (nR + 1)))) (v := .int 0) (ty := .boolean) (C := RM) (T := TM) (N := 29) hx hb hts inM_ tyM tyM_ok nmM hown hK hP hD hS 0 rfl hcl 26 (by decide) f90 (fun _ h9 => h9) rfl (by decide +kernel) (by first | rfl | assumption) rfl (Nat.le_of_ble_eq_true rfl) dM_rule_109 (fun H locs hP hD hS => ?_)
          rw [mW_f26] at hP hD
          refine lv_aload_n hx hb dM_rule_112 rfl (lv_at hl 0 rfl) ?_
          have ef113 : (upd (upd (upd F 0 0) 4 (nI (nR + 1))) 26 0) 4 = nI (nR + 1) := by rw [pk_un (k := 26) (j := 4) (by decide), pk_us]
          refine va_get (D := D) (ci := 0) (v := .int (nI (nR + 1))) (C := RM) (T := TM) (N := 29) hx hb hts inM_ hown hK hP 0 rfl hcl 4 (by decide) f103 (fun _ h9 => h9) (congrArg (fun z => some (Value.int z)) ef113) dM_rule_113 ?_
          have em : mr_M_rule (F 4) (F 26) (G 6) (G 13) (G 14) (G 15) (G 16) nC nR ra va rb vb = (nI (nR + 1), 0, nI (nR + 1), 0, upd (G 13) nR ra, upd (G 14) nR va, upd (G 15) nR rb, upd (G 16) nR vb) := by rw [mr_M_rule, if_neg c11, if_neg c21, if_neg c32, if_neg c47]
          exact hret _ _ _ _ _ _ (by simp only [em]) (by simp only [em]) hP hD hS dM_rule_116
        · have n47 : nR = 40 := (nI_eq (a := nR) (b := 40) (by omega) (by omega)).mp c47
          refine lv_aload_n hx hb dM_rule_50 rfl (lv_at hl 0 rfl) ?_
          refine lv_iconst (v := 3) hx hb dM_rule_51 (by decide) ?_
          refine ww_callV (r := (some (.int ((mr_M_fail 3).1)))) (w' := mW a ba ka (upd (upd F 0 0) 0 ((mr_M_fail 3).2)) G) (As := [.int 3]) (rest := []) Sx (c_M_fail l D cl hcl a ba ka (upd F 0 0) G hP (hD.weaken (fun _ _ _ _ => trivial)) 3) (cwV 1 hts gM_rule_M_fail rfl rfl rfl (by decide +kernel) ⟨Nat.le_of_ble_eq_true rfl, Nat.le_of_ble_eq_true rfl⟩) hK (va_recv hK hP (ci := 0) (q0 := 0) hcl rfl) rfl hl.1 rfl (Nat.le_of_ble_eq_true rfl) dM_rule_52 ⟨Nat.zero_le _, Nat.zero_le _⟩ hD hS hA (fun H locs hP hD hS => ?_)
          rw [upd_ow] at hP hD
          have em : mr_M_rule (F 4) (F 26) (G 6) (G 13) (G 14) (G 15) (G 16) nC nR ra va rb vb = ((mr_M_fail 3).1, (mr_M_fail 3).2, F 4, F 26, G 13, G 14, G 15, G 16) := by rw [mr_M_rule, if_neg c11, if_neg c21, if_neg c32, if_pos c47]
          exact hret _ _ _ _ _ _ (by simp only [em]) (by simp only [em]; rw [upd_keep (f := upd F 0 ((mr_M_fail 3).2)) (j := 4) (x := F 4) rfl, upd_keep (f := upd F 0 ((mr_M_fail 3).2)) (j := 26) (x := F 26) rfl, vup_keep (f := G) (j := 13) (x := G 13) rfl, vup_keep (f := G) (j := 14) (x := G 14) rfl, vup_keep (f := G) (j := 15) (x := G 15) rfl, vup_keep (f := G) (j := 16) (x := G 16) rfl]) hP hD hS dM_rule_55
      · refine lv_aload_n hx hb dM_rule_35 rfl (lv_at hl 0 rfl) ?_
        refine lv_iconst (v := 2) hx hb dM_rule_36 (by decide) ?_
        refine ww_callV (r := (some (.int ((mr_M_fail 2).1)))) (w' := mW a ba ka (upd (upd F 0 0) 0 ((mr_M_fail 2).2)) G) (As := [.int 2]) (rest := []) Sx (c_M_fail l D cl hcl a ba ka (upd F 0 0) G hP (hD.weaken (fun _ _ _ _ => trivial)) 2) (cwV 1 hts gM_rule_M_fail rfl rfl rfl (by decide +kernel) ⟨Nat.le_of_ble_eq_true rfl, Nat.le_of_ble_eq_true rfl⟩) hK (va_recv hK hP (ci := 0) (q0 := 0) hcl rfl) rfl hl.1 rfl (Nat.le_of_ble_eq_true rfl) dM_rule_37 ⟨Nat.zero_le _, Nat.zero_le _⟩ hD hS hA (fun H locs hP hD hS => ?_)
        rw [upd_ow] at hP hD
        have em : mr_M_rule (F 4) (F 26) (G 6) (G 13) (G 14) (G 15) (G 16) nC nR ra va rb vb = ((mr_M_fail 2).1, (mr_M_fail 2).2, F 4, F 26, G 13, G 14, G 15, G 16) := by rw [mr_M_rule, if_neg c11, if_neg c21, if_pos c32]
        exact hret _ _ _ _ _ _ (by simp only [em]) (by simp only [em]; rw [upd_keep (f := upd F 0 ((mr_M_fail 2).2)) (j := 4) (x := F 4) rfl, upd_keep (f := upd F 0 ((mr_M_fail 2).2)) (j := 26) (x := F 26) rfl, vup_keep (f := G) (j := 13) (x := G 13) rfl, vup_keep (f := G) (j := 14) (x := G 14) rfl, vup_keep (f := G) (j := 15) (x := G 15) rfl, vup_keep (f := G) (j := 16) (x := G 16) rfl]) hP hD hS dM_rule_40
    · refine lv_aload_n hx hb dM_rule_24 rfl (lv_at hl 0 rfl) ?_
      refine lv_iconst (v := 1) hx hb dM_rule_25 (by decide) ?_
      refine ww_callV (r := (some (.int ((mr_M_fail 1).1)))) (w' := mW a ba ka (upd (upd F 0 0) 0 ((mr_M_fail 1).2)) G) (As := [.int 1]) (rest := []) Sx (c_M_fail l D cl hcl a ba ka (upd F 0 0) G hP (hD.weaken (fun _ _ _ _ => trivial)) 1) (cwV 1 hts gM_rule_M_fail rfl rfl rfl (by decide +kernel) ⟨Nat.le_of_ble_eq_true rfl, Nat.le_of_ble_eq_true rfl⟩) hK (va_recv hK hP (ci := 0) (q0 := 0) hcl rfl) rfl hl.1 rfl (Nat.le_of_ble_eq_true rfl) dM_rule_26 ⟨Nat.zero_le _, Nat.zero_le _⟩ hD hS hA (fun H locs hP hD hS => ?_)
      rw [upd_ow] at hP hD
      have em : mr_M_rule (F 4) (F 26) (G 6) (G 13) (G 14) (G 15) (G 16) nC nR ra va rb vb = ((mr_M_fail 1).1, (mr_M_fail 1).2, F 4, F 26, G 13, G 14, G 15, G 16) := by rw [mr_M_rule, if_neg c11, if_pos c21]
      exact hret _ _ _ _ _ _ (by simp only [em]) (by simp only [em]; rw [upd_keep (f := upd F 0 ((mr_M_fail 1).2)) (j := 4) (x := F 4) rfl, upd_keep (f := upd F 0 ((mr_M_fail 1).2)) (j := 26) (x := F 26) rfl, vup_keep (f := G) (j := 13) (x := G 13) rfl, vup_keep (f := G) (j := 14) (x := G 14) rfl, vup_keep (f := G) (j := 15) (x := G 15) rfl, vup_keep (f := G) (j := 16) (x := G 16) rfl]) hP hD hS dM_rule_29
def mr_M_number (f26 : Int32) (g6 : Nat → Int32) (g7 : Nat → Int32) (g8 : Nat → Int32) (g9 : Nat → Int32) (g10 : Nat → Int32) (g11 : Nat → Int32) (g12 : Nat → Int32) (g13 : Nat → Int32) (g14 : Nat → Int32) (g15 : Nat → Int32) (g16 : Nat → Int32) (g17 : Nat → Int32) (g18 : Nat → Int32) (g19 : Nat → Int32) (g27 : Nat → Int32) (g28 : Nat → Int32) (nC : Nat) (nT : Nat) (nR : Nat) (nD : Nat) (d : Int32) (nu : Int32) : Int32 × Int32 × Int32 × (Nat → Int32) × (Nat → Int32) × (Nat → Int32) := (if (mr_M_isDesign nD d) = 0 then ((mr_M_fail 1).1, (mr_M_fail 1).2, f26, g19, g27, g28) else (if (mr_M_within nu 0 3) = 0 then ((mr_M_fail 1).1, (mr_M_fail 1).2, f26, g19, g27, g28) else (((mr_M_know f26 g6 g7 g8 g9 g10 g11 g12 g13 g14 g15 g16 g17 g18 g19 g27 g28 nC nT nR nD).2.2.2) ((4 * d.toNatClampNeg) + nu.toNatClampNeg), 0, (mr_M_know f26 g6 g7 g8 g9 g10 g11 g12 g13 g14 g15 g16 g17 g18 g19 g27 g28 nC nT nR nD).1, (mr_M_know f26 g6 g7 g8 g9 g10 g11 g12 g13 g14 g15 g16 g17 g18 g19 g27 g28 nC nT nR nD).2.1, (mr_M_know f26 g6 g7 g8 g9 g10 g11 g12 g13 g14 g15 g16 g17 g18 g19 g27 g28 nC nT nR nD).2.2.1, (mr_M_know f26 g6 g7 g8 g9 g10 g11 g12 g13 g14 g15 g16 g17 g18 g19 g27 g28 nC nT nR nD).2.2.2)))
set_option maxHeartbeats 4000000 in
set_option maxRecDepth 100000 in
theorem c_M_number (l : Launch) (D : va_G) (cl : List vw_C) (hcl : cl[0]? = some (RM, TM, 29)) (a : Nat) (ba : Nat → Nat) (ka : Nat → ClassId) (F : Nat → Int32) (G : Nat → Nat → Int32) {H0 : Heap} (hP : va_P D cl (mW a ba ka F G) H0) (hD : va_D (fun _ => True) (mW a ba ka F G)) (nC : Nat) (nT : Nat) (nR : Nat) (nD : Nat) (d : Int32) (nu : Int32) (h2 : F 2 = nI nC) (hC : nC ≤ 8) (h3 : F 3 = nI nT) (hT : nT ≤ 100) (h4 : F 4 = nI nR) (hR : nR ≤ 40) (h5 : F 5 = nI nD) (hN : nD ≤ 4096) (h6 : ∀ c, c < nC → ∃ z : Nat, G 6 c = nI z ∧ 2 ≤ z ∧ z ≤ 6) (h8 : ∀ t, t < nT → ∃ x : Nat, x < nC ∧ G 8 t = nI x) (h10 : ∀ t, t < nT → G 10 t = -1 ∨ ∃ x : Nat, x < nC ∧ G 10 t = nI x) (h13 : ∀ j, j < nR → ∃ x : Nat, x < nC ∧ G 13 j = nI x) (h15 : ∀ j, j < nR → ∃ x : Nat, x < nC ∧ G 15 j = nI x) : ww_Met l yM_number wsM_number ({ frames := 4, cells := 0, slots := 0, locals := 92 } : Room) D cl (mT ka) H0 [.ref a, .int d, .int nu] (mW a ba ka F G) (some (.int ((mr_M_number (F 26) (G 6) (G 7) (G 8) (G 9) (G 10) (G 11) (G 12) (G 13) (G 14) (G 15) (G 16) (G 17) (G 18) (G 19) (G 27) (G 28) nC nT nR nD d nu).1))) (mW a ba ka (upd (upd F 0 ((mr_M_number (F 26) (G 6) (G 7) (G 8) (G 9) (G 10) (G 11) (G 12) (G 13) (G 14) (G 15) (G 16) (G 17) (G 18) (G 19) (G 27) (G 28) nC nT nR nD d nu).2.1)) 26 ((mr_M_number (F 26) (G 6) (G 7) (G 8) (G 9) (G 10) (G 11) (G 12) (G 13) (G 14) (G 15) (G 16) (G 17) (G 18) (G 19) (G 27) (G 28) nC nT nR nD d nu).2.2.1)) (va_up (va_up (va_up G 19 ((mr_M_number (F 26) (G 6) (G 7) (G 8) (G 9) (G 10) (G 11) (G 12) (G 13) (G 14) (G 15) (G 16) (G 17) (G 18) (G 19) (G 27) (G 28) nC nT nR nD d nu).2.2.2.1)) 27 ((mr_M_number (F 26) (G 6) (G 7) (G 8) (G 9) (G 10) (G 11) (G 12) (G 13) (G 14) (G 15) (G 16) (G 17) (G 18) (G 19) (G 27) (G 28) nC nT nR nD d nu).2.2.2.2.1)) 28 ((mr_M_number (F 26) (G 6) (G 7) (G 8) (G 9) (G 10) (G 11) (G 12) (G 13) (G 14) (G 15) (G 16) (G 17) (G 18) (G 19) (G 27) (G 28) nC nT nR nD d nu).2.2.2.2.2))) := by
  refine ww_metI (by decide) rfl (Nat.le_of_ble_eq_true rfl) hP hD ?_
  intro p e s m args below meth c Q A Sx hK hP hD hS hA ls hl hret
  obtain ⟨hx, hb, hml, hown, hts⟩ := id Sx
  have hl : lv_has ls 3 [(0, .ref a), (1, .int d), (2, .int nu)] := hl
  obtain ⟨H, eH⟩ : ∃ H : Heap, H = H0 := ⟨_, rfl⟩
  obtain ⟨locs, eL⟩ : ∃ L : List Loc, L = [] := ⟨_, rfl⟩
  have hP : va_P D cl (mW a ba ka F G) H := by rw [eH]; exact hP
  have hS : va_S A H0 H locs := by rw [eH, eL]; exact hS
  rw [show W p l e ({ frames := 4, cells := 0, slots := 0, locals := 92 } : Room) s m args below meth c H0 [] 0 0 Q (F0 m 0 ls []) = W p l e ({ frames := 4, cells := 0, slots := 0, locals := 92 } : Room) s m args below meth c H locs 0 0 Q (F0 m 0 ls []) by rw [eH, eL]]
  clear eH eL
  have f70 := hts _ (List.mem_cons_of_mem _ mfM_70)
  have inM_ : ∀ w ∈ wsM0, w ∈ wsM_number := fun w h => List.mem_cons_of_mem _ (inM_all w h)
  have f63 := hts _ (List.mem_cons_of_mem _ mfM_63)
  refine lv_aload_n hx hb dM_number_0 rfl (lv_at hl 0 rfl) ?_
  refine lv_iconst (v := 0) hx hb dM_number_1 (by decide) ?_
  refine va_put (D := D) (ci := 0) (fs := mWl0 ba F) (v := .int 0) (ty := .int) (C := RM) (T := TM) (N := 29) hx hb hts inM_ tyM tyM_ok nmM hown hK hP hD hS 0 rfl hcl 0 (by decide) f70 (fun _ h9 => h9) rfl (by decide +kernel) rfl rfl (Nat.le_of_ble_eq_true rfl) dM_number_2 (fun H locs hP hD hS => ?_)
  rw [mW_f0] at hP hD
  refine lv_aload_n hx hb dM_number_5 rfl (lv_at hl 0 rfl) ?_
  refine lv_iload_n hx hb dM_number_6 rfl (lv_at hl 1 rfl) ?_
  refine ro_callV (r := (.int (mr_M_isDesign nD d))) (As := [.int d]) (rest := []) Sx (c_M_isDesign l D cl hcl a ba ka (upd F 0 0) G hP nD d h5) (cwV 1 hts gM_number_M_isDesign rfl rfl rfl (by decide +kernel) ⟨Nat.le_of_ble_eq_true rfl, Nat.le_of_ble_eq_true rfl⟩) hK (va_recv hK hP (ci := 0) (q0 := 0) hcl rfl) rfl hl.1 rfl (Nat.le_of_ble_eq_true rfl) dM_number_7 ⟨Nat.zero_le _, Nat.zero_le _⟩ ?_
  refine lv_if_eq (tgt := 22) hx hb dM_number_10 (by decide) (fun c10 => ?_) (fun c10 => ?_)
  · refine lv_aload_n hx hb dM_number_22 rfl (lv_at hl 0 rfl) ?_
    refine lv_iconst (v := 1) hx hb dM_number_23 (by decide) ?_
    refine ww_callV (r := (some (.int ((mr_M_fail 1).1)))) (w' := mW a ba ka (upd (upd F 0 0) 0 ((mr_M_fail 1).2)) G) (As := [.int 1]) (rest := []) Sx (c_M_fail l D cl hcl a ba ka (upd F 0 0) G hP (hD.weaken (fun _ _ _ _ => trivial)) 1) (cwV 1 hts gM_number_M_fail rfl rfl rfl (by decide +kernel) ⟨Nat.le_of_ble_eq_true rfl, Nat.le_of_ble_eq_true rfl⟩) hK (va_recv hK hP (ci := 0) (q0 := 0) hcl rfl) rfl hl.1 rfl (Nat.le_of_ble_eq_true rfl) dM_number_24 ⟨Nat.zero_le _, Nat.zero_le _⟩ hD hS hA (fun H locs hP hD hS => ?_)
    rw [upd_ow] at hP hD
    have em : mr_M_number (F 26) (G 6) (G 7) (G 8) (G 9) (G 10) (G 11) (G 12) (G 13) (G 14) (G 15) (G 16) (G 17) (G 18) (G 19) (G 27) (G 28) nC nT nR nD d nu = ((mr_M_fail 1).1, (mr_M_fail 1).2, F 26, G 19, G 27, G 28) := by rw [mr_M_number, if_pos c10]
    exact hret _ _ _ _ _ _ (by simp only [em]) (by simp only [em]; rw [upd_keep (f := upd F 0 ((mr_M_fail 1).2)) (j := 26) (x := F 26) rfl, vup_keep (f := G) (j := 19) (x := G 19) rfl, vup_keep (f := G) (j := 27) (x := G 27) rfl, vup_keep (f := G) (j := 28) (x := G 28) rfl]) hP hD hS dM_number_27
  · have xd := ix_cl (wd_ix c10 hN) (by omega)
    refine lv_iload_n hx hb dM_number_13 rfl (lv_at hl 2 rfl) ?_
    refine lv_iconst (v := 0) hx hb dM_number_14 (by decide) ?_
    refine lv_iconst (v := 3) hx hb dM_number_15 (by decide) ?_
    refine ro_callS (r := (.int (mr_M_within nu 0 3))) (As := [.int nu, .int 0, .int 3]) (rest := []) Sx (c_M_within l D cl hcl a ba ka (upd F 0 0) G hP nu 0 3) (va_cwS 3 hts gM_number_M_within rfl rfl rfl (by decide +kernel) ⟨Nat.le_of_ble_eq_true rfl, Nat.le_of_ble_eq_true rfl⟩) hK rfl hl.1 rfl (Nat.le_of_ble_eq_true rfl) dM_number_16 ⟨Nat.zero_le _, Nat.zero_le _⟩ ?_
    refine lv_if_ne (tgt := 28) hx hb dM_number_19 (by decide) (fun c19 => ?_) (fun c19 => ?_)
    · have xn := ix_cl (wi_nx (n := 3) c19 (by decide)) (by omega)
      refine lv_aload_n hx hb dM_number_28 rfl (lv_at hl 0 rfl) ?_
      refine ww_callV (r := none) (w' := mW a ba ka (upd (upd F 0 0) 26 ((mr_M_know (F 26) (G 6) (G 7) (G 8) (G 9) (G 10) (G 11) (G 12) (G 13) (G 14) (G 15) (G 16) (G 17) (G 18) (G 19) (G 27) (G 28) nC nT nR nD).1)) (va_up (va_up (va_up G 19 ((mr_M_know (F 26) (G 6) (G 7) (G 8) (G 9) (G 10) (G 11) (G 12) (G 13) (G 14) (G 15) (G 16) (G 17) (G 18) (G 19) (G 27) (G 28) nC nT nR nD).2.1)) 27 ((mr_M_know (F 26) (G 6) (G 7) (G 8) (G 9) (G 10) (G 11) (G 12) (G 13) (G 14) (G 15) (G 16) (G 17) (G 18) (G 19) (G 27) (G 28) nC nT nR nD).2.2.1)) 28 ((mr_M_know (F 26) (G 6) (G 7) (G 8) (G 9) (G 10) (G 11) (G 12) (G 13) (G 14) (G 15) (G 16) (G 17) (G 18) (G 19) (G 27) (G 28) nC nT nR nD).2.2.2))) (As := []) (rest := []) Sx (c_M_know l D cl hcl a ba ka (upd F 0 0) G hP (hD.weaken (fun _ _ _ _ => trivial)) nC nT nR nD h2 hC h3 hT h4 hR h5 hN h6 h8 h10 h13 h15) (cwV 0 hts gM_number_M_know rfl rfl rfl (by decide +kernel) ⟨Nat.le_of_ble_eq_true rfl, Nat.le_of_ble_eq_true rfl⟩) hK (va_recv hK hP (ci := 0) (q0 := 0) hcl rfl) rfl hl.1 rfl (Nat.le_of_ble_eq_true rfl) dM_number_29 ⟨Nat.zero_le _, Nat.zero_le _⟩ hD hS hA (fun H locs hP hD hS => ?_)
      refine lv_aload_n hx hb dM_number_32 rfl (lv_at hl 0 rfl) ?_
      refine va_get (D := D) (ci := 0) (v := .ref (ba 28)) (C := RM) (T := TM) (N := 29) hx hb hts inM_ hown hK hP 0 rfl hcl 28 (by decide) f63 (fun _ h9 => h9) rfl dM_number_33 ?_
      refine lv_iconst (v := 4) hx hb dM_number_36 (by decide) ?_
      refine lv_iload_n hx hb dM_number_37 rfl (lv_at hl 1 rfl) ?_
      refine wt_i (r := nI d.toNatClampNeg) (by exact xd.1) ?_
      refine lv_imul hx hb dM_number_38 ?_
      refine wt_i (r := nI (4 * d.toNatClampNeg)) (by exact pk_mul 4 d.toNatClampNeg) ?_
      refine lv_iload_n hx hb dM_number_39 rfl (lv_at hl 2 rfl) ?_
      refine wt_i (r := nI nu.toNatClampNeg) (by exact xn.1) ?_
      refine lv_iadd hx hb dM_number_40 ?_
      refine wt_i (r := nI ((4 * d.toNatClampNeg) + nu.toNatClampNeg)) (by exact nI_add (4 * d.toNatClampNeg) nu.toNatClampNeg) ?_
      have sd41 : ((4 * d.toNatClampNeg) + nu.toNatClampNeg) < 16384 := by omega
      have eg41 : (va_up (va_up (va_up G 19 ((mr_M_know (F 26) (G 6) (G 7) (G 8) (G 9) (G 10) (G 11) (G 12) (G 13) (G 14) (G 15) (G 16) (G 17) (G 18) (G 19) (G 27) (G 28) nC nT nR nD).2.1)) 27 ((mr_M_know (F 26) (G 6) (G 7) (G 8) (G 9) (G 10) (G 11) (G 12) (G 13) (G 14) (G 15) (G 16) (G 17) (G 18) (G 19) (G 27) (G 28) nC nT nR nD).2.2.1)) 28 ((mr_M_know (F 26) (G 6) (G 7) (G 8) (G 9) (G 10) (G 11) (G 12) (G 13) (G 14) (G 15) (G 16) (G 17) (G 18) (G 19) (G 27) (G 28) nC nT nR nD).2.2.2)) 28 = (mr_M_know (F 26) (G 6) (G 7) (G 8) (G 9) (G 10) (G 11) (G 12) (G 13) (G 14) (G 15) (G 16) (G 17) (G 18) (G 19) (G 27) (G 28) nC nT nR nD).2.2.2 := by rw [vup_us]
      refine wn_iald (f := (mr_M_know (F 26) (G 6) (G 7) (G 8) (G 9) (G 10) (G 11) (G 12) (G 13) (G 14) (G 15) (G 16) (G 17) (G 18) (G 19) (G 27) (G 28) nC nT nR nD).2.2.2) hx hb hK hP 16 15 (congrArg (fun z : Nat → Int32 => (some ((ba 28), (.inl ((ka 28), 16384, .inl z) : va_E)) : Option (Nat × va_E))) eg41) rfl ((4 * d.toNatClampNeg) + nu.toNatClampNeg) rfl sd41 (by decide) dM_number_41 ?_
      have em : mr_M_number (F 26) (G 6) (G 7) (G 8) (G 9) (G 10) (G 11) (G 12) (G 13) (G 14) (G 15) (G 16) (G 17) (G 18) (G 19) (G 27) (G 28) nC nT nR nD d nu = (((mr_M_know (F 26) (G 6) (G 7) (G 8) (G 9) (G 10) (G 11) (G 12) (G 13) (G 14) (G 15) (G 16) (G 17) (G 18) (G 19) (G 27) (G 28) nC nT nR nD).2.2.2) ((4 * d.toNatClampNeg) + nu.toNatClampNeg), 0, (mr_M_know (F 26) (G 6) (G 7) (G 8) (G 9) (G 10) (G 11) (G 12) (G 13) (G 14) (G 15) (G 16) (G 17) (G 18) (G 19) (G 27) (G 28) nC nT nR nD).1, (mr_M_know (F 26) (G 6) (G 7) (G 8) (G 9) (G 10) (G 11) (G 12) (G 13) (G 14) (G 15) (G 16) (G 17) (G 18) (G 19) (G 27) (G 28) nC nT nR nD).2.1, (mr_M_know (F 26) (G 6) (G 7) (G 8) (G 9) (G 10) (G 11) (G 12) (G 13) (G 14) (G 15) (G 16) (G 17) (G 18) (G 19) (G 27) (G 28) nC nT nR nD).2.2.1, (mr_M_know (F 26) (G 6) (G 7) (G 8) (G 9) (G 10) (G 11) (G 12) (G 13) (G 14) (G 15) (G 16) (G 17) (G 18) (G 19) (G 27) (G 28) nC nT nR nD).2.2.2) := by rw [mr_M_number, if_neg c10, if_neg c19]
      exact hret _ _ _ _ _ _ (by simp only [em]) (by simp only [em]) hP hD hS dM_number_42
    · refine lv_aload_n hx hb dM_number_22 rfl (lv_at hl 0 rfl) ?_
      refine lv_iconst (v := 1) hx hb dM_number_23 (by decide) ?_
      refine ww_callV (r := (some (.int ((mr_M_fail 1).1)))) (w' := mW a ba ka (upd (upd F 0 0) 0 ((mr_M_fail 1).2)) G) (As := [.int 1]) (rest := []) Sx (c_M_fail l D cl hcl a ba ka (upd F 0 0) G hP (hD.weaken (fun _ _ _ _ => trivial)) 1) (cwV 1 hts gM_number_M_fail rfl rfl rfl (by decide +kernel) ⟨Nat.le_of_ble_eq_true rfl, Nat.le_of_ble_eq_true rfl⟩) hK (va_recv hK hP (ci := 0) (q0 := 0) hcl rfl) rfl hl.1 rfl (Nat.le_of_ble_eq_true rfl) dM_number_24 ⟨Nat.zero_le _, Nat.zero_le _⟩ hD hS hA (fun H locs hP hD hS => ?_)
      rw [upd_ow] at hP hD
      have em : mr_M_number (F 26) (G 6) (G 7) (G 8) (G 9) (G 10) (G 11) (G 12) (G 13) (G 14) (G 15) (G 16) (G 17) (G 18) (G 19) (G 27) (G 28) nC nT nR nD d nu = ((mr_M_fail 1).1, (mr_M_fail 1).2, F 26, G 19, G 27, G 28) := by rw [mr_M_number, if_neg c10, if_pos c19]
      exact hret _ _ _ _ _ _ (by simp only [em]) (by simp only [em]; rw [upd_keep (f := upd F 0 ((mr_M_fail 1).2)) (j := 26) (x := F 26) rfl, vup_keep (f := G) (j := 19) (x := G 19) rfl, vup_keep (f := G) (j := 27) (x := G 27) rfl, vup_keep (f := G) (j := 28) (x := G 28) rfl]) hP hD hS dM_number_27
def mr_M_value (g6 : Nat → Int32) (g19 : Nat → Int32) (nC : Nat) (nD : Nat) (d : Int32) (ch : Int32) : Int32 × Int32 × (Nat → Int32) := (if (mr_M_isDesign nD d) = 0 then ((mr_M_fail 1).1, (mr_M_fail 1).2, g19) else (if (mr_M_within ch 0 ((nI nC) - 1)) = 0 then ((mr_M_fail 1).1, (mr_M_fail 1).2, g19) else ((mr_M_open g6 g19 nC d.toNatClampNeg nC) ch.toNatClampNeg, 0, mr_M_open g6 g19 nC d.toNatClampNeg nC)))
set_option maxHeartbeats 4000000 in
set_option maxRecDepth 100000 in
theorem c_M_value (l : Launch) (D : va_G) (cl : List vw_C) (hcl : cl[0]? = some (RM, TM, 29)) (a : Nat) (ba : Nat → Nat) (ka : Nat → ClassId) (F : Nat → Int32) (G : Nat → Nat → Int32) {H0 : Heap} (hP : va_P D cl (mW a ba ka F G) H0) (hD : va_D (fun _ => True) (mW a ba ka F G)) (nC : Nat) (nD : Nat) (d : Int32) (ch : Int32) (h2 : F 2 = nI nC) (hC : nC ≤ 8) (h5 : F 5 = nI nD) (hN : nD ≤ 4096) (h6 : ∀ c, c < nC → ∃ z : Nat, G 6 c = nI z ∧ 2 ≤ z ∧ z ≤ 6) : ww_Met l yM_value wsM_value ({ frames := 2, cells := 0, slots := 0, locals := 43 } : Room) D cl (mT ka) H0 [.ref a, .int d, .int ch] (mW a ba ka F G) (some (.int ((mr_M_value (G 6) (G 19) nC nD d ch).1))) (mW a ba ka (upd F 0 ((mr_M_value (G 6) (G 19) nC nD d ch).2.1)) (va_up G 19 ((mr_M_value (G 6) (G 19) nC nD d ch).2.2))) := by
  refine ww_metI (by decide) rfl (Nat.le_of_ble_eq_true rfl) hP hD ?_
  intro p e s m args below meth c Q A Sx hK hP hD hS hA ls hl hret
  obtain ⟨hx, hb, hml, hown, hts⟩ := id Sx
  have hl : lv_has ls 3 [(0, .ref a), (1, .int d), (2, .int ch)] := hl
  obtain ⟨H, eH⟩ : ∃ H : Heap, H = H0 := ⟨_, rfl⟩
  obtain ⟨locs, eL⟩ : ∃ L : List Loc, L = [] := ⟨_, rfl⟩
  have hP : va_P D cl (mW a ba ka F G) H := by rw [eH]; exact hP
  have hS : va_S A H0 H locs := by rw [eH, eL]; exact hS
  rw [show W p l e ({ frames := 2, cells := 0, slots := 0, locals := 43 } : Room) s m args below meth c H0 [] 0 0 Q (F0 m 0 ls []) = W p l e ({ frames := 2, cells := 0, slots := 0, locals := 43 } : Room) s m args below meth c H locs 0 0 Q (F0 m 0 ls []) by rw [eH, eL]]
  clear eH eL
  have f70 := hts _ (List.mem_cons_of_mem _ mfM_70)
  have inM_ : ∀ w ∈ wsM0, w ∈ wsM_value := fun w h => List.mem_cons_of_mem _ (inM_all w h)
  have f81 := hts _ (List.mem_cons_of_mem _ mfM_81)
  have f54 := hts _ (List.mem_cons_of_mem _ mfM_54)
  refine lv_aload_n hx hb dM_value_0 rfl (lv_at hl 0 rfl) ?_
  refine lv_iconst (v := 0) hx hb dM_value_1 (by decide) ?_
  refine va_put (D := D) (ci := 0) (fs := mWl0 ba F) (v := .int 0) (ty := .int) (C := RM) (T := TM) (N := 29) hx hb hts inM_ tyM tyM_ok nmM hown hK hP hD hS 0 rfl hcl 0 (by decide) f70 (fun _ h9 => h9) rfl (by decide +kernel) rfl rfl (Nat.le_of_ble_eq_true rfl) dM_value_2 (fun H locs hP hD hS => ?_)
  rw [mW_f0] at hP hD
  refine lv_aload_n hx hb dM_value_5 rfl (lv_at hl 0 rfl) ?_
  refine lv_iload_n hx hb dM_value_6 rfl (lv_at hl 1 rfl) ?_
  refine ro_callV (r := (.int (mr_M_isDesign nD d))) (As := [.int d]) (rest := []) Sx (c_M_isDesign l D cl hcl a ba ka (upd F 0 0) G hP nD d h5) (cwV 1 hts gM_value_M_isDesign rfl rfl rfl (by decide +kernel) ⟨Nat.le_of_ble_eq_true rfl, Nat.le_of_ble_eq_true rfl⟩) hK (va_recv hK hP (ci := 0) (q0 := 0) hcl rfl) rfl hl.1 rfl (Nat.le_of_ble_eq_true rfl) dM_value_7 ⟨Nat.zero_le _, Nat.zero_le _⟩ ?_
  refine lv_if_eq (tgt := 27) hx hb dM_value_10 (by decide) (fun c10 => ?_) (fun c10 => ?_)
  · refine lv_aload_n hx hb dM_value_27 rfl (lv_at hl 0 rfl) ?_
    refine lv_iconst (v := 1) hx hb dM_value_28 (by decide) ?_
    refine ww_callV (r := (some (.int ((mr_M_fail 1).1)))) (w' := mW a ba ka (upd (upd F 0 0) 0 ((mr_M_fail 1).2)) G) (As := [.int 1]) (rest := []) Sx (c_M_fail l D cl hcl a ba ka (upd F 0 0) G hP (hD.weaken (fun _ _ _ _ => trivial)) 1) (cwV 1 hts gM_value_M_fail rfl rfl rfl (by decide +kernel) ⟨Nat.le_of_ble_eq_true rfl, Nat.le_of_ble_eq_true rfl⟩) hK (va_recv hK hP (ci := 0) (q0 := 0) hcl rfl) rfl hl.1 rfl (Nat.le_of_ble_eq_true rfl) dM_value_29 ⟨Nat.zero_le _, Nat.zero_le _⟩ hD hS hA (fun H locs hP hD hS => ?_)
    rw [upd_ow] at hP hD
    have em : mr_M_value (G 6) (G 19) nC nD d ch = ((mr_M_fail 1).1, (mr_M_fail 1).2, G 19) := by rw [mr_M_value, if_pos c10]
    exact hret _ _ _ _ _ _ (by simp only [em]) (by simp only [em]; rw [vup_keep (f := G) (j := 19) (x := G 19) rfl]) hP hD hS dM_value_32
  · have xd := ix_cl (wd_ix c10 hN) (by omega)
    refine lv_iload_n hx hb dM_value_13 rfl (lv_at hl 2 rfl) ?_
    refine lv_iconst (v := 0) hx hb dM_value_14 (by decide) ?_
    refine lv_aload_n hx hb dM_value_15 rfl (lv_at hl 0 rfl) ?_
    refine va_get (D := D) (ci := 0) (v := .int (F 2)) (C := RM) (T := TM) (N := 29) hx hb hts inM_ hown hK hP 0 rfl hcl 2 (by decide) f81 (fun _ h9 => h9) rfl dM_value_16 ?_
    refine wt_i h2 ?_
    refine lv_iconst (v := 1) hx hb dM_value_19 (by decide) ?_
    refine lv_isub hx hb dM_value_20 ?_
    refine ro_callS (r := (.int (mr_M_within ch 0 ((nI nC) - 1)))) (As := [.int ch, .int 0, .int ((nI nC) - 1)]) (rest := []) Sx (c_M_within l D cl hcl a ba ka (upd F 0 0) G hP ch 0 ((nI nC) - 1)) (va_cwS 3 hts gM_value_M_within rfl rfl rfl (by decide +kernel) ⟨Nat.le_of_ble_eq_true rfl, Nat.le_of_ble_eq_true rfl⟩) hK rfl hl.1 rfl (Nat.le_of_ble_eq_true rfl) dM_value_21 ⟨Nat.zero_le _, Nat.zero_le _⟩ ?_
    refine lv_if_ne (tgt := 33) hx hb dM_value_24 (by decide) (fun c24 => ?_) (fun c24 => ?_)
    · have xc := ix_cl (wi_ix c24 (by omega)) (by omega)
      refine lv_aload_n hx hb dM_value_33 rfl (lv_at hl 0 rfl) ?_
      refine lv_iload_n hx hb dM_value_34 rfl (lv_at hl 1 rfl) ?_
      refine wt_i (r := nI d.toNatClampNeg) (by exact xd.1) ?_
      refine lv_aload_n hx hb dM_value_35 rfl (lv_at hl 0 rfl) ?_
      refine va_get (D := D) (ci := 0) (v := .int (F 2)) (C := RM) (T := TM) (N := 29) hx hb hts inM_ hown hK hP 0 rfl hcl 2 (by decide) f81 (fun _ h9 => h9) rfl dM_value_36 ?_
      refine wt_i h2 ?_
      refine ww_callV (r := none) (w' := mW a ba ka (upd F 0 0) (va_up G 19 (mr_M_open (G 6) (G 19) nC d.toNatClampNeg nC))) (As := [.int (nI d.toNatClampNeg), .int (nI nC)]) (rest := []) Sx (c_M_open l D cl hcl a ba ka (upd F 0 0) G hP (hD.weaken (fun _ _ _ _ => trivial)) nC d.toNatClampNeg nC h2 hC h6 hC) (cwV 2 hts gM_value_M_open rfl rfl rfl (by decide +kernel) ⟨Nat.le_of_ble_eq_true rfl, Nat.le_of_ble_eq_true rfl⟩) hK (va_recv hK hP (ci := 0) (q0 := 0) hcl rfl) rfl hl.1 rfl (Nat.le_of_ble_eq_true rfl) dM_value_39 ⟨Nat.zero_le _, Nat.zero_le _⟩ hD hS hA (fun H locs hP hD hS => ?_)
      refine lv_aload_n hx hb dM_value_42 rfl (lv_at hl 0 rfl) ?_
      refine va_get (D := D) (ci := 0) (v := .ref (ba 19)) (C := RM) (T := TM) (N := 29) hx hb hts inM_ hown hK hP 0 rfl hcl 19 (by decide) f54 (fun _ h9 => h9) rfl dM_value_43 ?_
      refine lv_iload_n hx hb dM_value_46 rfl (lv_at hl 2 rfl) ?_
      refine wt_i (r := nI ch.toNatClampNeg) (by exact xc.1) ?_
      have sd47 : ch.toNatClampNeg < 8 := by omega
      have eg47 : (va_up G 19 (mr_M_open (G 6) (G 19) nC d.toNatClampNeg nC)) 19 = mr_M_open (G 6) (G 19) nC d.toNatClampNeg nC := by rw [vup_us]
      refine wn_iald (f := mr_M_open (G 6) (G 19) nC d.toNatClampNeg nC) hx hb hK hP 14 13 (congrArg (fun z : Nat → Int32 => (some ((ba 19), (.inl ((ka 19), 8, .inl z) : va_E)) : Option (Nat × va_E))) eg47) rfl ch.toNatClampNeg rfl sd47 (by decide) dM_value_47 ?_
      have em : mr_M_value (G 6) (G 19) nC nD d ch = ((mr_M_open (G 6) (G 19) nC d.toNatClampNeg nC) ch.toNatClampNeg, 0, mr_M_open (G 6) (G 19) nC d.toNatClampNeg nC) := by rw [mr_M_value, if_neg c10, if_neg c24]
      exact hret _ _ _ _ _ _ (by simp only [em]) (by simp only [em]) hP hD hS dM_value_48
    · refine lv_aload_n hx hb dM_value_27 rfl (lv_at hl 0 rfl) ?_
      refine lv_iconst (v := 1) hx hb dM_value_28 (by decide) ?_
      refine ww_callV (r := (some (.int ((mr_M_fail 1).1)))) (w' := mW a ba ka (upd (upd F 0 0) 0 ((mr_M_fail 1).2)) G) (As := [.int 1]) (rest := []) Sx (c_M_fail l D cl hcl a ba ka (upd F 0 0) G hP (hD.weaken (fun _ _ _ _ => trivial)) 1) (cwV 1 hts gM_value_M_fail rfl rfl rfl (by decide +kernel) ⟨Nat.le_of_ble_eq_true rfl, Nat.le_of_ble_eq_true rfl⟩) hK (va_recv hK hP (ci := 0) (q0 := 0) hcl rfl) rfl hl.1 rfl (Nat.le_of_ble_eq_true rfl) dM_value_29 ⟨Nat.zero_le _, Nat.zero_le _⟩ hD hS hA (fun H locs hP hD hS => ?_)
      rw [upd_ow] at hP hD
      have em : mr_M_value (G 6) (G 19) nC nD d ch = ((mr_M_fail 1).1, (mr_M_fail 1).2, G 19) := by rw [mr_M_value, if_neg c10, if_pos c24]
      exact hret _ _ _ _ _ _ (by simp only [em]) (by simp only [em]; rw [vup_keep (f := G) (j := 19) (x := G 19) rfl]) hP hD hS dM_value_32
def lf_M_undominated_13 (nC : Nat) (nT : Nat) (nR : Nat) (nD : Nat) (qg27_13 : Nat → Int32) (qg28_13 : Nat → Int32) (i0 : Int32) : Nat → Int32
  | 0 => i0
  | k13 + 1 => ((lf_M_undominated_13 nC nT nR nD qg27_13 qg28_13 i0 k13) + ((if (mr_M_isUndominated qg27_13 qg28_13 nD k13) = 0 then 0 else 1) : Int32))
def mr_M_undominated (f26 : Int32) (g6 : Nat → Int32) (g7 : Nat → Int32) (g8 : Nat → Int32) (g9 : Nat → Int32) (g10 : Nat → Int32) (g11 : Nat → Int32) (g12 : Nat → Int32) (g13 : Nat → Int32) (g14 : Nat → Int32) (g15 : Nat → Int32) (g16 : Nat → Int32) (g17 : Nat → Int32) (g18 : Nat → Int32) (g19 : Nat → Int32) (g27 : Nat → Int32) (g28 : Nat → Int32) (nC : Nat) (nT : Nat) (nR : Nat) (nD : Nat) : Int32 × Int32 × Int32 × (Nat → Int32) × (Nat → Int32) × (Nat → Int32) := (lf_M_undominated_13 nC nT nR nD ((mr_M_know f26 g6 g7 g8 g9 g10 g11 g12 g13 g14 g15 g16 g17 g18 g19 g27 g28 nC nT nR nD).2.2.1) ((mr_M_know f26 g6 g7 g8 g9 g10 g11 g12 g13 g14 g15 g16 g17 g18 g19 g27 g28 nC nT nR nD).2.2.2) 0 nD, 0, (mr_M_know f26 g6 g7 g8 g9 g10 g11 g12 g13 g14 g15 g16 g17 g18 g19 g27 g28 nC nT nR nD).1, (mr_M_know f26 g6 g7 g8 g9 g10 g11 g12 g13 g14 g15 g16 g17 g18 g19 g27 g28 nC nT nR nD).2.1, (mr_M_know f26 g6 g7 g8 g9 g10 g11 g12 g13 g14 g15 g16 g17 g18 g19 g27 g28 nC nT nR nD).2.2.1, (mr_M_know f26 g6 g7 g8 g9 g10 g11 g12 g13 g14 g15 g16 g17 g18 g19 g27 g28 nC nT nR nD).2.2.2)
set_option maxHeartbeats 4000000 in
set_option maxRecDepth 100000 in
theorem c_M_undominated (l : Launch) (D : va_G) (cl : List vw_C) (hcl : cl[0]? = some (RM, TM, 29)) (a : Nat) (ba : Nat → Nat) (ka : Nat → ClassId) (F : Nat → Int32) (G : Nat → Nat → Int32) {H0 : Heap} (hP : va_P D cl (mW a ba ka F G) H0) (hD : va_D (fun _ => True) (mW a ba ka F G)) (nC : Nat) (nT : Nat) (nR : Nat) (nD : Nat) (h2 : F 2 = nI nC) (hC : nC ≤ 8) (h3 : F 3 = nI nT) (hT : nT ≤ 100) (h4 : F 4 = nI nR) (hR : nR ≤ 40) (h5 : F 5 = nI nD) (hN : nD ≤ 4096) (h6 : ∀ c, c < nC → ∃ z : Nat, G 6 c = nI z ∧ 2 ≤ z ∧ z ≤ 6) (h8 : ∀ t, t < nT → ∃ x : Nat, x < nC ∧ G 8 t = nI x) (h10 : ∀ t, t < nT → G 10 t = -1 ∨ ∃ x : Nat, x < nC ∧ G 10 t = nI x) (h13 : ∀ j, j < nR → ∃ x : Nat, x < nC ∧ G 13 j = nI x) (h15 : ∀ j, j < nR → ∃ x : Nat, x < nC ∧ G 15 j = nI x) : ww_Met l yM_undominated wsM_undominated ({ frames := 4, cells := 0, slots := 0, locals := 92 } : Room) D cl (mT ka) H0 [.ref a] (mW a ba ka F G) (some (.int ((mr_M_undominated (F 26) (G 6) (G 7) (G 8) (G 9) (G 10) (G 11) (G 12) (G 13) (G 14) (G 15) (G 16) (G 17) (G 18) (G 19) (G 27) (G 28) nC nT nR nD).1))) (mW a ba ka (upd (upd F 0 ((mr_M_undominated (F 26) (G 6) (G 7) (G 8) (G 9) (G 10) (G 11) (G 12) (G 13) (G 14) (G 15) (G 16) (G 17) (G 18) (G 19) (G 27) (G 28) nC nT nR nD).2.1)) 26 ((mr_M_undominated (F 26) (G 6) (G 7) (G 8) (G 9) (G 10) (G 11) (G 12) (G 13) (G 14) (G 15) (G 16) (G 17) (G 18) (G 19) (G 27) (G 28) nC nT nR nD).2.2.1)) (va_up (va_up (va_up G 19 ((mr_M_undominated (F 26) (G 6) (G 7) (G 8) (G 9) (G 10) (G 11) (G 12) (G 13) (G 14) (G 15) (G 16) (G 17) (G 18) (G 19) (G 27) (G 28) nC nT nR nD).2.2.2.1)) 27 ((mr_M_undominated (F 26) (G 6) (G 7) (G 8) (G 9) (G 10) (G 11) (G 12) (G 13) (G 14) (G 15) (G 16) (G 17) (G 18) (G 19) (G 27) (G 28) nC nT nR nD).2.2.2.2.1)) 28 ((mr_M_undominated (F 26) (G 6) (G 7) (G 8) (G 9) (G 10) (G 11) (G 12) (G 13) (G 14) (G 15) (G 16) (G 17) (G 18) (G 19) (G 27) (G 28) nC nT nR nD).2.2.2.2.2))) := by
  refine ww_metI (by decide) rfl (Nat.le_of_ble_eq_true rfl) hP hD ?_
  intro p e s m args below meth c Q A Sx hK hP hD hS hA ls hl hret
  obtain ⟨hx, hb, hml, hown, hts⟩ := id Sx
  have hl : lv_has ls 3 [(0, .ref a)] := hl
  obtain ⟨H, eH⟩ : ∃ H : Heap, H = H0 := ⟨_, rfl⟩
  obtain ⟨locs, eL⟩ : ∃ L : List Loc, L = [] := ⟨_, rfl⟩
  have hP : va_P D cl (mW a ba ka F G) H := by rw [eH]; exact hP
  have hS : va_S A H0 H locs := by rw [eH, eL]; exact hS
  rw [show W p l e ({ frames := 4, cells := 0, slots := 0, locals := 92 } : Room) s m args below meth c H0 [] 0 0 Q (F0 m 0 ls []) = W p l e ({ frames := 4, cells := 0, slots := 0, locals := 92 } : Room) s m args below meth c H locs 0 0 Q (F0 m 0 ls []) by rw [eH, eL]]
  clear eH eL
  have f70 := hts _ (List.mem_cons_of_mem _ mfM_70)
  have inM_ : ∀ w ∈ wsM0, w ∈ wsM_undominated := fun w h => List.mem_cons_of_mem _ (inM_all w h)
  have f7 := hts _ (List.mem_cons_of_mem _ mfM_7)
  refine lv_aload_n hx hb dM_undominated_0 rfl (lv_at hl 0 rfl) ?_
  refine lv_iconst (v := 0) hx hb dM_undominated_1 (by decide) ?_
  refine va_put (D := D) (ci := 0) (fs := mWl0 ba F) (v := .int 0) (ty := .int) (C := RM) (T := TM) (N := 29) hx hb hts inM_ tyM tyM_ok nmM hown hK hP hD hS 0 rfl hcl 0 (by decide) f70 (fun _ h9 => h9) rfl (by decide +kernel) rfl rfl (Nat.le_of_ble_eq_true rfl) dM_undominated_2 (fun H locs hP hD hS => ?_)
  rw [mW_f0] at hP hD
  refine lv_aload_n hx hb dM_undominated_5 rfl (lv_at hl 0 rfl) ?_
  refine ww_callV (r := none) (w' := mW a ba ka (upd (upd F 0 0) 26 ((mr_M_know (F 26) (G 6) (G 7) (G 8) (G 9) (G 10) (G 11) (G 12) (G 13) (G 14) (G 15) (G 16) (G 17) (G 18) (G 19) (G 27) (G 28) nC nT nR nD).1)) (va_up (va_up (va_up G 19 ((mr_M_know (F 26) (G 6) (G 7) (G 8) (G 9) (G 10) (G 11) (G 12) (G 13) (G 14) (G 15) (G 16) (G 17) (G 18) (G 19) (G 27) (G 28) nC nT nR nD).2.1)) 27 ((mr_M_know (F 26) (G 6) (G 7) (G 8) (G 9) (G 10) (G 11) (G 12) (G 13) (G 14) (G 15) (G 16) (G 17) (G 18) (G 19) (G 27) (G 28) nC nT nR nD).2.2.1)) 28 ((mr_M_know (F 26) (G 6) (G 7) (G 8) (G 9) (G 10) (G 11) (G 12) (G 13) (G 14) (G 15) (G 16) (G 17) (G 18) (G 19) (G 27) (G 28) nC nT nR nD).2.2.2))) (As := []) (rest := []) Sx (c_M_know l D cl hcl a ba ka (upd F 0 0) G hP (hD.weaken (fun _ _ _ _ => trivial)) nC nT nR nD h2 hC h3 hT h4 hR h5 hN h6 h8 h10 h13 h15) (cwV 0 hts gM_undominated_M_know rfl rfl rfl (by decide +kernel) ⟨Nat.le_of_ble_eq_true rfl, Nat.le_of_ble_eq_true rfl⟩) hK (va_recv hK hP (ci := 0) (q0 := 0) hcl rfl) rfl hl.1 rfl (Nat.le_of_ble_eq_true rfl) dM_undominated_6 ⟨Nat.zero_le _, Nat.zero_le _⟩ hD hS hA (fun H locs hP hD hS => ?_)
  refine lv_iconst (v := 0) hx hb dM_undominated_9 (by decide) ?_
  refine lv_istore_n (lv' := [(1, .int 0), (0, .ref a)]) hx hb dM_undominated_10 rfl hl (by decide) rfl (fun ls hl => ?_)
  refine lv_iconst (v := 0) hx hb dM_undominated_11 (by decide) ?_
  refine lv_istore_n (lv' := [(2, .int 0), (1, .int 0), (0, .ref a)]) hx hb dM_undominated_12 rfl hl (by decide) rfl (fun ls hl => ?_)
  have loop13 : ∀ (N13 k13 : Nat), k13 ≤ nD → nD - k13 < N13 → ∀ (H : Heap) (locs : List Loc), va_P D cl (mW a ba ka (upd (upd F 0 0) 26 ((mr_M_know (F 26) (G 6) (G 7) (G 8) (G 9) (G 10) (G 11) (G 12) (G 13) (G 14) (G 15) (G 16) (G 17) (G 18) (G 19) (G 27) (G 28) nC nT nR nD).1)) (va_up (va_up (va_up G 19 ((mr_M_know (F 26) (G 6) (G 7) (G 8) (G 9) (G 10) (G 11) (G 12) (G 13) (G 14) (G 15) (G 16) (G 17) (G 18) (G 19) (G 27) (G 28) nC nT nR nD).2.1)) 27 ((mr_M_know (F 26) (G 6) (G 7) (G 8) (G 9) (G 10) (G 11) (G 12) (G 13) (G 14) (G 15) (G 16) (G 17) (G 18) (G 19) (G 27) (G 28) nC nT nR nD).2.2.1)) 28 ((mr_M_know (F 26) (G 6) (G 7) (G 8) (G 9) (G 10) (G 11) (G 12) (G 13) (G 14) (G 15) (G 16) (G 17) (G 18) (G 19) (G 27) (G 28) nC nT nR nD).2.2.2))) H → va_D A (mW a ba ka (upd (upd F 0 0) 26 ((mr_M_know (F 26) (G 6) (G 7) (G 8) (G 9) (G 10) (G 11) (G 12) (G 13) (G 14) (G 15) (G 16) (G 17) (G 18) (G 19) (G 27) (G 28) nC nT nR nD).1)) (va_up (va_up (va_up G 19 ((mr_M_know (F 26) (G 6) (G 7) (G 8) (G 9) (G 10) (G 11) (G 12) (G 13) (G 14) (G 15) (G 16) (G 17) (G 18) (G 19) (G 27) (G 28) nC nT nR nD).2.1)) 27 ((mr_M_know (F 26) (G 6) (G 7) (G 8) (G 9) (G 10) (G 11) (G 12) (G 13) (G 14) (G 15) (G 16) (G 17) (G 18) (G 19) (G 27) (G 28) nC nT nR nD).2.2.1)) 28 ((mr_M_know (F 26) (G 6) (G 7) (G 8) (G 9) (G 10) (G 11) (G 12) (G 13) (G 14) (G 15) (G 16) (G 17) (G 18) (G 19) (G 27) (G 28) nC nT nR nD).2.2.2))) → va_S A H0 H locs → ∀ (ls : Array Slot), lv_has ls 3 [(2, .int (nI k13)), (1, .int (lf_M_undominated_13 nC nT nR nD ((mr_M_know (F 26) (G 6) (G 7) (G 8) (G 9) (G 10) (G 11) (G 12) (G 13) (G 14) (G 15) (G 16) (G 17) (G 18) (G 19) (G 27) (G 28) nC nT nR nD).2.2.1) ((mr_M_know (F 26) (G 6) (G 7) (G 8) (G 9) (G 10) (G 11) (G 12) (G 13) (G 14) (G 15) (G 16) (G 17) (G 18) (G 19) (G 27) (G 28) nC nT nR nD).2.2.2) 0 k13)), (0, .ref a)] → W p l e ({ frames := 4, cells := 0, slots := 0, locals := 92 } : Room) s m args below meth c H locs 0 0 Q (F0 m 13 ls []) := by
    intro N13
    induction N13 with
    | zero => intro k13 hk13 hm13; exact absurd hm13 (Nat.not_lt_zero _)
    | succ N13 ih13 =>
      intro k13 hk13 hm13  H locs hP hD hS ls hl
      refine lv_iload_n hx hb dM_undominated_13 rfl (lv_at hl 0 rfl) ?_
      refine lv_aload_n hx hb dM_undominated_14 rfl (lv_at hl 2 rfl) ?_
      refine va_get (D := D) (ci := 0) (v := .int (F 5)) (C := RM) (T := TM) (N := 29) hx hb hts inM_ hown hK hP 0 rfl hcl 5 (by decide) f7 (fun _ h9 => h9) rfl dM_undominated_15 ?_
      refine wt_i h5 ?_
      refine lv_icmp_ge (tgt := 43) hx hb dM_undominated_18 (by decide) (fun c18 => ?_) (fun c18 => ?_)
      · have n18 : nD ≤ k13 := (nI_leI (a := nD) (b := k13) (by omega) (by omega)).mp c18
        have hx13 : nD = k13 := by omega
        subst hx13
        refine lv_iload_n hx hb dM_undominated_43 rfl (lv_at hl 1 rfl) ?_
        have em : mr_M_undominated (F 26) (G 6) (G 7) (G 8) (G 9) (G 10) (G 11) (G 12) (G 13) (G 14) (G 15) (G 16) (G 17) (G 18) (G 19) (G 27) (G 28) nC nT nR nD = (lf_M_undominated_13 nC nT nR nD ((mr_M_know (F 26) (G 6) (G 7) (G 8) (G 9) (G 10) (G 11) (G 12) (G 13) (G 14) (G 15) (G 16) (G 17) (G 18) (G 19) (G 27) (G 28) nC nT nR nD).2.2.1) ((mr_M_know (F 26) (G 6) (G 7) (G 8) (G 9) (G 10) (G 11) (G 12) (G 13) (G 14) (G 15) (G 16) (G 17) (G 18) (G 19) (G 27) (G 28) nC nT nR nD).2.2.2) 0 nD, 0, (mr_M_know (F 26) (G 6) (G 7) (G 8) (G 9) (G 10) (G 11) (G 12) (G 13) (G 14) (G 15) (G 16) (G 17) (G 18) (G 19) (G 27) (G 28) nC nT nR nD).1, (mr_M_know (F 26) (G 6) (G 7) (G 8) (G 9) (G 10) (G 11) (G 12) (G 13) (G 14) (G 15) (G 16) (G 17) (G 18) (G 19) (G 27) (G 28) nC nT nR nD).2.1, (mr_M_know (F 26) (G 6) (G 7) (G 8) (G 9) (G 10) (G 11) (G 12) (G 13) (G 14) (G 15) (G 16) (G 17) (G 18) (G 19) (G 27) (G 28) nC nT nR nD).2.2.1, (mr_M_know (F 26) (G 6) (G 7) (G 8) (G 9) (G 10) (G 11) (G 12) (G 13) (G 14) (G 15) (G 16) (G 17) (G 18) (G 19) (G 27) (G 28) nC nT nR nD).2.2.2) := by rw [mr_M_undominated]
        exact hret _ _ _ _ _ _ (by simp only [em]) (by simp only [em]) hP hD hS dM_undominated_44
      · have n18 : ¬ nD ≤ k13 := fun h9 => c18 ((nI_leI (a := nD) (b := k13) (by omega) (by omega)).mpr h9)
        refine lv_iload_n hx hb dM_undominated_21 rfl (lv_at hl 1 rfl) ?_
        refine lv_aload_n hx hb dM_undominated_22 rfl (lv_at hl 2 rfl) ?_
        refine lv_iload_n hx hb dM_undominated_23 rfl (lv_at hl 0 rfl) ?_
        refine ro_callV (r := (.int (mr_M_isUndominated ((mr_M_know (F 26) (G 6) (G 7) (G 8) (G 9) (G 10) (G 11) (G 12) (G 13) (G 14) (G 15) (G 16) (G 17) (G 18) (G 19) (G 27) (G 28) nC nT nR nD).2.2.1) ((mr_M_know (F 26) (G 6) (G 7) (G 8) (G 9) (G 10) (G 11) (G 12) (G 13) (G 14) (G 15) (G 16) (G 17) (G 18) (G 19) (G 27) (G 28) nC nT nR nD).2.2.2) nD k13))) (As := [.int (nI k13)]) (rest := [.int (lf_M_undominated_13 nC nT nR nD ((mr_M_know (F 26) (G 6) (G 7) (G 8) (G 9) (G 10) (G 11) (G 12) (G 13) (G 14) (G 15) (G 16) (G 17) (G 18) (G 19) (G 27) (G 28) nC nT nR nD).2.2.1) ((mr_M_know (F 26) (G 6) (G 7) (G 8) (G 9) (G 10) (G 11) (G 12) (G 13) (G 14) (G 15) (G 16) (G 17) (G 18) (G 19) (G 27) (G 28) nC nT nR nD).2.2.2) 0 k13)]) Sx (c_M_isUndominated l D cl hcl a ba ka (upd (upd F 0 0) 26 ((mr_M_know (F 26) (G 6) (G 7) (G 8) (G 9) (G 10) (G 11) (G 12) (G 13) (G 14) (G 15) (G 16) (G 17) (G 18) (G 19) (G 27) (G 28) nC nT nR nD).1)) (va_up (va_up (va_up G 19 ((mr_M_know (F 26) (G 6) (G 7) (G 8) (G 9) (G 10) (G 11) (G 12) (G 13) (G 14) (G 15) (G 16) (G 17) (G 18) (G 19) (G 27) (G 28) nC nT nR nD).2.1)) 27 ((mr_M_know (F 26) (G 6) (G 7) (G 8) (G 9) (G 10) (G 11) (G 12) (G 13) (G 14) (G 15) (G 16) (G 17) (G 18) (G 19) (G 27) (G 28) nC nT nR nD).2.2.1)) 28 ((mr_M_know (F 26) (G 6) (G 7) (G 8) (G 9) (G 10) (G 11) (G 12) (G 13) (G 14) (G 15) (G 16) (G 17) (G 18) (G 19) (G 27) (G 28) nC nT nR nD).2.2.2)) hP nD k13 h5 hN (by omega)) (cwV 1 hts gM_undominated_M_isUndominated rfl rfl rfl (by decide +kernel) ⟨Nat.le_of_ble_eq_true rfl, Nat.le_of_ble_eq_true rfl⟩) hK (va_recv hK hP (ci := 0) (q0 := 0) hcl rfl) rfl hl.1 rfl (Nat.le_of_ble_eq_true rfl) dM_undominated_24 ⟨Nat.zero_le _, Nat.zero_le _⟩ ?_
        have j35 : ∀ (ls : Array Slot), lv_has ls 3 [(2, .int (nI k13)), (1, .int (lf_M_undominated_13 nC nT nR nD ((mr_M_know (F 26) (G 6) (G 7) (G 8) (G 9) (G 10) (G 11) (G 12) (G 13) (G 14) (G 15) (G 16) (G 17) (G 18) (G 19) (G 27) (G 28) nC nT nR nD).2.2.1) ((mr_M_know (F 26) (G 6) (G 7) (G 8) (G 9) (G 10) (G 11) (G 12) (G 13) (G 14) (G 15) (G 16) (G 17) (G 18) (G 19) (G 27) (G 28) nC nT nR nD).2.2.2) 0 k13)), (0, .ref a)] → W p l e ({ frames := 4, cells := 0, slots := 0, locals := 92 } : Room) s m args below meth c H locs 0 0 Q (F0 m 35 ls [.int ((if (mr_M_isUndominated ((mr_M_know (F 26) (G 6) (G 7) (G 8) (G 9) (G 10) (G 11) (G 12) (G 13) (G 14) (G 15) (G 16) (G 17) (G 18) (G 19) (G 27) (G 28) nC nT nR nD).2.2.1) ((mr_M_know (F 26) (G 6) (G 7) (G 8) (G 9) (G 10) (G 11) (G 12) (G 13) (G 14) (G 15) (G 16) (G 17) (G 18) (G 19) (G 27) (G 28) nC nT nR nD).2.2.2) nD k13) = 0 then 0 else 1) : Int32), .int (lf_M_undominated_13 nC nT nR nD ((mr_M_know (F 26) (G 6) (G 7) (G 8) (G 9) (G 10) (G 11) (G 12) (G 13) (G 14) (G 15) (G 16) (G 17) (G 18) (G 19) (G 27) (G 28) nC nT nR nD).2.2.1) ((mr_M_know (F 26) (G 6) (G 7) (G 8) (G 9) (G 10) (G 11) (G 12) (G 13) (G 14) (G 15) (G 16) (G 17) (G 18) (G 19) (G 27) (G 28) nC nT nR nD).2.2.2) 0 k13)]) := by
          intro ls hl
          refine lv_iadd hx hb dM_undominated_35 ?_
          refine lv_istore_n (lv' := [(1, .int ((lf_M_undominated_13 nC nT nR nD ((mr_M_know (F 26) (G 6) (G 7) (G 8) (G 9) (G 10) (G 11) (G 12) (G 13) (G 14) (G 15) (G 16) (G 17) (G 18) (G 19) (G 27) (G 28) nC nT nR nD).2.2.1) ((mr_M_know (F 26) (G 6) (G 7) (G 8) (G 9) (G 10) (G 11) (G 12) (G 13) (G 14) (G 15) (G 16) (G 17) (G 18) (G 19) (G 27) (G 28) nC nT nR nD).2.2.2) 0 k13) + ((if (mr_M_isUndominated ((mr_M_know (F 26) (G 6) (G 7) (G 8) (G 9) (G 10) (G 11) (G 12) (G 13) (G 14) (G 15) (G 16) (G 17) (G 18) (G 19) (G 27) (G 28) nC nT nR nD).2.2.1) ((mr_M_know (F 26) (G 6) (G 7) (G 8) (G 9) (G 10) (G 11) (G 12) (G 13) (G 14) (G 15) (G 16) (G 17) (G 18) (G 19) (G 27) (G 28) nC nT nR nD).2.2.2) nD k13) = 0 then 0 else 1) : Int32))), (2, .int (nI k13)), (0, .ref a)]) hx hb dM_undominated_36 rfl hl (by decide) rfl (fun ls hl => ?_)
          refine lv_iinc (v := nI (k13 + 1)) (lv' := [(2, .int (nI (k13 + 1))), (1, .int ((lf_M_undominated_13 nC nT nR nD ((mr_M_know (F 26) (G 6) (G 7) (G 8) (G 9) (G 10) (G 11) (G 12) (G 13) (G 14) (G 15) (G 16) (G 17) (G 18) (G 19) (G 27) (G 28) nC nT nR nD).2.2.1) ((mr_M_know (F 26) (G 6) (G 7) (G 8) (G 9) (G 10) (G 11) (G 12) (G 13) (G 14) (G 15) (G 16) (G 17) (G 18) (G 19) (G 27) (G 28) nC nT nR nD).2.2.2) 0 k13) + ((if (mr_M_isUndominated ((mr_M_know (F 26) (G 6) (G 7) (G 8) (G 9) (G 10) (G 11) (G 12) (G 13) (G 14) (G 15) (G 16) (G 17) (G 18) (G 19) (G 27) (G 28) nC nT nR nD).2.2.1) ((mr_M_know (F 26) (G 6) (G 7) (G 8) (G 9) (G 10) (G 11) (G 12) (G 13) (G 14) (G 15) (G 16) (G 17) (G 18) (G 19) (G 27) (G 28) nC nT nR nD).2.2.2) nD k13) = 0 then 0 else 1) : Int32))), (0, .ref a)]) hx hb dM_undominated_37 hl (k := 1) rfl (by exact ii_1 k13) (by decide) rfl (fun ls hl => ?_)
          refine lv_goto (tgt := 13) hx hb dM_undominated_40 (by decide) ?_
          have eb13 : lf_M_undominated_13 nC nT nR nD ((mr_M_know (F 26) (G 6) (G 7) (G 8) (G 9) (G 10) (G 11) (G 12) (G 13) (G 14) (G 15) (G 16) (G 17) (G 18) (G 19) (G 27) (G 28) nC nT nR nD).2.2.1) ((mr_M_know (F 26) (G 6) (G 7) (G 8) (G 9) (G 10) (G 11) (G 12) (G 13) (G 14) (G 15) (G 16) (G 17) (G 18) (G 19) (G 27) (G 28) nC nT nR nD).2.2.2) 0 (k13 + 1) = (lf_M_undominated_13 nC nT nR nD ((mr_M_know (F 26) (G 6) (G 7) (G 8) (G 9) (G 10) (G 11) (G 12) (G 13) (G 14) (G 15) (G 16) (G 17) (G 18) (G 19) (G 27) (G 28) nC nT nR nD).2.2.1) ((mr_M_know (F 26) (G 6) (G 7) (G 8) (G 9) (G 10) (G 11) (G 12) (G 13) (G 14) (G 15) (G 16) (G 17) (G 18) (G 19) (G 27) (G 28) nC nT nR nD).2.2.2) 0 k13) + ((if (mr_M_isUndominated ((mr_M_know (F 26) (G 6) (G 7) (G 8) (G 9) (G 10) (G 11) (G 12) (G 13) (G 14) (G 15) (G 16) (G 17) (G 18) (G 19) (G 27) (G 28) nC nT nR nD).2.2.1) ((mr_M_know (F 26) (G 6) (G 7) (G 8) (G 9) (G 10) (G 11) (G 12) (G 13) (G 14) (G 15) (G 16) (G 17) (G 18) (G 19) (G 27) (G 28) nC nT nR nD).2.2.2) nD k13) = 0 then 0 else 1) : Int32) := by rw [lf_M_undominated_13]
          exact ih13 (k13 + 1) (by omega) (by omega)  H locs (by exact hP) (by exact hD) hS ls (by rw [eb13]; exact lv_sub hl [0, 1, 2] rfl)
        refine lv_if_eq (tgt := 34) hx hb dM_undominated_27 (by decide) (fun c27 => ?_) (fun c27 => ?_)
        · refine lv_iconst (v := 0) hx hb dM_undominated_34 (by decide) ?_
          exact wt_i (by rw [if_pos c27]) (j35 ls hl)
        · refine lv_iconst (v := 1) hx hb dM_undominated_30 (by decide) ?_
          refine lv_goto (tgt := 35) hx hb dM_undominated_31 (by decide) ?_
          exact wt_i (by rw [if_neg c27]) (j35 ls hl)
  exact loop13 _ 0 (Nat.zero_le _) (Nat.lt_succ_self _)  H locs hP hD hS ls (lv_sub hl [0, 1, 2] rfl)
def lf_M_at_13 (f0 : Int32) (f26 : Int32) (g19 : Nat → Int32) (g27 : Nat → Int32) (g28 : Nat → Int32) (nC : Nat) (nT : Nat) (nR : Nat) (nD : Nat) (kk : Int32) (qf26_13 : Int32) (qg19_13 : Nat → Int32) (qg27_13 : Nat → Int32) (qg28_13 : Nat → Int32) : Nat → Int32 → Nat → (Int32 × Int32 × Int32 × (Nat → Int32) × (Nat → Int32) × (Nat → Int32))
  | 0, q, y => (0, f0, f26, g19, g27, g28)
  | N + 1, q, y => (if (nI nD) ≤ (nI y) then ((mr_M_fail 1).1, (mr_M_fail 1).2, qf26_13, qg19_13, qg27_13, qg28_13) else (if kk < 0 then ((mr_M_fail 1).1, (mr_M_fail 1).2, qf26_13, qg19_13, qg27_13, qg28_13) else (if (mr_M_isUndominated qg27_13 qg28_13 nD y) = 0 then lf_M_at_13 f0 f26 g19 g27 g28 nC nT nR nD kk qf26_13 qg19_13 qg27_13 qg28_13 N q (y + 1) else (if q = kk then (nI y, 0, qf26_13, qg19_13, qg27_13, qg28_13) else lf_M_at_13 f0 f26 g19 g27 g28 nC nT nR nD kk qf26_13 qg19_13 qg27_13 qg28_13 N (q + 1) (y + 1)))))
def mr_M_at (f0 : Int32) (f26 : Int32) (g6 : Nat → Int32) (g7 : Nat → Int32) (g8 : Nat → Int32) (g9 : Nat → Int32) (g10 : Nat → Int32) (g11 : Nat → Int32) (g12 : Nat → Int32) (g13 : Nat → Int32) (g14 : Nat → Int32) (g15 : Nat → Int32) (g16 : Nat → Int32) (g17 : Nat → Int32) (g18 : Nat → Int32) (g19 : Nat → Int32) (g27 : Nat → Int32) (g28 : Nat → Int32) (nC : Nat) (nT : Nat) (nR : Nat) (nD : Nat) (kk : Int32) : Int32 × Int32 × Int32 × (Nat → Int32) × (Nat → Int32) × (Nat → Int32) := lf_M_at_13 f0 f26 g19 g27 g28 nC nT nR nD kk ((mr_M_know f26 g6 g7 g8 g9 g10 g11 g12 g13 g14 g15 g16 g17 g18 g19 g27 g28 nC nT nR nD).1) ((mr_M_know f26 g6 g7 g8 g9 g10 g11 g12 g13 g14 g15 g16 g17 g18 g19 g27 g28 nC nT nR nD).2.1) ((mr_M_know f26 g6 g7 g8 g9 g10 g11 g12 g13 g14 g15 g16 g17 g18 g19 g27 g28 nC nT nR nD).2.2.1) ((mr_M_know f26 g6 g7 g8 g9 g10 g11 g12 g13 g14 g15 g16 g17 g18 g19 g27 g28 nC nT nR nD).2.2.2) (nD + 1) 0 0
set_option maxHeartbeats 4000000 in
set_option maxRecDepth 100000 in
theorem c_M_at (l : Launch) (D : va_G) (cl : List vw_C) (hcl : cl[0]? = some (RM, TM, 29)) (a : Nat) (ba : Nat → Nat) (ka : Nat → ClassId) (F : Nat → Int32) (G : Nat → Nat → Int32) {H0 : Heap} (hP : va_P D cl (mW a ba ka F G) H0) (hD : va_D (fun _ => True) (mW a ba ka F G)) (nC : Nat) (nT : Nat) (nR : Nat) (nD : Nat) (kk : Int32) (h2 : F 2 = nI nC) (hC : nC ≤ 8) (h3 : F 3 = nI nT) (hT : nT ≤ 100) (h4 : F 4 = nI nR) (hR : nR ≤ 40) (h5 : F 5 = nI nD) (hN : nD ≤ 4096) (h6 : ∀ c, c < nC → ∃ z : Nat, G 6 c = nI z ∧ 2 ≤ z ∧ z ≤ 6) (h8 : ∀ t, t < nT → ∃ x : Nat, x < nC ∧ G 8 t = nI x) (h10 : ∀ t, t < nT → G 10 t = -1 ∨ ∃ x : Nat, x < nC ∧ G 10 t = nI x) (h13 : ∀ j, j < nR → ∃ x : Nat, x < nC ∧ G 13 j = nI x) (h15 : ∀ j, j < nR → ∃ x : Nat, x < nC ∧ G 15 j = nI x) : ww_Met l yM_at wsM_at ({ frames := 4, cells := 0, slots := 0, locals := 92 } : Room) D cl (mT ka) H0 [.ref a, .int kk] (mW a ba ka F G) (some (.int ((mr_M_at (F 0) (F 26) (G 6) (G 7) (G 8) (G 9) (G 10) (G 11) (G 12) (G 13) (G 14) (G 15) (G 16) (G 17) (G 18) (G 19) (G 27) (G 28) nC nT nR nD kk).1))) (mW a ba ka (upd (upd F 0 ((mr_M_at (F 0) (F 26) (G 6) (G 7) (G 8) (G 9) (G 10) (G 11) (G 12) (G 13) (G 14) (G 15) (G 16) (G 17) (G 18) (G 19) (G 27) (G 28) nC nT nR nD kk).2.1)) 26 ((mr_M_at (F 0) (F 26) (G 6) (G 7) (G 8) (G 9) (G 10) (G 11) (G 12) (G 13) (G 14) (G 15) (G 16) (G 17) (G 18) (G 19) (G 27) (G 28) nC nT nR nD kk).2.2.1)) (va_up (va_up (va_up G 19 ((mr_M_at (F 0) (F 26) (G 6) (G 7) (G 8) (G 9) (G 10) (G 11) (G 12) (G 13) (G 14) (G 15) (G 16) (G 17) (G 18) (G 19) (G 27) (G 28) nC nT nR nD kk).2.2.2.1)) 27 ((mr_M_at (F 0) (F 26) (G 6) (G 7) (G 8) (G 9) (G 10) (G 11) (G 12) (G 13) (G 14) (G 15) (G 16) (G 17) (G 18) (G 19) (G 27) (G 28) nC nT nR nD kk).2.2.2.2.1)) 28 ((mr_M_at (F 0) (F 26) (G 6) (G 7) (G 8) (G 9) (G 10) (G 11) (G 12) (G 13) (G 14) (G 15) (G 16) (G 17) (G 18) (G 19) (G 27) (G 28) nC nT nR nD kk).2.2.2.2.2))) := by
  refine ww_metI (by decide) rfl (Nat.le_of_ble_eq_true rfl) hP hD ?_
  intro p e s m args below meth c Q A Sx hK hP hD hS hA ls hl hret
  obtain ⟨hx, hb, hml, hown, hts⟩ := id Sx
  have hl : lv_has ls 4 [(0, .ref a), (1, .int kk)] := hl
  obtain ⟨H, eH⟩ : ∃ H : Heap, H = H0 := ⟨_, rfl⟩
  obtain ⟨locs, eL⟩ : ∃ L : List Loc, L = [] := ⟨_, rfl⟩
  have hP : va_P D cl (mW a ba ka F G) H := by rw [eH]; exact hP
  have hS : va_S A H0 H locs := by rw [eH, eL]; exact hS
  rw [show W p l e ({ frames := 4, cells := 0, slots := 0, locals := 92 } : Room) s m args below meth c H0 [] 0 0 Q (F0 m 0 ls []) = W p l e ({ frames := 4, cells := 0, slots := 0, locals := 92 } : Room) s m args below meth c H locs 0 0 Q (F0 m 0 ls []) by rw [eH, eL]]
  clear eH eL
  have f70 := hts _ (List.mem_cons_of_mem _ mfM_70)
  have inM_ : ∀ w ∈ wsM0, w ∈ wsM_at := fun w h => List.mem_cons_of_mem _ (inM_all w h)
  have f7 := hts _ (List.mem_cons_of_mem _ mfM_7)
  refine lv_aload_n hx hb dM_at_0 rfl (lv_at hl 0 rfl) ?_
  refine lv_iconst (v := 0) hx hb dM_at_1 (by decide) ?_
  refine va_put (D := D) (ci := 0) (fs := mWl0 ba F) (v := .int 0) (ty := .int) (C := RM) (T := TM) (N := 29) hx hb hts inM_ tyM tyM_ok nmM hown hK hP hD hS 0 rfl hcl 0 (by decide) f70 (fun _ h9 => h9) rfl (by decide +kernel) rfl rfl (Nat.le_of_ble_eq_true rfl) dM_at_2 (fun H locs hP hD hS => ?_)
  rw [mW_f0] at hP hD
  refine lv_aload_n hx hb dM_at_5 rfl (lv_at hl 0 rfl) ?_
  refine ww_callV (r := none) (w' := mW a ba ka (upd (upd F 0 0) 26 ((mr_M_know (F 26) (G 6) (G 7) (G 8) (G 9) (G 10) (G 11) (G 12) (G 13) (G 14) (G 15) (G 16) (G 17) (G 18) (G 19) (G 27) (G 28) nC nT nR nD).1)) (va_up (va_up (va_up G 19 ((mr_M_know (F 26) (G 6) (G 7) (G 8) (G 9) (G 10) (G 11) (G 12) (G 13) (G 14) (G 15) (G 16) (G 17) (G 18) (G 19) (G 27) (G 28) nC nT nR nD).2.1)) 27 ((mr_M_know (F 26) (G 6) (G 7) (G 8) (G 9) (G 10) (G 11) (G 12) (G 13) (G 14) (G 15) (G 16) (G 17) (G 18) (G 19) (G 27) (G 28) nC nT nR nD).2.2.1)) 28 ((mr_M_know (F 26) (G 6) (G 7) (G 8) (G 9) (G 10) (G 11) (G 12) (G 13) (G 14) (G 15) (G 16) (G 17) (G 18) (G 19) (G 27) (G 28) nC nT nR nD).2.2.2))) (As := []) (rest := []) Sx (c_M_know l D cl hcl a ba ka (upd F 0 0) G hP (hD.weaken (fun _ _ _ _ => trivial)) nC nT nR nD h2 hC h3 hT h4 hR h5 hN h6 h8 h10 h13 h15) (cwV 0 hts gM_at_M_know rfl rfl rfl (by decide +kernel) ⟨Nat.le_of_ble_eq_true rfl, Nat.le_of_ble_eq_true rfl⟩) hK (va_recv hK hP (ci := 0) (q0 := 0) hcl rfl) rfl hl.1 rfl (Nat.le_of_ble_eq_true rfl) dM_at_6 ⟨Nat.zero_le _, Nat.zero_le _⟩ hD hS hA (fun H locs hP hD hS => ?_)
  refine lv_iconst (v := 0) hx hb dM_at_9 (by decide) ?_
  refine lv_istore_n (lv' := [(2, .int 0), (0, .ref a), (1, .int kk)]) hx hb dM_at_10 rfl hl (by decide) rfl (fun ls hl => ?_)
  refine lv_iconst (v := 0) hx hb dM_at_11 (by decide) ?_
  refine lv_istore_n (lv' := [(3, .int 0), (2, .int 0), (0, .ref a), (1, .int kk)]) hx hb dM_at_12 rfl hl (by decide) rfl (fun ls hl => ?_)
  have loop13 : ∀ (N13 : Nat) (q : Int32) (y : Nat), y ≤ nD → nD - y < N13 → lf_M_at_13 (F 0) (F 26) (G 19) (G 27) (G 28) nC nT nR nD kk ((mr_M_know (F 26) (G 6) (G 7) (G 8) (G 9) (G 10) (G 11) (G 12) (G 13) (G 14) (G 15) (G 16) (G 17) (G 18) (G 19) (G 27) (G 28) nC nT nR nD).1) ((mr_M_know (F 26) (G 6) (G 7) (G 8) (G 9) (G 10) (G 11) (G 12) (G 13) (G 14) (G 15) (G 16) (G 17) (G 18) (G 19) (G 27) (G 28) nC nT nR nD).2.1) ((mr_M_know (F 26) (G 6) (G 7) (G 8) (G 9) (G 10) (G 11) (G 12) (G 13) (G 14) (G 15) (G 16) (G 17) (G 18) (G 19) (G 27) (G 28) nC nT nR nD).2.2.1) ((mr_M_know (F 26) (G 6) (G 7) (G 8) (G 9) (G 10) (G 11) (G 12) (G 13) (G 14) (G 15) (G 16) (G 17) (G 18) (G 19) (G 27) (G 28) nC nT nR nD).2.2.2) (nD + 1) 0 0 = lf_M_at_13 (F 0) (F 26) (G 19) (G 27) (G 28) nC nT nR nD kk ((mr_M_know (F 26) (G 6) (G 7) (G 8) (G 9) (G 10) (G 11) (G 12) (G 13) (G 14) (G 15) (G 16) (G 17) (G 18) (G 19) (G 27) (G 28) nC nT nR nD).1) ((mr_M_know (F 26) (G 6) (G 7) (G 8) (G 9) (G 10) (G 11) (G 12) (G 13) (G 14) (G 15) (G 16) (G 17) (G 18) (G 19) (G 27) (G 28) nC nT nR nD).2.1) ((mr_M_know (F 26) (G 6) (G 7) (G 8) (G 9) (G 10) (G 11) (G 12) (G 13) (G 14) (G 15) (G 16) (G 17) (G 18) (G 19) (G 27) (G 28) nC nT nR nD).2.2.1) ((mr_M_know (F 26) (G 6) (G 7) (G 8) (G 9) (G 10) (G 11) (G 12) (G 13) (G 14) (G 15) (G 16) (G 17) (G 18) (G 19) (G 27) (G 28) nC nT nR nD).2.2.2) N13 q y → ∀ (H : Heap) (locs : List Loc), va_P D cl (mW a ba ka (upd (upd F 0 0) 26 ((mr_M_know (F 26) (G 6) (G 7) (G 8) (G 9) (G 10) (G 11) (G 12) (G 13) (G 14) (G 15) (G 16) (G 17) (G 18) (G 19) (G 27) (G 28) nC nT nR nD).1)) (va_up (va_up (va_up G 19 ((mr_M_know (F 26) (G 6) (G 7) (G 8) (G 9) (G 10) (G 11) (G 12) (G 13) (G 14) (G 15) (G 16) (G 17) (G 18) (G 19) (G 27) (G 28) nC nT nR nD).2.1)) 27 ((mr_M_know (F 26) (G 6) (G 7) (G 8) (G 9) (G 10) (G 11) (G 12) (G 13) (G 14) (G 15) (G 16) (G 17) (G 18) (G 19) (G 27) (G 28) nC nT nR nD).2.2.1)) 28 ((mr_M_know (F 26) (G 6) (G 7) (G 8) (G 9) (G 10) (G 11) (G 12) (G 13) (G 14) (G 15) (G 16) (G 17) (G 18) (G 19) (G 27) (G 28) nC nT nR nD).2.2.2))) H → va_D A (mW a ba ka (upd (upd F 0 0) 26 ((mr_M_know (F 26) (G 6) (G 7) (G 8) (G 9) (G 10) (G 11) (G 12) (G 13) (G 14) (G 15) (G 16) (G 17) (G 18) (G 19) (G 27) (G 28) nC nT nR nD).1)) (va_up (va_up (va_up G 19 ((mr_M_know (F 26) (G 6) (G 7) (G 8) (G 9) (G 10) (G 11) (G 12) (G 13) (G 14) (G 15) (G 16) (G 17) (G 18) (G 19) (G 27) (G 28) nC nT nR nD).2.1)) 27 ((mr_M_know (F 26) (G 6) (G 7) (G 8) (G 9) (G 10) (G 11) (G 12) (G 13) (G 14) (G 15) (G 16) (G 17) (G 18) (G 19) (G 27) (G 28) nC nT nR nD).2.2.1)) 28 ((mr_M_know (F 26) (G 6) (G 7) (G 8) (G 9) (G 10) (G 11) (G 12) (G 13) (G 14) (G 15) (G 16) (G 17) (G 18) (G 19) (G 27) (G 28) nC nT nR nD).2.2.2))) → va_S A H0 H locs → ∀ (ls : Array Slot), lv_has ls 4 [(3, .int (nI y)), (2, .int q), (0, .ref a), (1, .int kk)] → W p l e ({ frames := 4, cells := 0, slots := 0, locals := 92 } : Room) s m args below meth c H locs 0 0 Q (F0 m 13 ls []) := by
    intro N13
    induction N13 with
    | zero => intro q y hy hm13; exact absurd hm13 (Nat.not_lt_zero _)
    | succ N13 ih13 =>
      intro q y hy hm13 hR13 H locs hP hD hS ls hl
      refine lv_iload_n hx hb dM_at_13 rfl (lv_at hl 0 rfl) ?_
      refine lv_aload_n hx hb dM_at_14 rfl (lv_at hl 2 rfl) ?_
      refine va_get (D := D) (ci := 0) (v := .int (F 5)) (C := RM) (T := TM) (N := 29) hx hb hts inM_ hown hK hP 0 rfl hcl 5 (by decide) f7 (fun _ h9 => h9) rfl dM_at_15 ?_
      refine wt_i h5 ?_
      refine lv_icmp_ge (tgt := 49) hx hb dM_at_18 (by decide) (fun c18 => ?_) (fun c18 => ?_)
      · have n18 : nD ≤ y := (nI_leI (a := nD) (b := y) (by omega) (by omega)).mp c18
        refine lv_aload_n hx hb dM_at_49 rfl (lv_at hl 2 rfl) ?_
        refine lv_iconst (v := 1) hx hb dM_at_50 (by decide) ?_
        refine ww_callV (r := (some (.int ((mr_M_fail 1).1)))) (w' := mW a ba ka (upd (upd (upd F 0 0) 26 ((mr_M_know (F 26) (G 6) (G 7) (G 8) (G 9) (G 10) (G 11) (G 12) (G 13) (G 14) (G 15) (G 16) (G 17) (G 18) (G 19) (G 27) (G 28) nC nT nR nD).1)) 0 ((mr_M_fail 1).2)) (va_up (va_up (va_up G 19 ((mr_M_know (F 26) (G 6) (G 7) (G 8) (G 9) (G 10) (G 11) (G 12) (G 13) (G 14) (G 15) (G 16) (G 17) (G 18) (G 19) (G 27) (G 28) nC nT nR nD).2.1)) 27 ((mr_M_know (F 26) (G 6) (G 7) (G 8) (G 9) (G 10) (G 11) (G 12) (G 13) (G 14) (G 15) (G 16) (G 17) (G 18) (G 19) (G 27) (G 28) nC nT nR nD).2.2.1)) 28 ((mr_M_know (F 26) (G 6) (G 7) (G 8) (G 9) (G 10) (G 11) (G 12) (G 13) (G 14) (G 15) (G 16) (G 17) (G 18) (G 19) (G 27) (G 28) nC nT nR nD).2.2.2))) (As := [.int 1]) (rest := []) Sx (c_M_fail l D cl hcl a ba ka (upd (upd F 0 0) 26 ((mr_M_know (F 26) (G 6) (G 7) (G 8) (G 9) (G 10) (G 11) (G 12) (G 13) (G 14) (G 15) (G 16) (G 17) (G 18) (G 19) (G 27) (G 28) nC nT nR nD).1)) (va_up (va_up (va_up G 19 ((mr_M_know (F 26) (G 6) (G 7) (G 8) (G 9) (G 10) (G 11) (G 12) (G 13) (G 14) (G 15) (G 16) (G 17) (G 18) (G 19) (G 27) (G 28) nC nT nR nD).2.1)) 27 ((mr_M_know (F 26) (G 6) (G 7) (G 8) (G 9) (G 10) (G 11) (G 12) (G 13) (G 14) (G 15) (G 16) (G 17) (G 18) (G 19) (G 27) (G 28) nC nT nR nD).2.2.1)) 28 ((mr_M_know (F 26) (G 6) (G 7) (G 8) (G 9) (G 10) (G 11) (G 12) (G 13) (G 14) (G 15) (G 16) (G 17) (G 18) (G 19) (G 27) (G 28) nC nT nR nD).2.2.2)) hP (hD.weaken (fun _ _ _ _ => trivial)) 1) (cwV 1 hts gM_at_M_fail rfl rfl rfl (by decide +kernel) ⟨Nat.le_of_ble_eq_true rfl, Nat.le_of_ble_eq_true rfl⟩) hK (va_recv hK hP (ci := 0) (q0 := 0) hcl rfl) rfl hl.1 rfl (Nat.le_of_ble_eq_true rfl) dM_at_51 ⟨Nat.zero_le _, Nat.zero_le _⟩ hD hS hA (fun H locs hP hD hS => ?_)
        rw [upd_sw (i := 26) (j := 0) (by decide), upd_ow] at hP hD
        have em : mr_M_at (F 0) (F 26) (G 6) (G 7) (G 8) (G 9) (G 10) (G 11) (G 12) (G 13) (G 14) (G 15) (G 16) (G 17) (G 18) (G 19) (G 27) (G 28) nC nT nR nD kk = ((mr_M_fail 1).1, (mr_M_fail 1).2, (mr_M_know (F 26) (G 6) (G 7) (G 8) (G 9) (G 10) (G 11) (G 12) (G 13) (G 14) (G 15) (G 16) (G 17) (G 18) (G 19) (G 27) (G 28) nC nT nR nD).1, (mr_M_know (F 26) (G 6) (G 7) (G 8) (G 9) (G 10) (G 11) (G 12) (G 13) (G 14) (G 15) (G 16) (G 17) (G 18) (G 19) (G 27) (G 28) nC nT nR nD).2.1, (mr_M_know (F 26) (G 6) (G 7) (G 8) (G 9) (G 10) (G 11) (G 12) (G 13) (G 14) (G 15) (G 16) (G 17) (G 18) (G 19) (G 27) (G 28) nC nT nR nD).2.2.1, (mr_M_know (F 26) (G 6) (G 7) (G 8) (G 9) (G 10) (G 11) (G 12) (G 13) (G 14) (G 15) (G 16) (G 17) (G 18) (G 19) (G 27) (G 28) nC nT nR nD).2.2.2) := by rw [mr_M_at, hR13, lf_M_at_13, if_pos c18]
        exact hret _ _ _ _ _ _ (by simp only [em]) (by simp only [em]) hP hD hS dM_at_54
      · have n18 : ¬ nD ≤ y := fun h9 => c18 ((nI_leI (a := nD) (b := y) (by omega) (by omega)).mpr h9)
        refine lv_iload_n hx hb dM_at_21 rfl (lv_at hl 3 rfl) ?_
        refine lv_if_lt (tgt := 49) hx hb dM_at_22 (by decide) (fun c22 => ?_) (fun c22 => ?_)
        · refine lv_aload_n hx hb dM_at_49 rfl (lv_at hl 2 rfl) ?_
          refine lv_iconst (v := 1) hx hb dM_at_50 (by decide) ?_
          refine ww_callV (r := (some (.int ((mr_M_fail 1).1)))) (w' := mW a ba ka (upd (upd (upd F 0 0) 26 ((mr_M_know (F 26) (G 6) (G 7) (G 8) (G 9) (G 10) (G 11) (G 12) (G 13) (G 14) (G 15) (G 16) (G 17) (G 18) (G 19) (G 27) (G 28) nC nT nR nD).1)) 0 ((mr_M_fail 1).2)) (va_up (va_up (va_up G 19 ((mr_M_know (F 26) (G 6) (G 7) (G 8) (G 9) (G 10) (G 11) (G 12) (G 13) (G 14) (G 15) (G 16) (G 17) (G 18) (G 19) (G 27) (G 28) nC nT nR nD).2.1)) 27 ((mr_M_know (F 26) (G 6) (G 7) (G 8) (G 9) (G 10) (G 11) (G 12) (G 13) (G 14) (G 15) (G 16) (G 17) (G 18) (G 19) (G 27) (G 28) nC nT nR nD).2.2.1)) 28 ((mr_M_know (F 26) (G 6) (G 7) (G 8) (G 9) (G 10) (G 11) (G 12) (G 13) (G 14) (G 15) (G 16) (G 17) (G 18) (G 19) (G 27) (G 28) nC nT nR nD).2.2.2))) (As := [.int 1]) (rest := []) Sx (c_M_fail l D cl hcl a ba ka (upd (upd F 0 0) 26 ((mr_M_know (F 26) (G 6) (G 7) (G 8) (G 9) (G 10) (G 11) (G 12) (G 13) (G 14) (G 15) (G 16) (G 17) (G 18) (G 19) (G 27) (G 28) nC nT nR nD).1)) (va_up (va_up (va_up G 19 ((mr_M_know (F 26) (G 6) (G 7) (G 8) (G 9) (G 10) (G 11) (G 12) (G 13) (G 14) (G 15) (G 16) (G 17) (G 18) (G 19) (G 27) (G 28) nC nT nR nD).2.1)) 27 ((mr_M_know (F 26) (G 6) (G 7) (G 8) (G 9) (G 10) (G 11) (G 12) (G 13) (G 14) (G 15) (G 16) (G 17) (G 18) (G 19) (G 27) (G 28) nC nT nR nD).2.2.1)) 28 ((mr_M_know (F 26) (G 6) (G 7) (G 8) (G 9) (G 10) (G 11) (G 12) (G 13) (G 14) (G 15) (G 16) (G 17) (G 18) (G 19) (G 27) (G 28) nC nT nR nD).2.2.2)) hP (hD.weaken (fun _ _ _ _ => trivial)) 1) (cwV 1 hts gM_at_M_fail rfl rfl rfl (by decide +kernel) ⟨Nat.le_of_ble_eq_true rfl, Nat.le_of_ble_eq_true rfl⟩) hK (va_recv hK hP (ci := 0) (q0 := 0) hcl rfl) rfl hl.1 rfl (Nat.le_of_ble_eq_true rfl) dM_at_51 ⟨Nat.zero_le _, Nat.zero_le _⟩ hD hS hA (fun H locs hP hD hS => ?_)
          rw [upd_sw (i := 26) (j := 0) (by decide), upd_ow] at hP hD
          have em : mr_M_at (F 0) (F 26) (G 6) (G 7) (G 8) (G 9) (G 10) (G 11) (G 12) (G 13) (G 14) (G 15) (G 16) (G 17) (G 18) (G 19) (G 27) (G 28) nC nT nR nD kk = ((mr_M_fail 1).1, (mr_M_fail 1).2, (mr_M_know (F 26) (G 6) (G 7) (G 8) (G 9) (G 10) (G 11) (G 12) (G 13) (G 14) (G 15) (G 16) (G 17) (G 18) (G 19) (G 27) (G 28) nC nT nR nD).1, (mr_M_know (F 26) (G 6) (G 7) (G 8) (G 9) (G 10) (G 11) (G 12) (G 13) (G 14) (G 15) (G 16) (G 17) (G 18) (G 19) (G 27) (G 28) nC nT nR nD).2.1, (mr_M_know (F 26) (G 6) (G 7) (G 8) (G 9) (G 10) (G 11) (G 12) (G 13) (G 14) (G 15) (G 16) (G 17) (G 18) (G 19) (G 27) (G 28) nC nT nR nD).2.2.1, (mr_M_know (F 26) (G 6) (G 7) (G 8) (G 9) (G 10) (G 11) (G 12) (G 13) (G 14) (G 15) (G 16) (G 17) (G 18) (G 19) (G 27) (G 28) nC nT nR nD).2.2.2) := by rw [mr_M_at, hR13, lf_M_at_13, if_neg c18, if_pos c22]
          exact hret _ _ _ _ _ _ (by simp only [em]) (by simp only [em]) hP hD hS dM_at_54
        · refine lv_aload_n hx hb dM_at_25 rfl (lv_at hl 2 rfl) ?_
          refine lv_iload_n hx hb dM_at_26 rfl (lv_at hl 0 rfl) ?_
          refine ro_callV (r := (.int (mr_M_isUndominated ((mr_M_know (F 26) (G 6) (G 7) (G 8) (G 9) (G 10) (G 11) (G 12) (G 13) (G 14) (G 15) (G 16) (G 17) (G 18) (G 19) (G 27) (G 28) nC nT nR nD).2.2.1) ((mr_M_know (F 26) (G 6) (G 7) (G 8) (G 9) (G 10) (G 11) (G 12) (G 13) (G 14) (G 15) (G 16) (G 17) (G 18) (G 19) (G 27) (G 28) nC nT nR nD).2.2.2) nD y))) (As := [.int (nI y)]) (rest := []) Sx (c_M_isUndominated l D cl hcl a ba ka (upd (upd F 0 0) 26 ((mr_M_know (F 26) (G 6) (G 7) (G 8) (G 9) (G 10) (G 11) (G 12) (G 13) (G 14) (G 15) (G 16) (G 17) (G 18) (G 19) (G 27) (G 28) nC nT nR nD).1)) (va_up (va_up (va_up G 19 ((mr_M_know (F 26) (G 6) (G 7) (G 8) (G 9) (G 10) (G 11) (G 12) (G 13) (G 14) (G 15) (G 16) (G 17) (G 18) (G 19) (G 27) (G 28) nC nT nR nD).2.1)) 27 ((mr_M_know (F 26) (G 6) (G 7) (G 8) (G 9) (G 10) (G 11) (G 12) (G 13) (G 14) (G 15) (G 16) (G 17) (G 18) (G 19) (G 27) (G 28) nC nT nR nD).2.2.1)) 28 ((mr_M_know (F 26) (G 6) (G 7) (G 8) (G 9) (G 10) (G 11) (G 12) (G 13) (G 14) (G 15) (G 16) (G 17) (G 18) (G 19) (G 27) (G 28) nC nT nR nD).2.2.2)) hP nD y h5 hN (by omega)) (cwV 1 hts gM_at_M_isUndominated rfl rfl rfl (by decide +kernel) ⟨Nat.le_of_ble_eq_true rfl, Nat.le_of_ble_eq_true rfl⟩) hK (va_recv hK hP (ci := 0) (q0 := 0) hcl rfl) rfl hl.1 rfl (Nat.le_of_ble_eq_true rfl) dM_at_27 ⟨Nat.zero_le _, Nat.zero_le _⟩ ?_
          refine lv_if_eq (tgt := 43) hx hb dM_at_30 (by decide) (fun c30 => ?_) (fun c30 => ?_)
          · refine lv_iinc (v := nI (y + 1)) (lv' := [(3, .int (nI (y + 1))), (2, .int q), (0, .ref a), (1, .int kk)]) hx hb dM_at_43 hl (k := 0) rfl (by exact ii_1 y) (by decide) rfl (fun ls hl => ?_)
            refine lv_goto (tgt := 13) hx hb dM_at_46 (by decide) ?_
            have er13 : lf_M_at_13 (F 0) (F 26) (G 19) (G 27) (G 28) nC nT nR nD kk ((mr_M_know (F 26) (G 6) (G 7) (G 8) (G 9) (G 10) (G 11) (G 12) (G 13) (G 14) (G 15) (G 16) (G 17) (G 18) (G 19) (G 27) (G 28) nC nT nR nD).1) ((mr_M_know (F 26) (G 6) (G 7) (G 8) (G 9) (G 10) (G 11) (G 12) (G 13) (G 14) (G 15) (G 16) (G 17) (G 18) (G 19) (G 27) (G 28) nC nT nR nD).2.1) ((mr_M_know (F 26) (G 6) (G 7) (G 8) (G 9) (G 10) (G 11) (G 12) (G 13) (G 14) (G 15) (G 16) (G 17) (G 18) (G 19) (G 27) (G 28) nC nT nR nD).2.2.1) ((mr_M_know (F 26) (G 6) (G 7) (G 8) (G 9) (G 10) (G 11) (G 12) (G 13) (G 14) (G 15) (G 16) (G 17) (G 18) (G 19) (G 27) (G 28) nC nT nR nD).2.2.2) (N13 + 1) q y = lf_M_at_13 (F 0) (F 26) (G 19) (G 27) (G 28) nC nT nR nD kk ((mr_M_know (F 26) (G 6) (G 7) (G 8) (G 9) (G 10) (G 11) (G 12) (G 13) (G 14) (G 15) (G 16) (G 17) (G 18) (G 19) (G 27) (G 28) nC nT nR nD).1) ((mr_M_know (F 26) (G 6) (G 7) (G 8) (G 9) (G 10) (G 11) (G 12) (G 13) (G 14) (G 15) (G 16) (G 17) (G 18) (G 19) (G 27) (G 28) nC nT nR nD).2.1) ((mr_M_know (F 26) (G 6) (G 7) (G 8) (G 9) (G 10) (G 11) (G 12) (G 13) (G 14) (G 15) (G 16) (G 17) (G 18) (G 19) (G 27) (G 28) nC nT nR nD).2.2.1) ((mr_M_know (F 26) (G 6) (G 7) (G 8) (G 9) (G 10) (G 11) (G 12) (G 13) (G 14) (G 15) (G 16) (G 17) (G 18) (G 19) (G 27) (G 28) nC nT nR nD).2.2.2) N13 q (y + 1) := by rw [lf_M_at_13, if_neg c18, if_neg c22, if_pos c30]
            exact ih13 q (y + 1) (by omega) (by omega) (hR13.trans er13) H locs hP hD hS ls (lv_sub hl [0, 1, 2, 3] rfl)
          · refine lv_iload_n hx hb dM_at_33 rfl (lv_at hl 1 rfl) ?_
            refine lv_iload_n hx hb dM_at_34 rfl (lv_at hl 3 rfl) ?_
            refine lv_icmp_ne (tgt := 40) hx hb dM_at_35 (by decide) (fun c35 => ?_) (fun c35 => ?_)
            · refine lv_iinc (v := q + 1) (lv' := [(2, .int (q + 1)), (3, .int (nI y)), (0, .ref a), (1, .int kk)]) hx hb dM_at_40 hl (k := 1) rfl (by exact ii_x _) (by decide) rfl (fun ls hl => ?_)
              refine lv_iinc (v := nI (y + 1)) (lv' := [(3, .int (nI (y + 1))), (2, .int (q + 1)), (0, .ref a), (1, .int kk)]) hx hb dM_at_43 hl (k := 1) rfl (by exact ii_1 y) (by decide) rfl (fun ls hl => ?_)
              refine lv_goto (tgt := 13) hx hb dM_at_46 (by decide) ?_
              have er13 : lf_M_at_13 (F 0) (F 26) (G 19) (G 27) (G 28) nC nT nR nD kk ((mr_M_know (F 26) (G 6) (G 7) (G 8) (G 9) (G 10) (G 11) (G 12) (G 13) (G 14) (G 15) (G 16) (G 17) (G 18) (G 19) (G 27) (G 28) nC nT nR nD).1) ((mr_M_know (F 26) (G 6) (G 7) (G 8) (G 9) (G 10) (G 11) (G 12) (G 13) (G 14) (G 15) (G 16) (G 17) (G 18) (G 19) (G 27) (G 28) nC nT nR nD).2.1) ((mr_M_know (F 26) (G 6) (G 7) (G 8) (G 9) (G 10) (G 11) (G 12) (G 13) (G 14) (G 15) (G 16) (G 17) (G 18) (G 19) (G 27) (G 28) nC nT nR nD).2.2.1) ((mr_M_know (F 26) (G 6) (G 7) (G 8) (G 9) (G 10) (G 11) (G 12) (G 13) (G 14) (G 15) (G 16) (G 17) (G 18) (G 19) (G 27) (G 28) nC nT nR nD).2.2.2) (N13 + 1) q y = lf_M_at_13 (F 0) (F 26) (G 19) (G 27) (G 28) nC nT nR nD kk ((mr_M_know (F 26) (G 6) (G 7) (G 8) (G 9) (G 10) (G 11) (G 12) (G 13) (G 14) (G 15) (G 16) (G 17) (G 18) (G 19) (G 27) (G 28) nC nT nR nD).1) ((mr_M_know (F 26) (G 6) (G 7) (G 8) (G 9) (G 10) (G 11) (G 12) (G 13) (G 14) (G 15) (G 16) (G 17) (G 18) (G 19) (G 27) (G 28) nC nT nR nD).2.1) ((mr_M_know (F 26) (G 6) (G 7) (G 8) (G 9) (G 10) (G 11) (G 12) (G 13) (G 14) (G 15) (G 16) (G 17) (G 18) (G 19) (G 27) (G 28) nC nT nR nD).2.2.1) ((mr_M_know (F 26) (G 6) (G 7) (G 8) (G 9) (G 10) (G 11) (G 12) (G 13) (G 14) (G 15) (G 16) (G 17) (G 18) (G 19) (G 27) (G 28) nC nT nR nD).2.2.2) N13 (q + 1) (y + 1) := by rw [lf_M_at_13, if_neg c18, if_neg c22, if_neg c30, if_neg c35]
              exact ih13 (q + 1) (y + 1) (by omega) (by omega) (hR13.trans er13) H locs hP hD hS ls (lv_sub hl [0, 1, 2, 3] rfl)
            · refine lv_iload_n hx hb dM_at_38 rfl (lv_at hl 0 rfl) ?_
              have em : mr_M_at (F 0) (F 26) (G 6) (G 7) (G 8) (G 9) (G 10) (G 11) (G 12) (G 13) (G 14) (G 15) (G 16) (G 17) (G 18) (G 19) (G 27) (G 28) nC nT nR nD kk = (nI y, 0, (mr_M_know (F 26) (G 6) (G 7) (G 8) (G 9) (G 10) (G 11) (G 12) (G 13) (G 14) (G 15) (G 16) (G 17) (G 18) (G 19) (G 27) (G 28) nC nT nR nD).1, (mr_M_know (F 26) (G 6) (G 7) (G 8) (G 9) (G 10) (G 11) (G 12) (G 13) (G 14) (G 15) (G 16) (G 17) (G 18) (G 19) (G 27) (G 28) nC nT nR nD).2.1, (mr_M_know (F 26) (G 6) (G 7) (G 8) (G 9) (G 10) (G 11) (G 12) (G 13) (G 14) (G 15) (G 16) (G 17) (G 18) (G 19) (G 27) (G 28) nC nT nR nD).2.2.1, (mr_M_know (F 26) (G 6) (G 7) (G 8) (G 9) (G 10) (G 11) (G 12) (G 13) (G 14) (G 15) (G 16) (G 17) (G 18) (G 19) (G 27) (G 28) nC nT nR nD).2.2.2) := by rw [mr_M_at, hR13, lf_M_at_13, if_neg c18, if_neg c22, if_neg c30, if_pos c35]
              exact hret _ _ _ _ _ _ (by simp only [em]) (by simp only [em]) hP hD hS dM_at_39
  exact loop13 (nD + 1) 0 0 (by omega) (by omega) rfl H locs hP hD hS ls (lv_sub hl [0, 1, 2, 3] rfl)
def mr_M_bound (g6 : Nat → Int32) (g7 : Nat → Int32) (g8 : Nat → Int32) (g9 : Nat → Int32) (g10 : Nat → Int32) (g11 : Nat → Int32) (g12 : Nat → Int32) (g19 : Nat → Int32) (nC : Nat) (nT : Nat) (nR : Nat) (nD : Nat) (nu : Int32) (d : Int32) (sx : Int32) : Int32 × Int32 × (Nat → Int32) := (if (mr_M_within nu 0 3) = 0 then ((mr_M_fail 1).1, (mr_M_fail 1).2, g19) else (if (mr_M_isDesign nD d) = 0 then ((mr_M_fail 1).1, (mr_M_fail 1).2, g19) else (if (mr_M_within sx 0 (nI nC)) = 0 then ((mr_M_fail 1).1, (mr_M_fail 1).2, g19) else (mr_M_boundOf g7 g8 g9 g10 g11 g12 (mr_M_open g6 g19 nC d.toNatClampNeg sx.toNatClampNeg) nC nT nu, 0, mr_M_open g6 g19 nC d.toNatClampNeg sx.toNatClampNeg))))
set_option maxHeartbeats 4000000 in
set_option maxRecDepth 100000 in
theorem c_M_bound (l : Launch) (D : va_G) (cl : List vw_C) (hcl : cl[0]? = some (RM, TM, 29)) (a : Nat) (ba : Nat → Nat) (ka : Nat → ClassId) (F : Nat → Int32) (G : Nat → Nat → Int32) {H0 : Heap} (hP : va_P D cl (mW a ba ka F G) H0) (hD : va_D (fun _ => True) (mW a ba ka F G)) (nC : Nat) (nT : Nat) (nR : Nat) (nD : Nat) (nu : Int32) (d : Int32) (sx : Int32) (h2 : F 2 = nI nC) (hC : nC ≤ 8) (h3 : F 3 = nI nT) (hT : nT ≤ 100) (h4 : F 4 = nI nR) (hR : nR ≤ 40) (h5 : F 5 = nI nD) (hN : nD ≤ 4096) (h6 : ∀ c, c < nC → ∃ z : Nat, G 6 c = nI z ∧ 2 ≤ z ∧ z ≤ 6) (h8 : ∀ t, t < nT → ∃ x : Nat, x < nC ∧ G 8 t = nI x) (h10 : ∀ t, t < nT → G 10 t = -1 ∨ ∃ x : Nat, x < nC ∧ G 10 t = nI x) (h13 : ∀ j, j < nR → ∃ x : Nat, x < nC ∧ G 13 j = nI x) (h15 : ∀ j, j < nR → ∃ x : Nat, x < nC ∧ G 15 j = nI x) : ww_Met l yM_bound wsM_bound ({ frames := 2, cells := 0, slots := 0, locals := 48 } : Room) D cl (mT ka) H0 [.ref a, .int nu, .int d, .int sx] (mW a ba ka F G) (some (.int ((mr_M_bound (G 6) (G 7) (G 8) (G 9) (G 10) (G 11) (G 12) (G 19) nC nT nR nD nu d sx).1))) (mW a ba ka (upd F 0 ((mr_M_bound (G 6) (G 7) (G 8) (G 9) (G 10) (G 11) (G 12) (G 19) nC nT nR nD nu d sx).2.1)) (va_up G 19 ((mr_M_bound (G 6) (G 7) (G 8) (G 9) (G 10) (G 11) (G 12) (G 19) nC nT nR nD nu d sx).2.2))) := by
  refine ww_metI (by decide) rfl (Nat.le_of_ble_eq_true rfl) hP hD ?_
  intro p e s m args below meth c Q A Sx hK hP hD hS hA ls hl hret
  obtain ⟨hx, hb, hml, hown, hts⟩ := id Sx
  have hl : lv_has ls 4 [(0, .ref a), (1, .int nu), (2, .int d), (3, .int sx)] := hl
  obtain ⟨H, eH⟩ : ∃ H : Heap, H = H0 := ⟨_, rfl⟩
  obtain ⟨locs, eL⟩ : ∃ L : List Loc, L = [] := ⟨_, rfl⟩
  have hP : va_P D cl (mW a ba ka F G) H := by rw [eH]; exact hP
  have hS : va_S A H0 H locs := by rw [eH, eL]; exact hS
  rw [show W p l e ({ frames := 2, cells := 0, slots := 0, locals := 48 } : Room) s m args below meth c H0 [] 0 0 Q (F0 m 0 ls []) = W p l e ({ frames := 2, cells := 0, slots := 0, locals := 48 } : Room) s m args below meth c H locs 0 0 Q (F0 m 0 ls []) by rw [eH, eL]]
  clear eH eL
  have f70 := hts _ (List.mem_cons_of_mem _ mfM_70)
  have inM_ : ∀ w ∈ wsM0, w ∈ wsM_bound := fun w h => List.mem_cons_of_mem _ (inM_all w h)
  have f81 := hts _ (List.mem_cons_of_mem _ mfM_81)
  refine lv_aload_n hx hb dM_bound_0 rfl (lv_at hl 0 rfl) ?_
  refine lv_iconst (v := 0) hx hb dM_bound_1 (by decide) ?_
  refine va_put (D := D) (ci := 0) (fs := mWl0 ba F) (v := .int 0) (ty := .int) (C := RM) (T := TM) (N := 29) hx hb hts inM_ tyM tyM_ok nmM hown hK hP hD hS 0 rfl hcl 0 (by decide) f70 (fun _ h9 => h9) rfl (by decide +kernel) rfl rfl (Nat.le_of_ble_eq_true rfl) dM_bound_2 (fun H locs hP hD hS => ?_)
  rw [mW_f0] at hP hD
  refine lv_iload_n hx hb dM_bound_5 rfl (lv_at hl 1 rfl) ?_
  refine lv_iconst (v := 0) hx hb dM_bound_6 (by decide) ?_
  refine lv_iconst (v := 3) hx hb dM_bound_7 (by decide) ?_
  refine ro_callS (r := (.int (mr_M_within nu 0 3))) (As := [.int nu, .int 0, .int 3]) (rest := []) Sx (c_M_within l D cl hcl a ba ka (upd F 0 0) G hP nu 0 3) (va_cwS 3 hts gM_bound_M_within rfl rfl rfl (by decide +kernel) ⟨Nat.le_of_ble_eq_true rfl, Nat.le_of_ble_eq_true rfl⟩) hK rfl hl.1 rfl (Nat.le_of_ble_eq_true rfl) dM_bound_8 ⟨Nat.zero_le _, Nat.zero_le _⟩ ?_
  refine lv_if_eq (tgt := 34) hx hb dM_bound_11 (by decide) (fun c11 => ?_) (fun c11 => ?_)
  · refine lv_aload_n hx hb dM_bound_34 rfl (lv_at hl 0 rfl) ?_
    refine lv_iconst (v := 1) hx hb dM_bound_35 (by decide) ?_
    refine ww_callV (r := (some (.int ((mr_M_fail 1).1)))) (w' := mW a ba ka (upd (upd F 0 0) 0 ((mr_M_fail 1).2)) G) (As := [.int 1]) (rest := []) Sx (c_M_fail l D cl hcl a ba ka (upd F 0 0) G hP (hD.weaken (fun _ _ _ _ => trivial)) 1) (cwV 1 hts gM_bound_M_fail rfl rfl rfl (by decide +kernel) ⟨Nat.le_of_ble_eq_true rfl, Nat.le_of_ble_eq_true rfl⟩) hK (va_recv hK hP (ci := 0) (q0 := 0) hcl rfl) rfl hl.1 rfl (Nat.le_of_ble_eq_true rfl) dM_bound_36 ⟨Nat.zero_le _, Nat.zero_le _⟩ hD hS hA (fun H locs hP hD hS => ?_)
    rw [upd_ow] at hP hD
    have em : mr_M_bound (G 6) (G 7) (G 8) (G 9) (G 10) (G 11) (G 12) (G 19) nC nT nR nD nu d sx = ((mr_M_fail 1).1, (mr_M_fail 1).2, G 19) := by rw [mr_M_bound, if_pos c11]
    exact hret _ _ _ _ _ _ (by simp only [em]) (by simp only [em]; rw [vup_keep (f := G) (j := 19) (x := G 19) rfl]) hP hD hS dM_bound_39
  · refine lv_aload_n hx hb dM_bound_14 rfl (lv_at hl 0 rfl) ?_
    refine lv_iload_n hx hb dM_bound_15 rfl (lv_at hl 2 rfl) ?_
    refine ro_callV (r := (.int (mr_M_isDesign nD d))) (As := [.int d]) (rest := []) Sx (c_M_isDesign l D cl hcl a ba ka (upd F 0 0) G hP nD d h5) (cwV 1 hts gM_bound_M_isDesign rfl rfl rfl (by decide +kernel) ⟨Nat.le_of_ble_eq_true rfl, Nat.le_of_ble_eq_true rfl⟩) hK (va_recv hK hP (ci := 0) (q0 := 0) hcl rfl) rfl hl.1 rfl (Nat.le_of_ble_eq_true rfl) dM_bound_16 ⟨Nat.zero_le _, Nat.zero_le _⟩ ?_
    refine lv_if_eq (tgt := 34) hx hb dM_bound_19 (by decide) (fun c19 => ?_) (fun c19 => ?_)
    · refine lv_aload_n hx hb dM_bound_34 rfl (lv_at hl 0 rfl) ?_
      refine lv_iconst (v := 1) hx hb dM_bound_35 (by decide) ?_
      refine ww_callV (r := (some (.int ((mr_M_fail 1).1)))) (w' := mW a ba ka (upd (upd F 0 0) 0 ((mr_M_fail 1).2)) G) (As := [.int 1]) (rest := []) Sx (c_M_fail l D cl hcl a ba ka (upd F 0 0) G hP (hD.weaken (fun _ _ _ _ => trivial)) 1) (cwV 1 hts gM_bound_M_fail rfl rfl rfl (by decide +kernel) ⟨Nat.le_of_ble_eq_true rfl, Nat.le_of_ble_eq_true rfl⟩) hK (va_recv hK hP (ci := 0) (q0 := 0) hcl rfl) rfl hl.1 rfl (Nat.le_of_ble_eq_true rfl) dM_bound_36 ⟨Nat.zero_le _, Nat.zero_le _⟩ hD hS hA (fun H locs hP hD hS => ?_)
      rw [upd_ow] at hP hD
      have em : mr_M_bound (G 6) (G 7) (G 8) (G 9) (G 10) (G 11) (G 12) (G 19) nC nT nR nD nu d sx = ((mr_M_fail 1).1, (mr_M_fail 1).2, G 19) := by rw [mr_M_bound, if_neg c11, if_pos c19]
      exact hret _ _ _ _ _ _ (by simp only [em]) (by simp only [em]; rw [vup_keep (f := G) (j := 19) (x := G 19) rfl]) hP hD hS dM_bound_39
    · have xd := ix_cl (wd_ix c19 hN) (by omega)
      refine lv_iload_n hx hb dM_bound_22 rfl (lv_at hl 3 rfl) ?_
      refine lv_iconst (v := 0) hx hb dM_bound_23 (by decide) ?_
      refine lv_aload_n hx hb dM_bound_24 rfl (lv_at hl 0 rfl) ?_
      refine va_get (D := D) (ci := 0) (v := .int (F 2)) (C := RM) (T := TM) (N := 29) hx hb hts inM_ hown hK hP 0 rfl hcl 2 (by decide) f81 (fun _ h9 => h9) rfl dM_bound_25 ?_
      refine wt_i h2 ?_
      refine ro_callS (r := (.int (mr_M_within sx 0 (nI nC)))) (As := [.int sx, .int 0, .int (nI nC)]) (rest := []) Sx (c_M_within l D cl hcl a ba ka (upd F 0 0) G hP sx 0 (nI nC)) (va_cwS 3 hts gM_bound_M_within rfl rfl rfl (by decide +kernel) ⟨Nat.le_of_ble_eq_true rfl, Nat.le_of_ble_eq_true rfl⟩) hK rfl hl.1 rfl (Nat.le_of_ble_eq_true rfl) dM_bound_28 ⟨Nat.zero_le _, Nat.zero_le _⟩ ?_
      refine lv_if_ne (tgt := 40) hx hb dM_bound_31 (by decide) (fun c31 => ?_) (fun c31 => ?_)
      · have xs := ix_cl (wi_nx c31 (by omega)) (by omega)
        refine lv_aload_n hx hb dM_bound_40 rfl (lv_at hl 0 rfl) ?_
        refine lv_iload_n hx hb dM_bound_41 rfl (lv_at hl 2 rfl) ?_
        refine wt_i (r := nI d.toNatClampNeg) (by exact xd.1) ?_
        refine lv_iload_n hx hb dM_bound_42 rfl (lv_at hl 3 rfl) ?_
        refine wt_i (r := nI sx.toNatClampNeg) (by exact xs.1) ?_
        refine ww_callV (r := none) (w' := mW a ba ka (upd F 0 0) (va_up G 19 (mr_M_open (G 6) (G 19) nC d.toNatClampNeg sx.toNatClampNeg))) (As := [.int (nI d.toNatClampNeg), .int (nI sx.toNatClampNeg)]) (rest := []) Sx (c_M_open l D cl hcl a ba ka (upd F 0 0) G hP (hD.weaken (fun _ _ _ _ => trivial)) nC d.toNatClampNeg sx.toNatClampNeg h2 hC h6 (by have := xs.2; omega)) (cwV 2 hts gM_bound_M_open rfl rfl rfl (by decide +kernel) ⟨Nat.le_of_ble_eq_true rfl, Nat.le_of_ble_eq_true rfl⟩) hK (va_recv hK hP (ci := 0) (q0 := 0) hcl rfl) rfl hl.1 rfl (Nat.le_of_ble_eq_true rfl) dM_bound_43 ⟨Nat.zero_le _, Nat.zero_le _⟩ hD hS hA (fun H locs hP hD hS => ?_)
        refine lv_aload_n hx hb dM_bound_46 rfl (lv_at hl 0 rfl) ?_
        refine lv_iload_n hx hb dM_bound_47 rfl (lv_at hl 1 rfl) ?_
        refine ro_callV (r := (.int (mr_M_boundOf (G 7) (G 8) (G 9) (G 10) (G 11) (G 12) (mr_M_open (G 6) (G 19) nC d.toNatClampNeg sx.toNatClampNeg) nC nT nu))) (As := [.int nu]) (rest := []) Sx (c_M_boundOf l D cl hcl a ba ka (upd F 0 0) (va_up G 19 (mr_M_open (G 6) (G 19) nC d.toNatClampNeg sx.toNatClampNeg)) hP nC nT nu hC h3 hT h8 h10) (cwV 1 hts gM_bound_M_boundOf rfl rfl rfl (by decide +kernel) ⟨Nat.le_of_ble_eq_true rfl, Nat.le_of_ble_eq_true rfl⟩) hK (va_recv hK hP (ci := 0) (q0 := 0) hcl rfl) rfl hl.1 rfl (Nat.le_of_ble_eq_true rfl) dM_bound_48 ⟨Nat.zero_le _, Nat.zero_le _⟩ ?_
        have em : mr_M_bound (G 6) (G 7) (G 8) (G 9) (G 10) (G 11) (G 12) (G 19) nC nT nR nD nu d sx = (mr_M_boundOf (G 7) (G 8) (G 9) (G 10) (G 11) (G 12) (mr_M_open (G 6) (G 19) nC d.toNatClampNeg sx.toNatClampNeg) nC nT nu, 0, mr_M_open (G 6) (G 19) nC d.toNatClampNeg sx.toNatClampNeg) := by rw [mr_M_bound, if_neg c11, if_neg c19, if_neg c31]
        exact hret _ _ _ _ _ _ (by simp only [em]) (by simp only [em]) hP hD hS dM_bound_51
      · refine lv_aload_n hx hb dM_bound_34 rfl (lv_at hl 0 rfl) ?_
        refine lv_iconst (v := 1) hx hb dM_bound_35 (by decide) ?_
        refine ww_callV (r := (some (.int ((mr_M_fail 1).1)))) (w' := mW a ba ka (upd (upd F 0 0) 0 ((mr_M_fail 1).2)) G) (As := [.int 1]) (rest := []) Sx (c_M_fail l D cl hcl a ba ka (upd F 0 0) G hP (hD.weaken (fun _ _ _ _ => trivial)) 1) (cwV 1 hts gM_bound_M_fail rfl rfl rfl (by decide +kernel) ⟨Nat.le_of_ble_eq_true rfl, Nat.le_of_ble_eq_true rfl⟩) hK (va_recv hK hP (ci := 0) (q0 := 0) hcl rfl) rfl hl.1 rfl (Nat.le_of_ble_eq_true rfl) dM_bound_36 ⟨Nat.zero_le _, Nat.zero_le _⟩ hD hS hA (fun H locs hP hD hS => ?_)
        rw [upd_ow] at hP hD
        have em : mr_M_bound (G 6) (G 7) (G 8) (G 9) (G 10) (G 11) (G 12) (G 19) nC nT nR nD nu d sx = ((mr_M_fail 1).1, (mr_M_fail 1).2, G 19) := by rw [mr_M_bound, if_neg c11, if_neg c19, if_pos c31]
        exact hret _ _ _ _ _ _ (by simp only [em]) (by simp only [em]; rw [vup_keep (f := G) (j := 19) (x := G 19) rfl]) hP hD hS dM_bound_39
