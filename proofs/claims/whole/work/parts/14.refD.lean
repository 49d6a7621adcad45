def mr_M_legal (f26 : Int32) (g6 : Nat → Int32) (g7 : Nat → Int32) (g8 : Nat → Int32) (g9 : Nat → Int32) (g10 : Nat → Int32) (g11 : Nat → Int32) (g12 : Nat → Int32) (g13 : Nat → Int32) (g14 : Nat → Int32) (g15 : Nat → Int32) (g16 : Nat → Int32) (g17 : Nat → Int32) (g18 : Nat → Int32) (g19 : Nat → Int32) (g27 : Nat → Int32) (g28 : Nat → Int32) (nC : Nat) (nT : Nat) (nR : Nat) (nD : Nat) (d : Int32) : Int32 × Int32 × Int32 × (Nat → Int32) × (Nat → Int32) × (Nat → Int32) := (if ((if (mr_M_isDesign nD d) = 0 then 1 else 0) : Int32) ≤ 0 then (((mr_M_know f26 g6 g7 g8 g9 g10 g11 g12 g13 g14 g15 g16 g17 g18 g19 g27 g28 nC nT nR nD).2.2.1) d.toNatClampNeg, ((if (mr_M_isDesign nD d) = 0 then 1 else 0) : Int32), (mr_M_know f26 g6 g7 g8 g9 g10 g11 g12 g13 g14 g15 g16 g17 g18 g19 g27 g28 nC nT nR nD).1, (mr_M_know f26 g6 g7 g8 g9 g10 g11 g12 g13 g14 g15 g16 g17 g18 g19 g27 g28 nC nT nR nD).2.1, (mr_M_know f26 g6 g7 g8 g9 g10 g11 g12 g13 g14 g15 g16 g17 g18 g19 g27 g28 nC nT nR nD).2.2.1, (mr_M_know f26 g6 g7 g8 g9 g10 g11 g12 g13 g14 g15 g16 g17 g18 g19 g27 g28 nC nT nR nD).2.2.2) else (0, ((if (mr_M_isDesign nD d) = 0 then 1 else 0) : Int32), f26, g19, g27, g28))
set_option maxHeartbeats 4000000 in
set_option maxRecDepth 100000 in
theorem c_M_legal (l : Launch) (D : va_G) (cl : List vw_C) (hcl : cl[0]? = some (RM, TM, 29)) (a : Nat) (ba : Nat → Nat) (ka : Nat → ClassId) (F : Nat → Int32) (G : Nat → Nat → Int32) {H0 : Heap} (hP : va_P D cl (mW a ba ka F G) H0) (hD : va_D (fun _ => True) (mW a ba ka F G)) (nC : Nat) (nT : Nat) (nR : Nat) (nD : Nat) (d : Int32) (h2 : F 2 = nI nC) (hC : nC ≤ 8) (h3 : F 3 = nI nT) (hT : nT ≤ 100) (h4 : F 4 = nI nR) (hR : nR ≤ 40) (h5 : F 5 = nI nD) (hN : nD ≤ 4096) (h6 : ∀ c, c < nC → ∃ z : Nat, G 6 c = nI z ∧ 2 ≤ z ∧ z ≤ 6) (h8 : ∀ t, t < nT → ∃ x : Nat, x < nC ∧ G 8 t = nI x) (h10 : ∀ t, t < nT → G 10 t = -1 ∨ ∃ x : Nat, x < nC ∧ G 10 t = nI x) (h13 : ∀ j, j < nR → ∃ x : Nat, x < nC ∧ G 13 j = nI x) (h15 : ∀ j, j < nR → ∃ x : Nat, x < nC ∧ G 15 j = nI x) (h27 : ∀ j, narrow .boolean (.int (G 27 j)) = .int (G 27 j)) : ww_Met l yM_legal wsM_legal ({ frames := 4, cells := 0, slots := 0, locals := 92 } : Room) D cl (mT ka) H0 [.ref a, .int d] (mW a ba ka F G) (some (.int ((mr_M_legal (F 26) (G 6) (G 7) (G 8) (G 9) (G 10) (G 11) (G 12) (G 13) (G 14) (G 15) (G 16) (G 17) (G 18) (G 19) (G 27) (G 28) nC nT nR nD d).1))) (mW a ba ka (upd (upd F 0 ((mr_M_legal (F 26) (G 6) (G 7) (G 8) (G 9) (G 10) (G 11) (G 12) (G 13) (G 14) (G 15) (G 16) (G 17) (G 18) (G 19) (G 27) (G 28) nC nT nR nD d).2.1)) 26 ((mr_M_legal (F 26) (G 6) (G 7) (G 8) (G 9) (G 10) (G 11) (G 12) (G 13) (G 14) (G 15) (G 16) (G 17) (G 18) (G 19) (G 27) (G 28) nC nT nR nD d).2.2.1)) (va_up (va_up (va_up G 19 ((mr_M_legal (F 26) (G 6) (G 7) (G 8) (G 9) (G 10) (G 11) (G 12) (G 13) (G 14) (G 15) (G 16) (G 17) (G 18) (G 19) (G 27) (G 28) nC nT nR nD d).2.2.2.1)) 27 ((mr_M_legal (F 26) (G 6) (G 7) (G 8) (G 9) (G 10) (G 11) (G 12) (G 13) (G 14) (G 15) (G 16) (G 17) (G 18) (G 19) (G 27) (G 28) nC nT nR nD d).2.2.2.2.1)) 28 ((mr_M_legal (F 26) (G 6) (G 7) (G 8) (G 9) (G 10) (G 11) (G 12) (G 13) (G 14) (G 15) (G 16) (G 17) (G 18) (G 19) (G 27) (G 28) nC nT nR nD d).2.2.2.2.2))) := by
  refine ww_metZ (by unfold mr_M_legal; exact zb_f (zb_M_know h27 _) zb_0) (by decide) rfl (Nat.le_of_ble_eq_true rfl) hP hD ?_
  intro p e s m args below meth c Q A Sx hK hP hD hS hA ls hl hret
  obtain ⟨hx, hb, hml, hown, hts⟩ := id Sx
  have hl : lv_has ls 2 [(0, .ref a), (1, .int d)] := hl
  obtain ⟨H, eH⟩ : ∃ H : Heap, H = H0 := ⟨_, rfl⟩
  obtain ⟨locs, eL⟩ : ∃ L : List Loc, L = [] := ⟨_, rfl⟩
  have hP : va_P D cl (mW a ba ka F G) H := by rw [eH]; exact hP
  have hS : va_S A H0 H locs := by rw [eH, eL]; exact hS
  rw [show W p l e ({ frames := 4, cells := 0, slots := 0, locals := 92 } : Room) s m args below meth c H0 [] 0 0 Q (F0 m 0 ls []) = W p l e ({ frames := 4, cells := 0, slots := 0, locals := 92 } : Room) s m args below meth c H locs 0 0 Q (F0 m 0 ls []) by rw [eH, eL]]
  clear eH eL
  have f70 := hts _ (List.mem_cons_of_mem _ mfM_70)
  have inM_ : ∀ w ∈ wsM0, w ∈ wsM_legal := fun w h => List.mem_cons_of_mem _ (inM_all w h)
  have f60 := hts _ (List.mem_cons_of_mem _ mfM_60)
  refine lv_aload_n hx hb dM_legal_0 rfl (lv_at hl 0 rfl) ?_
  refine lv_aload_n hx hb dM_legal_1 rfl (lv_at hl 0 rfl) ?_
  refine lv_iload_n hx hb dM_legal_2 rfl (lv_at hl 1 rfl) ?_
  refine ro_callV (r := (.int (mr_M_isDesign nD d))) (As := [.int d]) (rest := [.ref a]) Sx (c_M_isDesign l D cl hcl a ba ka F G hP nD d h5) (cwV 1 hts gM_legal_M_isDesign rfl rfl rfl (by decide +kernel) ⟨Nat.le_of_ble_eq_true rfl, Nat.le_of_ble_eq_true rfl⟩) hK (va_recv hK hP (ci := 0) (q0 := 0) hcl rfl) rfl hl.1 rfl (Nat.le_of_ble_eq_true rfl) dM_legal_3 ⟨Nat.zero_le _, Nat.zero_le _⟩ ?_
  have j14 : ∀ (ls : Array Slot), lv_has ls 2 [(0, .ref a), (1, .int d)] → W p l e ({ frames := 4, cells := 0, slots := 0, locals := 92 } : Room) s m args below meth c H locs 0 0 Q (F0 m 14 ls [.int ((if (mr_M_isDesign nD d) = 0 then 1 else 0) : Int32), .ref a]) := by
    intro ls hl
    refine va_put (D := D) (ci := 0) (fs := mWl0 ba F) (v := .int ((if (mr_M_isDesign nD d) = 0 then 1 else 0) : Int32)) (ty := .int) (C := RM) (T := TM) (N := 29) hx hb hts inM_ tyM tyM_ok nmM hown hK hP hD hS 0 rfl hcl 0 (by decide) f70 (fun _ h9 => h9) rfl (by decide +kernel) rfl rfl (Nat.le_of_ble_eq_true rfl) dM_legal_14 (fun H locs hP hD hS => ?_)
    rw [mW_f0] at hP hD
    refine lv_aload_n hx hb dM_legal_17 rfl (lv_at hl 0 rfl) ?_
    have ef18 : (upd F 0 ((if (mr_M_isDesign nD d) = 0 then 1 else 0) : Int32)) 0 = ((if (mr_M_isDesign nD d) = 0 then 1 else 0) : Int32) := by rw [pk_us]
    refine va_get (D := D) (ci := 0) (v := .int ((if (mr_M_isDesign nD d) = 0 then 1 else 0) : Int32)) (C := RM) (T := TM) (N := 29) hx hb hts inM_ hown hK hP 0 rfl hcl 0 (by decide) f70 (fun _ h9 => h9) (congrArg (fun z => some (Value.int z)) ef18) dM_legal_18 ?_
    refine lv_if_le (tgt := 26) hx hb dM_legal_21 (by decide) (fun c21 => ?_) (fun c21 => ?_)
    · have xd := ix_cl (wd_ix (bq_c c21) hN) (by omega)
      refine lv_aload_n hx hb dM_legal_26 rfl (lv_at hl 0 rfl) ?_
      refine ww_callV (r := none) (w' := mW a ba ka (upd (upd F 0 ((if (mr_M_isDesign nD d) = 0 then 1 else 0) : Int32)) 26 ((mr_M_know (F 26) (G 6) (G 7) (G 8) (G 9) (G 10) (G 11) (G 12) (G 13) (G 14) (G 15) (G 16) (G 17) (G 18) (G 19) (G 27) (G 28) nC nT nR nD).1)) (va_up (va_up (va_up G 19 ((mr_M_know (F 26) (G 6) (G 7) (G 8) (G 9) (G 10) (G 11) (G 12) (G 13) (G 14) (G 15) (G 16) (G 17) (G 18) (G 19) (G 27) (G 28) nC nT nR nD).2.1)) 27 ((mr_M_know (F 26) (G 6) (G 7) (G 8) (G 9) (G 10) (G 11) (G 12) (G 13) (G 14) (G 15) (G 16) (G 17) (G 18) (G 19) (G 27) (G 28) nC nT nR nD).2.2.1)) 28 ((mr_M_know (F 26) (G 6) (G 7) (G 8) (G 9) (G 10) (G 11) (G 12) (G 13) (G 14) (G 15) (G 16) (G 17) (G 18) (G 19) (G 27) (G 28) nC nT nR nD).2.2.2))) (As := []) (rest := []) Sx (c_M_know l D cl hcl a ba ka (upd F 0 ((if (mr_M_isDesign nD d) = 0 then 1 else 0) : Int32)) G hP (hD.weaken (fun _ _ _ _ => trivial)) nC nT nR nD h2 hC h3 hT h4 hR h5 hN h6 h8 h10 h13 h15) (cwV 0 hts gM_legal_M_know rfl rfl rfl (by decide +kernel) ⟨Nat.le_of_ble_eq_true rfl, Nat.le_of_ble_eq_true rfl⟩) hK (va_recv hK hP (ci := 0) (q0 := 0) hcl rfl) rfl hl.1 rfl (Nat.le_of_ble_eq_true rfl) dM_legal_27 ⟨Nat.zero_le _, Nat.zero_le _⟩ hD hS hA (fun H locs hP hD hS => ?_)
      refine lv_aload_n hx hb dM_legal_30 rfl (lv_at hl 0 rfl) ?_
      refine va_get (D := D) (ci := 0) (v := .ref (ba 27)) (C := RM) (T := TM) (N := 29) hx hb hts inM_ hown hK hP 0 rfl hcl 27 (by decide) f60 (fun _ h9 => h9) rfl dM_legal_31 ?_
      refine lv_iload_n hx hb dM_legal_34 rfl (lv_at hl 1 rfl) ?_
      refine wt_i (r := nI d.toNatClampNeg) (by exact xd.1) ?_
      have sd35 : d.toNatClampNeg < 4096 := by omega
      have eg35 : (va_up (va_up (va_up G 19 ((mr_M_know (F 26) (G 6) (G 7) (G 8) (G 9) (G 10) (G 11) (G 12) (G 13) (G 14) (G 15) (G 16) (G 17) (G 18) (G 19) (G 27) (G 28) nC nT nR nD).2.1)) 27 ((mr_M_know (F 26) (G 6) (G 7) (G 8) (G 9) (G 10) (G 11) (G 12) (G 13) (G 14) (G 15) (G 16) (G 17) (G 18) (G 19) (G 27) (G 28) nC nT nR nD).2.2.1)) 28 ((mr_M_know (F 26) (G 6) (G 7) (G 8) (G 9) (G 10) (G 11) (G 12) (G 13) (G 14) (G 15) (G 16) (G 17) (G 18) (G 19) (G 27) (G 28) nC nT nR nD).2.2.2)) 27 = (mr_M_know (F 26) (G 6) (G 7) (G 8) (G 9) (G 10) (G 11) (G 12) (G 13) (G 14) (G 15) (G 16) (G 17) (G 18) (G 19) (G 27) (G 28) nC nT nR nD).2.2.1 := by rw [vup_un (k := 28) (j := 27) (by decide), vup_us]
      refine wn_zald (f := (mr_M_know (F 26) (G 6) (G 7) (G 8) (G 9) (G 10) (G 11) (G 12) (G 13) (G 14) (G 15) (G 16) (G 17) (G 18) (G 19) (G 27) (G 28) nC nT nR nD).2.2.1) hx hb hK hP 15 14 (congrArg (fun z : Nat → Int32 => (some ((ba 27), (.inl ((ka 27), 4096, .inl z) : va_E)) : Option (Nat × va_E))) eg35) rfl d.toNatClampNeg rfl sd35 (by decide) dM_legal_35 ?_
      have em : mr_M_legal (F 26) (G 6) (G 7) (G 8) (G 9) (G 10) (G 11) (G 12) (G 13) (G 14) (G 15) (G 16) (G 17) (G 18) (G 19) (G 27) (G 28) nC nT nR nD d = (((mr_M_know (F 26) (G 6) (G 7) (G 8) (G 9) (G 10) (G 11) (G 12) (G 13) (G 14) (G 15) (G 16) (G 17) (G 18) (G 19) (G 27) (G 28) nC nT nR nD).2.2.1) d.toNatClampNeg, ((if (mr_M_isDesign nD d) = 0 then 1 else 0) : Int32), (mr_M_know (F 26) (G 6) (G 7) (G 8) (G 9) (G 10) (G 11) (G 12) (G 13) (G 14) (G 15) (G 16) (G 17) (G 18) (G 19) (G 27) (G 28) nC nT nR nD).1, (mr_M_know (F 26) (G 6) (G 7) (G 8) (G 9) (G 10) (G 11) (G 12) (G 13) (G 14) (G 15) (G 16) (G 17) (G 18) (G 19) (G 27) (G 28) nC nT nR nD).2.1, (mr_M_know (F 26) (G 6) (G 7) (G 8) (G 9) (G 10) (G 11) (G 12) (G 13) (G 14) (G 15) (G 16) (G 17) (G 18) (G 19) (G 27) (G 28) nC nT nR nD).2.2.1, (mr_M_know (F 26) (G 6) (G 7) (G 8) (G 9) (G 10) (G 11) (G 12) (G 13) (G 14) (G 15) (G 16) (G 17) (G 18) (G 19) (G 27) (G 28) nC nT nR nD).2.2.2) := by rw [mr_M_legal, if_pos c21]
      exact hret _ _ _ _ _ _ (by simp only [em]) (by simp only [em]) hP hD hS dM_legal_36
    · refine lv_iconst (v := 0) hx hb dM_legal_24 (by decide) ?_
      have em : mr_M_legal (F 26) (G 6) (G 7) (G 8) (G 9) (G 10) (G 11) (G 12) (G 13) (G 14) (G 15) (G 16) (G 17) (G 18) (G 19) (G 27) (G 28) nC nT nR nD d = (0, ((if (mr_M_isDesign nD d) = 0 then 1 else 0) : Int32), F 26, G 19, G 27, G 28) := by rw [mr_M_legal, if_neg c21]
      exact hret _ _ _ _ _ _ (by simp only [em]) (by simp only [em]; rw [upd_keep (f := upd F 0 ((if (mr_M_isDesign nD d) = 0 then 1 else 0) : Int32)) (j := 26) (x := F 26) rfl, vup_keep (f := G) (j := 19) (x := G 19) rfl, vup_keep (f := G) (j := 27) (x := G 27) rfl, vup_keep (f := G) (j := 28) (x := G 28) rfl]) hP hD hS dM_legal_25
  refine lv_if_eq (tgt := 13) hx hb dM_legal_6 (by decide) (fun c6 => ?_) (fun c6 => ?_)
  · refine lv_iconst (v := 1) hx hb dM_legal_13 (by decide) ?_
    exact wt_i (by rw [if_pos c6]) (j14 ls hl)
  · refine lv_iconst (v := 0) hx hb dM_legal_9 (by decide) ?_
    refine lv_goto (tgt := 14) hx hb dM_legal_10 (by decide) ?_
    exact wt_i (by rw [if_neg c6]) (j14 ls hl)
def mr_M_limit (f26 : Int32) (g17 : Nat → Int32) (g18 : Nat → Int32) (nu : Int32) (on : Int32) (mo : Int32) : Int32 × Int32 × Int32 × (Nat → Int32) × (Nat → Int32) := (if ((if (mr_M_within nu 0 3) = 0 then 1 else 0) : Int32) ≤ 0 then (g17 nu.toNatClampNeg, ((if (mr_M_within nu 0 3) = 0 then 1 else 0) : Int32), 0, upd g17 nu.toNatClampNeg on, upd g18 nu.toNatClampNeg mo) else (0, ((if (mr_M_within nu 0 3) = 0 then 1 else 0) : Int32), f26, g17, g18))
set_option maxHeartbeats 4000000 in
set_option maxRecDepth 100000 in
theorem c_M_limit (l : Launch) (D : va_G) (cl : List vw_C) (hcl : cl[0]? = some (RM, TM, 29)) (a : Nat) (ba : Nat → Nat) (ka : Nat → ClassId) (F : Nat → Int32) (G : Nat → Nat → Int32) {H0 : Heap} (hP : va_P D cl (mW a ba ka F G) H0) (hD : va_D (fun _ => True) (mW a ba ka F G)) (nu : Int32) (on : Int32) (mo : Int32) (h17 : ∀ j, narrow .boolean (.int (G 17 j)) = .int (G 17 j)) (hon : vp_nar .boolean on = on) : ww_Met l yM_limit wsM_limit ({ frames := 1, cells := 0, slots := 0, locals := 22 } : Room) D cl (mT ka) H0 [.ref a, .int nu, .int on, .int mo] (mW a ba ka F G) (some (.int ((mr_M_limit (F 26) (G 17) (G 18) nu on mo).1))) (mW a ba ka (upd (upd F 0 ((mr_M_limit (F 26) (G 17) (G 18) nu on mo).2.1)) 26 ((mr_M_limit (F 26) (G 17) (G 18) nu on mo).2.2.1)) (va_up (va_up G 17 ((mr_M_limit (F 26) (G 17) (G 18) nu on mo).2.2.2.1)) 18 ((mr_M_limit (F 26) (G 17) (G 18) nu on mo).2.2.2.2))) := by
  refine ww_metZ (by unfold mr_M_limit; exact zb_f (h17 _) zb_0) (by decide) rfl (Nat.le_of_ble_eq_true rfl) hP hD ?_
  intro p e s m args below meth c Q A Sx hK hP hD hS hA ls hl hret
  obtain ⟨hx, hb, hml, hown, hts⟩ := id Sx
  have hl : lv_has ls 5 [(0, .ref a), (1, .int nu), (2, .int on), (3, .int mo)] := hl
  obtain ⟨H, eH⟩ : ∃ H : Heap, H = H0 := ⟨_, rfl⟩
  obtain ⟨locs, eL⟩ : ∃ L : List Loc, L = [] := ⟨_, rfl⟩
  have hP : va_P D cl (mW a ba ka F G) H := by rw [eH]; exact hP
  have hS : va_S A H0 H locs := by rw [eH, eL]; exact hS
  rw [show W p l e ({ frames := 1, cells := 0, slots := 0, locals := 22 } : Room) s m args below meth c H0 [] 0 0 Q (F0 m 0 ls []) = W p l e ({ frames := 1, cells := 0, slots := 0, locals := 22 } : Room) s m args below meth c H locs 0 0 Q (F0 m 0 ls []) by rw [eH, eL]]
  clear eH eL
  have f70 := hts _ (List.mem_cons_of_mem _ mfM_70)
  have inM_ : ∀ w ∈ wsM0, w ∈ wsM_limit := fun w h => List.mem_cons_of_mem _ (inM_all w h)
  have f47 := hts _ (List.mem_cons_of_mem _ mfM_47)
  have f51 := hts _ (List.mem_cons_of_mem _ mfM_51)
  have f90 := hts _ (List.mem_cons_of_mem _ mfM_90)
  refine lv_aload_n hx hb dM_limit_0 rfl (lv_at hl 0 rfl) ?_
  refine lv_iload_n hx hb dM_limit_1 rfl (lv_at hl 1 rfl) ?_
  refine lv_iconst (v := 0) hx hb dM_limit_2 (by decide) ?_
  refine lv_iconst (v := 3) hx hb dM_limit_3 (by decide) ?_
  refine ro_callS (r := (.int (mr_M_within nu 0 3))) (As := [.int nu, .int 0, .int 3]) (rest := [.ref a]) Sx (c_M_within l D cl hcl a ba ka F G hP nu 0 3) (va_cwS 3 hts gM_limit_M_within rfl rfl rfl (by decide +kernel) ⟨Nat.le_of_ble_eq_true rfl, Nat.le_of_ble_eq_true rfl⟩) hK rfl hl.1 rfl (Nat.le_of_ble_eq_true rfl) dM_limit_4 ⟨Nat.zero_le _, Nat.zero_le _⟩ ?_
  have j15 : ∀ (ls : Array Slot), lv_has ls 5 [(0, .ref a), (1, .int nu), (2, .int on), (3, .int mo)] → W p l e ({ frames := 1, cells := 0, slots := 0, locals := 22 } : Room) s m args below meth c H locs 0 0 Q (F0 m 15 ls [.int ((if (mr_M_within nu 0 3) = 0 then 1 else 0) : Int32), .ref a]) := by
    intro ls hl
    refine va_put (D := D) (ci := 0) (fs := mWl0 ba F) (v := .int ((if (mr_M_within nu 0 3) = 0 then 1 else 0) : Int32)) (ty := .int) (C := RM) (T := TM) (N := 29) hx hb hts inM_ tyM tyM_ok nmM hown hK hP hD hS 0 rfl hcl 0 (by decide) f70 (fun _ h9 => h9) rfl (by decide +kernel) rfl rfl (Nat.le_of_ble_eq_true rfl) dM_limit_15 (fun H locs hP hD hS => ?_)
    rw [mW_f0] at hP hD
    refine lv_aload_n hx hb dM_limit_18 rfl (lv_at hl 0 rfl) ?_
    have ef19 : (upd F 0 ((if (mr_M_within nu 0 3) = 0 then 1 else 0) : Int32)) 0 = ((if (mr_M_within nu 0 3) = 0 then 1 else 0) : Int32) := by rw [pk_us]
    refine va_get (D := D) (ci := 0) (v := .int ((if (mr_M_within nu 0 3) = 0 then 1 else 0) : Int32)) (C := RM) (T := TM) (N := 29) hx hb hts inM_ hown hK hP 0 rfl hcl 0 (by decide) f70 (fun _ h9 => h9) (congrArg (fun z => some (Value.int z)) ef19) dM_limit_19 ?_
    refine lv_if_le (tgt := 27) hx hb dM_limit_22 (by decide) (fun c22 => ?_) (fun c22 => ?_)
    · have xn := ix_cl (wi_nx (n := 3) (bq_c c22) (by decide)) (by omega)
      refine lv_aload_n hx hb dM_limit_27 rfl (lv_at hl 0 rfl) ?_
      refine va_get (D := D) (ci := 0) (v := .ref (ba 17)) (C := RM) (T := TM) (N := 29) hx hb hts inM_ hown hK hP 0 rfl hcl 17 (by decide) f47 (fun _ h9 => h9) rfl dM_limit_28 ?_
      refine lv_iload_n hx hb dM_limit_31 rfl (lv_at hl 1 rfl) ?_
      refine wt_i (r := nI nu.toNatClampNeg) (by exact xn.1) ?_
      have sd32 : nu.toNatClampNeg < 4 := by omega
      refine wn_zald (f := G 17) hx hb hK hP 12 11 rfl rfl nu.toNatClampNeg rfl sd32 (by decide) dM_limit_32 ?_
      refine lv_istore (lv' := [(4, .int (G 17 nu.toNatClampNeg)), (0, .ref a), (1, .int nu), (2, .int on), (3, .int mo)]) hx hb dM_limit_33 hl (by decide) rfl (fun ls hl => ?_)
      refine lv_aload_n hx hb dM_limit_35 rfl (lv_at hl 1 rfl) ?_
      refine va_get (D := D) (ci := 0) (v := .ref (ba 17)) (C := RM) (T := TM) (N := 29) hx hb hts inM_ hown hK hP 0 rfl hcl 17 (by decide) f47 (fun _ h9 => h9) rfl dM_limit_36 ?_
      refine lv_iload_n hx hb dM_limit_39 rfl (lv_at hl 2 rfl) ?_
      refine wt_i (r := nI nu.toNatClampNeg) (by exact xn.1) ?_
      refine lv_iload_n hx hb dM_limit_40 rfl (lv_at hl 3 rfl) ?_
      have sd41 : nu.toNatClampNeg < 4 := by omega
      refine wn_zast (f := G 17) hx hb hK hP hD hS 12 11 rfl rfl nu.toNatClampNeg rfl sd41 (by decide) (by exact hon) dM_limit_41 (fun H locs hP hD hS => ?_)
      rw [mW_g17] at hP hD
      refine lv_aload_n hx hb dM_limit_42 rfl (lv_at hl 1 rfl) ?_
      refine va_get (D := D) (ci := 0) (v := .ref (ba 18)) (C := RM) (T := TM) (N := 29) hx hb hts inM_ hown hK hP 0 rfl hcl 18 (by decide) f51 (fun _ h9 => h9) rfl dM_limit_43 ?_
      refine lv_iload_n hx hb dM_limit_46 rfl (lv_at hl 2 rfl) ?_
      refine wt_i (r := nI nu.toNatClampNeg) (by exact xn.1) ?_
      refine lv_iload_n hx hb dM_limit_47 rfl (lv_at hl 4 rfl) ?_
      have sd48 : nu.toNatClampNeg < 4 := by omega
      refine wn_iast (f := G 18) hx hb hK hP hD hS 13 12 rfl rfl nu.toNatClampNeg rfl sd48 (by decide) dM_limit_48 (fun H locs hP hD hS => ?_)
      rw [mW_g18] at hP hD
      refine lv_aload_n hx hb dM_limit_49 rfl (lv_at hl 1 rfl) ?_
      refine lv_iconst (v := 0) hx hb dM_limit_50 (by decide) ?_
      refine va_put (D := D) (ci := 0) (fs := mWl0 ba (upd F 0 ((if (mr_M_within nu 0 3) = 0 then 1 else 0) : Int32))) (v := .int 0) (ty := .boolean) (C := RM) (T := TM) (N := 29) hx hb hts inM_ tyM tyM_ok nmM hown hK hP hD hS 0 rfl hcl 26 (by decide) f90 (fun _ h9 => h9) rfl (by decide +kernel) (by first | rfl | assumption) rfl (Nat.le_of_ble_eq_true rfl) dM_limit_51 (fun H locs hP hD hS => ?_)
      rw [mW_f26] at hP hD
      refine lv_iload hx hb dM_limit_54 (lv_at hl 0 rfl) ?_
      have em : mr_M_limit (F 26) (G 17) (G 18) nu on mo = (G 17 nu.toNatClampNeg, ((if (mr_M_within nu 0 3) = 0 then 1 else 0) : Int32), 0, upd (G 17) nu.toNatClampNeg on, upd (G 18) nu.toNatClampNeg mo) := by rw [mr_M_limit, if_pos c22]
      exact hret _ _ _ _ _ _ (by simp only [em]) (by simp only [em]) hP hD hS dM_limit_56
    · refine lv_iconst (v := 0) hx hb dM_limit_25 (by decide) ?_
      have em : mr_M_limit (F 26) (G 17) (G 18) nu on mo = (0, ((if (mr_M_within nu 0 3) = 0 then 1 else 0) : Int32), F 26, G 17, G 18) := by rw [mr_M_limit, if_neg c22]
      exact hret _ _ _ _ _ _ (by simp only [em]) (by simp only [em]; rw [upd_keep (f := upd F 0 ((if (mr_M_within nu 0 3) = 0 then 1 else 0) : Int32)) (j := 26) (x := F 26) rfl, vup_keep (f := G) (j := 17) (x := G 17) rfl, vup_keep (f := G) (j := 18) (x := G 18) rfl]) hP hD hS dM_limit_26
  refine lv_if_eq (tgt := 14) hx hb dM_limit_7 (by decide) (fun c7 => ?_) (fun c7 => ?_)
  · refine lv_iconst (v := 1) hx hb dM_limit_14 (by decide) ?_
    exact wt_i (by rw [if_pos c7]) (j15 ls hl)
  · refine lv_iconst (v := 0) hx hb dM_limit_10 (by decide) ?_
    refine lv_goto (tgt := 15) hx hb dM_limit_11 (by decide) ?_
    exact wt_i (by rw [if_neg c7]) (j15 ls hl)
def mr_M_near (g6 : Nat → Int32) (g19 : Nat → Int32) (nC : Nat) (nD : Nat) (d : Int32) (q : Int32) : Int32 × Int32 × (Nat → Int32) := (if (mr_M_isDesign nD d) = 0 then ((mr_M_fail 1).1, (mr_M_fail 1).2, g19) else (if (mr_M_within q 0 ((mr_M_nears g6 nC) - 1)) = 0 then ((mr_M_fail 1).1, (mr_M_fail 1).2, g19) else ((mr_M_nearOf g6 g19 nC d.toNatClampNeg q).1, 0, (mr_M_nearOf g6 g19 nC d.toNatClampNeg q).2)))
set_option maxHeartbeats 4000000 in
set_option maxRecDepth 100000 in
theorem c_M_near (l : Launch) (D : va_G) (cl : List vw_C) (hcl : cl[0]? = some (RM, TM, 29)) (a : Nat) (ba : Nat → Nat) (ka : Nat → ClassId) (F : Nat → Int32) (G : Nat → Nat → Int32) {H0 : Heap} (hP : va_P D cl (mW a ba ka F G) H0) (hD : va_D (fun _ => True) (mW a ba ka F G)) (nC : Nat) (nD : Nat) (d : Int32) (q : Int32) (h2 : F 2 = nI nC) (hC : nC ≤ 8) (h5 : F 5 = nI nD) (hN : nD ≤ 4096) (h6 : ∀ c, c < nC → ∃ z : Nat, G 6 c = nI z ∧ 2 ≤ z ∧ z ≤ 6) : ww_Met l yM_near wsM_near ({ frames := 2, cells := 0, slots := 0, locals := 49 } : Room) D cl (mT ka) H0 [.ref a, .int d, .int q] (mW a ba ka F G) (some (.int ((mr_M_near (G 6) (G 19) nC nD d q).1))) (mW a ba ka (upd F 0 ((mr_M_near (G 6) (G 19) nC nD d q).2.1)) (va_up G 19 ((mr_M_near (G 6) (G 19) nC nD d q).2.2))) := by
  refine ww_metI (by decide) rfl (Nat.le_of_ble_eq_true rfl) hP hD ?_
  intro p e s m args below meth c Q A Sx hK hP hD hS hA ls hl hret
  obtain ⟨hx, hb, hml, hown, hts⟩ := id Sx
  have hl : lv_has ls 3 [(0, .ref a), (1, .int d), (2, .int q)] := hl
  obtain ⟨H, eH⟩ : ∃ H : Heap, H = H0 := ⟨_, rfl⟩
  obtain ⟨locs, eL⟩ : ∃ L : List Loc, L = [] := ⟨_, rfl⟩
  have hP : va_P D cl (mW a ba ka F G) H := by rw [eH]; exact hP
  have hS : va_S A H0 H locs := by rw [eH, eL]; exact hS
  rw [show W p l e ({ frames := 2, cells := 0, slots := 0, locals := 49 } : Room) s m args below meth c H0 [] 0 0 Q (F0 m 0 ls []) = W p l e ({ frames := 2, cells := 0, slots := 0, locals := 49 } : Room) s m args below meth c H locs 0 0 Q (F0 m 0 ls []) by rw [eH, eL]]
  clear eH eL
  have f70 := hts _ (List.mem_cons_of_mem _ mfM_70)
  have inM_ : ∀ w ∈ wsM0, w ∈ wsM_near := fun w h => List.mem_cons_of_mem _ (inM_all w h)
  refine lv_aload_n hx hb dM_near_0 rfl (lv_at hl 0 rfl) ?_
  refine lv_iconst (v := 0) hx hb dM_near_1 (by decide) ?_
  refine va_put (D := D) (ci := 0) (fs := mWl0 ba F) (v := .int 0) (ty := .int) (C := RM) (T := TM) (N := 29) hx hb hts inM_ tyM tyM_ok nmM hown hK hP hD hS 0 rfl hcl 0 (by decide) f70 (fun _ h9 => h9) rfl (by decide +kernel) rfl rfl (Nat.le_of_ble_eq_true rfl) dM_near_2 (fun H locs hP hD hS => ?_)
  rw [mW_f0] at hP hD
  refine lv_aload_n hx hb dM_near_5 rfl (lv_at hl 0 rfl) ?_
  refine lv_iload_n hx hb dM_near_6 rfl (lv_at hl 1 rfl) ?_
  refine ro_callV (r := (.int (mr_M_isDesign nD d))) (As := [.int d]) (rest := []) Sx (c_M_isDesign l D cl hcl a ba ka (upd F 0 0) G hP nD d h5) (cwV 1 hts gM_near_M_isDesign rfl rfl rfl (by decide +kernel) ⟨Nat.le_of_ble_eq_true rfl, Nat.le_of_ble_eq_true rfl⟩) hK (va_recv hK hP (ci := 0) (q0 := 0) hcl rfl) rfl hl.1 rfl (Nat.le_of_ble_eq_true rfl) dM_near_7 ⟨Nat.zero_le _, Nat.zero_le _⟩ ?_
  refine lv_if_eq (tgt := 27) hx hb dM_near_10 (by decide) (fun c10 => ?_) (fun c10 => ?_)
  · refine lv_aload_n hx hb dM_near_27 rfl (lv_at hl 0 rfl) ?_
    refine lv_iconst (v := 1) hx hb dM_near_28 (by decide) ?_
    refine ww_callV (r := (some (.int ((mr_M_fail 1).1)))) (w' := mW a ba ka (upd (upd F 0 0) 0 ((mr_M_fail 1).2)) G) (As := [.int 1]) (rest := []) Sx (c_M_fail l D cl hcl a ba ka (upd F 0 0) G hP (hD.weaken (fun _ _ _ _ => trivial)) 1) (cwV 1 hts gM_near_M_fail rfl rfl rfl (by decide +kernel) ⟨Nat.le_of_ble_eq_true rfl, Nat.le_of_ble_eq_true rfl⟩) hK (va_recv hK hP (ci := 0) (q0 := 0) hcl rfl) rfl hl.1 rfl (Nat.le_of_ble_eq_true rfl) dM_near_29 ⟨Nat.zero_le _, Nat.zero_le _⟩ hD hS hA (fun H locs hP hD hS => ?_)
    rw [upd_ow] at hP hD
    have em : mr_M_near (G 6) (G 19) nC nD d q = ((mr_M_fail 1).1, (mr_M_fail 1).2, G 19) := by rw [mr_M_near, if_pos c10]
    exact hret _ _ _ _ _ _ (by simp only [em]) (by simp only [em]; rw [vup_keep (f := G) (j := 19) (x := G 19) rfl]) hP hD hS dM_near_32
  · have xd := ix_cl (wd_ix c10 hN) (by omega)
    refine lv_iload_n hx hb dM_near_13 rfl (lv_at hl 2 rfl) ?_
    refine lv_iconst (v := 0) hx hb dM_near_14 (by decide) ?_
    refine lv_aload_n hx hb dM_near_15 rfl (lv_at hl 0 rfl) ?_
    refine ro_callV (r := (.int (mr_M_nears (G 6) nC))) (As := []) (rest := [.int 0, .int q]) Sx (c_M_nears l D cl hcl a ba ka (upd F 0 0) G hP nC h2 hC) (cwV 0 hts gM_near_M_nears rfl rfl rfl (by decide +kernel) ⟨Nat.le_of_ble_eq_true rfl, Nat.le_of_ble_eq_true rfl⟩) hK (va_recv hK hP (ci := 0) (q0 := 0) hcl rfl) rfl hl.1 rfl (Nat.le_of_ble_eq_true rfl) dM_near_16 ⟨Nat.zero_le _, Nat.zero_le _⟩ ?_
    refine lv_iconst (v := 1) hx hb dM_near_19 (by decide) ?_
    refine lv_isub hx hb dM_near_20 ?_
    refine ro_callS (r := (.int (mr_M_within q 0 ((mr_M_nears (G 6) nC) - 1)))) (As := [.int q, .int 0, .int ((mr_M_nears (G 6) nC) - 1)]) (rest := []) Sx (c_M_within l D cl hcl a ba ka (upd F 0 0) G hP q 0 ((mr_M_nears (G 6) nC) - 1)) (va_cwS 3 hts gM_near_M_within rfl rfl rfl (by decide +kernel) ⟨Nat.le_of_ble_eq_true rfl, Nat.le_of_ble_eq_true rfl⟩) hK rfl hl.1 rfl (Nat.le_of_ble_eq_true rfl) dM_near_21 ⟨Nat.zero_le _, Nat.zero_le _⟩ ?_
    refine lv_if_ne (tgt := 33) hx hb dM_near_24 (by decide) (fun c24 => ?_) (fun c24 => ?_)
    · refine lv_aload_n hx hb dM_near_33 rfl (lv_at hl 0 rfl) ?_
      refine lv_iload_n hx hb dM_near_34 rfl (lv_at hl 1 rfl) ?_
      refine wt_i (r := nI d.toNatClampNeg) (by exact xd.1) ?_
      refine lv_iload_n hx hb dM_near_35 rfl (lv_at hl 2 rfl) ?_
      refine ww_callV (r := (some (.int ((mr_M_nearOf (G 6) (G 19) nC d.toNatClampNeg q).1)))) (w' := mW a ba ka (upd F 0 0) (va_up G 19 ((mr_M_nearOf (G 6) (G 19) nC d.toNatClampNeg q).2))) (As := [.int (nI d.toNatClampNeg), .int q]) (rest := []) Sx (c_M_nearOf l D cl hcl a ba ka (upd F 0 0) G hP (hD.weaken (fun _ _ _ _ => trivial)) nC d.toNatClampNeg q h2 hC h6) (cwV 2 hts gM_near_M_nearOf rfl rfl rfl (by decide +kernel) ⟨Nat.le_of_ble_eq_true rfl, Nat.le_of_ble_eq_true rfl⟩) hK (va_recv hK hP (ci := 0) (q0 := 0) hcl rfl) rfl hl.1 rfl (Nat.le_of_ble_eq_true rfl) dM_near_36 ⟨Nat.zero_le _, Nat.zero_le _⟩ hD hS hA (fun H locs hP hD hS => ?_)
      have em : mr_M_near (G 6) (G 19) nC nD d q = ((mr_M_nearOf (G 6) (G 19) nC d.toNatClampNeg q).1, 0, (mr_M_nearOf (G 6) (G 19) nC d.toNatClampNeg q).2) := by rw [mr_M_near, if_neg c10, if_neg c24]
      exact hret _ _ _ _ _ _ (by simp only [em]) (by simp only [em]) hP hD hS dM_near_39
    · refine lv_aload_n hx hb dM_near_27 rfl (lv_at hl 0 rfl) ?_
      refine lv_iconst (v := 1) hx hb dM_near_28 (by decide) ?_
      refine ww_callV (r := (some (.int ((mr_M_fail 1).1)))) (w' := mW a ba ka (upd (upd F 0 0) 0 ((mr_M_fail 1).2)) G) (As := [.int 1]) (rest := []) Sx (c_M_fail l D cl hcl a ba ka (upd F 0 0) G hP (hD.weaken (fun _ _ _ _ => trivial)) 1) (cwV 1 hts gM_near_M_fail rfl rfl rfl (by decide +kernel) ⟨Nat.le_of_ble_eq_true rfl, Nat.le_of_ble_eq_true rfl⟩) hK (va_recv hK hP (ci := 0) (q0 := 0) hcl rfl) rfl hl.1 rfl (Nat.le_of_ble_eq_true rfl) dM_near_29 ⟨Nat.zero_le _, Nat.zero_le _⟩ hD hS hA (fun H locs hP hD hS => ?_)
      rw [upd_ow] at hP hD
      have em : mr_M_near (G 6) (G 19) nC nD d q = ((mr_M_fail 1).1, (mr_M_fail 1).2, G 19) := by rw [mr_M_near, if_neg c10, if_pos c24]
      exact hret _ _ _ _ _ _ (by simp only [em]) (by simp only [em]; rw [vup_keep (f := G) (j := 19) (x := G 19) rfl]) hP hD hS dM_near_32
def lf_M_sweep_47 (nC : Nat) (nT : Nat) (nR : Nat) (nD : Nat) (pl : Nat) (n : Int32) (qg27_47 : Nat → Int32) : Nat → Int32 → Nat → Nat → Int32 × Nat × Nat
  | 0, fo, j, pq => (fo, j, pq)
  | N + 1, fo, j, pq => (if n ≤ (nI j) then (fo, j, pq) else (if (nI nD) ≤ (nI pq) then (fo, j, pq) else lf_M_sweep_47 nC nT nR nD pl n qg27_47 N (fo + ((if (qg27_47 pq) = 0 then 0 else 1) : Int32)) (j + 1) (pq + 1)))
def mr_M_sweep (f24 : Int32) (f25 : Int32) (f26 : Int32) (g6 : Nat → Int32) (g7 : Nat → Int32) (g8 : Nat → Int32) (g9 : Nat → Int32) (g10 : Nat → Int32) (g11 : Nat → Int32) (g12 : Nat → Int32) (g13 : Nat → Int32) (g14 : Nat → Int32) (g15 : Nat → Int32) (g16 : Nat → Int32) (g17 : Nat → Int32) (g18 : Nat → Int32) (g19 : Nat → Int32) (g27 : Nat → Int32) (g28 : Nat → Int32) (nC : Nat) (nT : Nat) (nR : Nat) (nD : Nat) (pl : Nat) (n : Int32) : Int32 × Int32 × Int32 × Int32 × Int32 × (Nat → Int32) × (Nat → Int32) × (Nat → Int32) := (if (mr_M_within n 1 5000) = 0 then ((mr_M_fail 1).1, (mr_M_fail 1).2, f24, f25, f26, g19, g27, g28) else (if (nI pl) = (nI nD) then ((mr_M_fail 2).1, (mr_M_fail 2).2, f24, f25, f26, g19, g27, g28) else ((lf_M_sweep_47 nC nT nR nD pl n ((mr_M_know f26 g6 g7 g8 g9 g10 g11 g12 g13 g14 g15 g16 g17 g18 g19 g27 g28 nC nT nR nD).2.2.1) (nD + 1) 0 0 pl).1, 0, nI ((lf_M_sweep_47 nC nT nR nD pl n ((mr_M_know f26 g6 g7 g8 g9 g10 g11 g12 g13 g14 g15 g16 g17 g18 g19 g27 g28 nC nT nR nD).2.2.1) (nD + 1) 0 0 pl).2.2), f25 + ((lf_M_sweep_47 nC nT nR nD pl n ((mr_M_know f26 g6 g7 g8 g9 g10 g11 g12 g13 g14 g15 g16 g17 g18 g19 g27 g28 nC nT nR nD).2.2.1) (nD + 1) 0 0 pl).1), (mr_M_know f26 g6 g7 g8 g9 g10 g11 g12 g13 g14 g15 g16 g17 g18 g19 g27 g28 nC nT nR nD).1, (mr_M_know f26 g6 g7 g8 g9 g10 g11 g12 g13 g14 g15 g16 g17 g18 g19 g27 g28 nC nT nR nD).2.1, (mr_M_know f26 g6 g7 g8 g9 g10 g11 g12 g13 g14 g15 g16 g17 g18 g19 g27 g28 nC nT nR nD).2.2.1, (mr_M_know f26 g6 g7 g8 g9 g10 g11 g12 g13 g14 g15 g16 g17 g18 g19 g27 g28 nC nT nR nD).2.2.2)))
set_option maxHeartbeats 4000000 in
set_option maxRecDepth 100000 in
theorem c_M_sweep (l : Launch) (D : va_G) (cl : List vw_C) (hcl : cl[0]? = some (RM, TM, 29)) (a : Nat) (ba : Nat → Nat) (ka : Nat → ClassId) (F : Nat → Int32) (G : Nat → Nat → Int32) {H0 : Heap} (hP : va_P D cl (mW a ba ka F G) H0) (hD : va_D (fun _ => True) (mW a ba ka F G)) (nC : Nat) (nT : Nat) (nR : Nat) (nD : Nat) (pl : Nat) (n : Int32) (h2 : F 2 = nI nC) (hC : nC ≤ 8) (h3 : F 3 = nI nT) (hT : nT ≤ 100) (h4 : F 4 = nI nR) (hR : nR ≤ 40) (h5 : F 5 = nI nD) (hN : nD ≤ 4096) (h6 : ∀ c, c < nC → ∃ z : Nat, G 6 c = nI z ∧ 2 ≤ z ∧ z ≤ 6) (h8 : ∀ t, t < nT → ∃ x : Nat, x < nC ∧ G 8 t = nI x) (h10 : ∀ t, t < nT → G 10 t = -1 ∨ ∃ x : Nat, x < nC ∧ G 10 t = nI x) (h13 : ∀ j, j < nR → ∃ x : Nat, x < nC ∧ G 13 j = nI x) (h15 : ∀ j, j < nR → ∃ x : Nat, x < nC ∧ G 15 j = nI x) (h24 : F 24 = nI pl) (hpl : pl ≤ nD) : ww_Met l yM_sweep wsM_sweep ({ frames := 4, cells := 0, slots := 0, locals := 92 } : Room) D cl (mT ka) H0 [.ref a, .int n] (mW a ba ka F G) (some (.int ((mr_M_sweep (F 24) (F 25) (F 26) (G 6) (G 7) (G 8) (G 9) (G 10) (G 11) (G 12) (G 13) (G 14) (G 15) (G 16) (G 17) (G 18) (G 19) (G 27) (G 28) nC nT nR nD pl n).1))) (mW a ba ka (upd (upd (upd (upd F 0 ((mr_M_sweep (F 24) (F 25) (F 26) (G 6) (G 7) (G 8) (G 9) (G 10) (G 11) (G 12) (G 13) (G 14) (G 15) (G 16) (G 17) (G 18) (G 19) (G 27) (G 28) nC nT nR nD pl n).2.1)) 24 ((mr_M_sweep (F 24) (F 25) (F 26) (G 6) (G 7) (G 8) (G 9) (G 10) (G 11) (G 12) (G 13) (G 14) (G 15) (G 16) (G 17) (G 18) (G 19) (G 27) (G 28) nC nT nR nD pl n).2.2.1)) 25 ((mr_M_sweep (F 24) (F 25) (F 26) (G 6) (G 7) (G 8) (G 9) (G 10) (G 11) (G 12) (G 13) (G 14) (G 15) (G 16) (G 17) (G 18) (G 19) (G 27) (G 28) nC nT nR nD pl n).2.2.2.1)) 26 ((mr_M_sweep (F 24) (F 25) (F 26) (G 6) (G 7) (G 8) (G 9) (G 10) (G 11) (G 12) (G 13) (G 14) (G 15) (G 16) (G 17) (G 18) (G 19) (G 27) (G 28) nC nT nR nD pl n).2.2.2.2.1)) (va_up (va_up (va_up G 19 ((mr_M_sweep (F 24) (F 25) (F 26) (G 6) (G 7) (G 8) (G 9) (G 10) (G 11) (G 12) (G 13) (G 14) (G 15) (G 16) (G 17) (G 18) (G 19) (G 27) (G 28) nC nT nR nD pl n).2.2.2.2.2.1)) 27 ((mr_M_sweep (F 24) (F 25) (F 26) (G 6) (G 7) (G 8) (G 9) (G 10) (G 11) (G 12) (G 13) (G 14) (G 15) (G 16) (G 17) (G 18) (G 19) (G 27) (G 28) nC nT nR nD pl n).2.2.2.2.2.2.1)) 28 ((mr_M_sweep (F 24) (F 25) (F 26) (G 6) (G 7) (G 8) (G 9) (G 10) (G 11) (G 12) (G 13) (G 14) (G 15) (G 16) (G 17) (G 18) (G 19) (G 27) (G 28) nC nT nR nD pl n).2.2.2.2.2.2.2))) := by
  refine ww_metI (by decide) rfl (Nat.le_of_ble_eq_true rfl) hP hD ?_
  intro p e s m args below meth c Q A Sx hK hP hD hS hA ls hl hret
  obtain ⟨hx, hb, hml, hown, hts⟩ := id Sx
  have hl : lv_has ls 4 [(0, .ref a), (1, .int n)] := hl
  obtain ⟨H, eH⟩ : ∃ H : Heap, H = H0 := ⟨_, rfl⟩
  obtain ⟨locs, eL⟩ : ∃ L : List Loc, L = [] := ⟨_, rfl⟩
  have hP : va_P D cl (mW a ba ka F G) H := by rw [eH]; exact hP
  have hS : va_S A H0 H locs := by rw [eH, eL]; exact hS
  rw [show W p l e ({ frames := 4, cells := 0, slots := 0, locals := 92 } : Room) s m args below meth c H0 [] 0 0 Q (F0 m 0 ls []) = W p l e ({ frames := 4, cells := 0, slots := 0, locals := 92 } : Room) s m args below meth c H locs 0 0 Q (F0 m 0 ls []) by rw [eH, eL]]
  clear eH eL
  have f70 := hts _ (List.mem_cons_of_mem _ mfM_70)
  have inM_ : ∀ w ∈ wsM0, w ∈ wsM_sweep := fun w h => List.mem_cons_of_mem _ (inM_all w h)
  have f84 := hts _ (List.mem_cons_of_mem _ mfM_84)
  have f7 := hts _ (List.mem_cons_of_mem _ mfM_7)
  have f87 := hts _ (List.mem_cons_of_mem _ mfM_87)
  have f60 := hts _ (List.mem_cons_of_mem _ mfM_60)
  refine lv_aload_n hx hb dM_sweep_0 rfl (lv_at hl 0 rfl) ?_
  refine lv_iconst (v := 0) hx hb dM_sweep_1 (by decide) ?_
  refine va_put (D := D) (ci := 0) (fs := mWl0 ba F) (v := .int 0) (ty := .int) (C := RM) (T := TM) (N := 29) hx hb hts inM_ tyM tyM_ok nmM hown hK hP hD hS 0 rfl hcl 0 (by decide) f70 (fun _ h9 => h9) rfl (by decide +kernel) rfl rfl (Nat.le_of_ble_eq_true rfl) dM_sweep_2 (fun H locs hP hD hS => ?_)
  rw [mW_f0] at hP hD
  refine lv_iload_n hx hb dM_sweep_5 rfl (lv_at hl 1 rfl) ?_
  refine lv_iconst (v := 1) hx hb dM_sweep_6 (by decide) ?_
  refine lv_sipush (v := 5000) hx hb dM_sweep_7 (by decide) ?_
  refine ro_callS (r := (.int (mr_M_within n 1 5000))) (As := [.int n, .int 1, .int 5000]) (rest := []) Sx (c_M_within l D cl hcl a ba ka (upd F 0 0) G hP n 1 5000) (va_cwS 3 hts gM_sweep_M_within rfl rfl rfl (by decide +kernel) ⟨Nat.le_of_ble_eq_true rfl, Nat.le_of_ble_eq_true rfl⟩) hK rfl hl.1 rfl (Nat.le_of_ble_eq_true rfl) dM_sweep_10 ⟨Nat.zero_le _, Nat.zero_le _⟩ ?_
  refine lv_if_ne (tgt := 22) hx hb dM_sweep_13 (by decide) (fun c13 => ?_) (fun c13 => ?_)
  · refine lv_aload_n hx hb dM_sweep_22 rfl (lv_at hl 0 rfl) ?_
    refine va_get (D := D) (ci := 0) (v := .int (F 24)) (C := RM) (T := TM) (N := 29) hx hb hts inM_ hown hK hP 0 rfl hcl 24 (by decide) f84 (fun _ h9 => h9) rfl dM_sweep_23 ?_
    refine wt_i h24 ?_
    refine lv_aload_n hx hb dM_sweep_26 rfl (lv_at hl 0 rfl) ?_
    refine va_get (D := D) (ci := 0) (v := .int (F 5)) (C := RM) (T := TM) (N := 29) hx hb hts inM_ hown hK hP 0 rfl hcl 5 (by decide) f7 (fun _ h9 => h9) rfl dM_sweep_27 ?_
    refine wt_i h5 ?_
    refine lv_icmp_ne (tgt := 39) hx hb dM_sweep_30 (by decide) (fun c30 => ?_) (fun c30 => ?_)
    · have n30 : ¬ pl = nD := fun h9 => c30 ((nI_eq (a := pl) (b := nD) (by omega) (by omega)).mpr h9)
      refine lv_aload_n hx hb dM_sweep_39 rfl (lv_at hl 0 rfl) ?_
      refine ww_callV (r := none) (w' := mW a ba ka (upd (upd F 0 0) 26 ((mr_M_know (F 26) (G 6) (G 7) (G 8) (G 9) (G 10) (G 11) (G 12) (G 13) (G 14) (G 15) (G 16) (G 17) (G 18) (G 19) (G 27) (G 28) nC nT nR nD).1)) (va_up (va_up (va_up G 19 ((mr_M_know (F 26) (G 6) (G 7) (G 8) (G 9) (G 10) (G 11) (G 12) (G 13) (G 14) (G 15) (G 16) (G 17) (G 18) (G 19) (G 27) (G 28) nC nT nR nD).2.1)) 27 ((mr_M_know (F 26) (G 6) (G 7) (G 8) (G 9) (G 10) (G 11) (G 12) (G 13) (G 14) (G 15) (G 16) (G 17) (G 18) (G 19) (G 27) (G 28) nC nT nR nD).2.2.1)) 28 ((mr_M_know (F 26) (G 6) (G 7) (G 8) (G 9) (G 10) (G 11) (G 12) (G 13) (G 14) (G 15) (G 16) (G 17) (G 18) (G 19) (G 27) (G 28) nC nT nR nD).2.2.2))) (As := []) (rest := []) Sx (c_M_know l D cl hcl a ba ka (upd F 0 0) G hP (hD.weaken (fun _ _ _ _ => trivial)) nC nT nR nD h2 hC h3 hT h4 hR h5 hN h6 h8 h10 h13 h15) (cwV 0 hts gM_sweep_M_know rfl rfl rfl (by decide +kernel) ⟨Nat.le_of_ble_eq_true rfl, Nat.le_of_ble_eq_true rfl⟩) hK (va_recv hK hP (ci := 0) (q0 := 0) hcl rfl) rfl hl.1 rfl (Nat.le_of_ble_eq_true rfl) dM_sweep_40 ⟨Nat.zero_le _, Nat.zero_le _⟩ hD hS hA (fun H locs hP hD hS => ?_)
      refine lv_iconst (v := 0) hx hb dM_sweep_43 (by decide) ?_
      refine lv_istore_n (lv' := [(2, .int 0), (0, .ref a), (1, .int n)]) hx hb dM_sweep_44 rfl hl (by decide) rfl (fun ls hl => ?_)
      refine lv_iconst (v := 0) hx hb dM_sweep_45 (by decide) ?_
      refine lv_istore_n (lv' := [(3, .int 0), (2, .int 0), (0, .ref a), (1, .int n)]) hx hb dM_sweep_46 rfl hl (by decide) rfl (fun ls hl => ?_)
      have ex47 : ∀ (H : Heap) (locs : List Loc), va_P D cl (mW a ba ka (upd (upd (upd F 0 0) 24 (nI ((lf_M_sweep_47 nC nT nR nD pl n ((mr_M_know (F 26) (G 6) (G 7) (G 8) (G 9) (G 10) (G 11) (G 12) (G 13) (G 14) (G 15) (G 16) (G 17) (G 18) (G 19) (G 27) (G 28) nC nT nR nD).2.2.1) (nD + 1) 0 0 pl).2.2))) 26 ((mr_M_know (F 26) (G 6) (G 7) (G 8) (G 9) (G 10) (G 11) (G 12) (G 13) (G 14) (G 15) (G 16) (G 17) (G 18) (G 19) (G 27) (G 28) nC nT nR nD).1)) (va_up (va_up (va_up G 19 ((mr_M_know (F 26) (G 6) (G 7) (G 8) (G 9) (G 10) (G 11) (G 12) (G 13) (G 14) (G 15) (G 16) (G 17) (G 18) (G 19) (G 27) (G 28) nC nT nR nD).2.1)) 27 ((mr_M_know (F 26) (G 6) (G 7) (G 8) (G 9) (G 10) (G 11) (G 12) (G 13) (G 14) (G 15) (G 16) (G 17) (G 18) (G 19) (G 27) (G 28) nC nT nR nD).2.2.1)) 28 ((mr_M_know (F 26) (G 6) (G 7) (G 8) (G 9) (G 10) (G 11) (G 12) (G 13) (G 14) (G 15) (G 16) (G 17) (G 18) (G 19) (G 27) (G 28) nC nT nR nD).2.2.2))) H → va_D A (mW a ba ka (upd (upd (upd F 0 0) 24 (nI ((lf_M_sweep_47 nC nT nR nD pl n ((mr_M_know (F 26) (G 6) (G 7) (G 8) (G 9) (G 10) (G 11) (G 12) (G 13) (G 14) (G 15) (G 16) (G 17) (G 18) (G 19) (G 27) (G 28) nC nT nR nD).2.2.1) (nD + 1) 0 0 pl).2.2))) 26 ((mr_M_know (F 26) (G 6) (G 7) (G 8) (G 9) (G 10) (G 11) (G 12) (G 13) (G 14) (G 15) (G 16) (G 17) (G 18) (G 19) (G 27) (G 28) nC nT nR nD).1)) (va_up (va_up (va_up G 19 ((mr_M_know (F 26) (G 6) (G 7) (G 8) (G 9) (G 10) (G 11) (G 12) (G 13) (G 14) (G 15) (G 16) (G 17) (G 18) (G 19) (G 27) (G 28) nC nT nR nD).2.1)) 27 ((mr_M_know (F 26) (G 6) (G 7) (G 8) (G 9) (G 10) (G 11) (G 12) (G 13) (G 14) (G 15) (G 16) (G 17) (G 18) (G 19) (G 27) (G 28) nC nT nR nD).2.2.1)) 28 ((mr_M_know (F 26) (G 6) (G 7) (G 8) (G 9) (G 10) (G 11) (G 12) (G 13) (G 14) (G 15) (G 16) (G 17) (G 18) (G 19) (G 27) (G 28) nC nT nR nD).2.2.2))) → va_S A H0 H locs → ∀ (ls : Array Slot), lv_has ls 4 [(3, .int (nI ((lf_M_sweep_47 nC nT nR nD pl n ((mr_M_know (F 26) (G 6) (G 7) (G 8) (G 9) (G 10) (G 11) (G 12) (G 13) (G 14) (G 15) (G 16) (G 17) (G 18) (G 19) (G 27) (G 28) nC nT nR nD).2.2.1) (nD + 1) 0 0 pl).2.1))), (2, .int ((lf_M_sweep_47 nC nT nR nD pl n ((mr_M_know (F 26) (G 6) (G 7) (G 8) (G 9) (G 10) (G 11) (G 12) (G 13) (G 14) (G 15) (G 16) (G 17) (G 18) (G 19) (G 27) (G 28) nC nT nR nD).2.2.1) (nD + 1) 0 0 pl).1)), (0, .ref a), (1, .int n)] → W p l e ({ frames := 4, cells := 0, slots := 0, locals := 92 } : Room) s m args below meth c H locs 0 0 Q (F0 m 99 ls []) := by
        intro H locs hP hD hS ls hl
        refine lv_aload_n hx hb dM_sweep_99 rfl (lv_at hl 2 rfl) ?_
        refine lv_dup hx hb dM_sweep_100 rfl ?_
        refine va_get (D := D) (ci := 0) (v := .int (F 25)) (C := RM) (T := TM) (N := 29) hx hb hts inM_ hown hK hP 0 rfl hcl 25 (by decide) f87 (fun _ h9 => h9) rfl dM_sweep_101 ?_
        refine lv_iload_n hx hb dM_sweep_104 rfl (lv_at hl 1 rfl) ?_
        refine lv_iadd hx hb dM_sweep_105 ?_
        refine va_put (D := D) (ci := 0) (fs := mWl0 ba (upd (upd (upd F 0 0) 24 (nI ((lf_M_sweep_47 nC nT nR nD pl n ((mr_M_know (F 26) (G 6) (G 7) (G 8) (G 9) (G 10) (G 11) (G 12) (G 13) (G 14) (G 15) (G 16) (G 17) (G 18) (G 19) (G 27) (G 28) nC nT nR nD).2.2.1) (nD + 1) 0 0 pl).2.2))) 26 ((mr_M_know (F 26) (G 6) (G 7) (G 8) (G 9) (G 10) (G 11) (G 12) (G 13) (G 14) (G 15) (G 16) (G 17) (G 18) (G 19) (G 27) (G 28) nC nT nR nD).1))) (v := .int ((F 25) + ((lf_M_sweep_47 nC nT nR nD pl n ((mr_M_know (F 26) (G 6) (G 7) (G 8) (G 9) (G 10) (G 11) (G 12) (G 13) (G 14) (G 15) (G 16) (G 17) (G 18) (G 19) (G 27) (G 28) nC nT nR nD).2.2.1) (nD + 1) 0 0 pl).1))) (ty := .int) (C := RM) (T := TM) (N := 29) hx hb hts inM_ tyM tyM_ok nmM hown hK hP hD hS 0 rfl hcl 25 (by decide) f87 (fun _ h9 => h9) rfl (by decide +kernel) rfl rfl (Nat.le_of_ble_eq_true rfl) dM_sweep_106 (fun H locs hP hD hS => ?_)
        rw [mW_f25, upd_sw (i := 26) (j := 25) (by decide)] at hP hD
        refine lv_iload_n hx hb dM_sweep_109 rfl (lv_at hl 1 rfl) ?_
        have em : mr_M_sweep (F 24) (F 25) (F 26) (G 6) (G 7) (G 8) (G 9) (G 10) (G 11) (G 12) (G 13) (G 14) (G 15) (G 16) (G 17) (G 18) (G 19) (G 27) (G 28) nC nT nR nD pl n = ((lf_M_sweep_47 nC nT nR nD pl n ((mr_M_know (F 26) (G 6) (G 7) (G 8) (G 9) (G 10) (G 11) (G 12) (G 13) (G 14) (G 15) (G 16) (G 17) (G 18) (G 19) (G 27) (G 28) nC nT nR nD).2.2.1) (nD + 1) 0 0 pl).1, 0, nI ((lf_M_sweep_47 nC nT nR nD pl n ((mr_M_know (F 26) (G 6) (G 7) (G 8) (G 9) (G 10) (G 11) (G 12) (G 13) (G 14) (G 15) (G 16) (G 17) (G 18) (G 19) (G 27) (G 28) nC nT nR nD).2.2.1) (nD + 1) 0 0 pl).2.2), (F 25) + ((lf_M_sweep_47 nC nT nR nD pl n ((mr_M_know (F 26) (G 6) (G 7) (G 8) (G 9) (G 10) (G 11) (G 12) (G 13) (G 14) (G 15) (G 16) (G 17) (G 18) (G 19) (G 27) (G 28) nC nT nR nD).2.2.1) (nD + 1) 0 0 pl).1), (mr_M_know (F 26) (G 6) (G 7) (G 8) (G 9) (G 10) (G 11) (G 12) (G 13) (G 14) (G 15) (G 16) (G 17) (G 18) (G 19) (G 27) (G 28) nC nT nR nD).1, (mr_M_know (F 26) (G 6) (G 7) (G 8) (G 9) (G 10) (G 11) (G 12) (G 13) (G 14) (G 15) (G 16) (G 17) (G 18) (G 19) (G 27) (G 28) nC nT nR nD).2.1, (mr_M_know (F 26) (G 6) (G 7) (G 8) (G 9) (G 10) (G 11) (G 12) (G 13) (G 14) (G 15) (G 16) (G 17) (G 18) (G 19) (G 27) (G 28) nC nT nR nD).2.2.1, (mr_M_know (F 26) (G 6) (G 7) (G 8) (G 9) (G 10) (G 11) (G 12) (G 13) (G 14) (G 15) (G 16) (G 17) (G 18) (G 19) (G 27) (G 28) nC nT nR nD).2.2.2) := by rw [mr_M_sweep, if_neg c13, if_neg c30]
        exact hret _ _ _ _ _ _ (by simp only [em]) (by simp only [em]) hP hD hS dM_sweep_110
      have loop47 : ∀ (N47 : Nat) (fo : Int32) (j : Nat) (pq : Nat), pq ≤ nD → nD - pq < N47 → lf_M_sweep_47 nC nT nR nD pl n ((mr_M_know (F 26) (G 6) (G 7) (G 8) (G 9) (G 10) (G 11) (G 12) (G 13) (G 14) (G 15) (G 16) (G 17) (G 18) (G 19) (G 27) (G 28) nC nT nR nD).2.2.1) (nD + 1) 0 0 pl = lf_M_sweep_47 nC nT nR nD pl n ((mr_M_know (F 26) (G 6) (G 7) (G 8) (G 9) (G 10) (G 11) (G 12) (G 13) (G 14) (G 15) (G 16) (G 17) (G 18) (G 19) (G 27) (G 28) nC nT nR nD).2.2.1) N47 fo j pq → ∀ (H : Heap) (locs : List Loc), va_P D cl (mW a ba ka (upd (upd (upd F 0 0) 24 (nI pq)) 26 ((mr_M_know (F 26) (G 6) (G 7) (G 8) (G 9) (G 10) (G 11) (G 12) (G 13) (G 14) (G 15) (G 16) (G 17) (G 18) (G 19) (G 27) (G 28) nC nT nR nD).1)) (va_up (va_up (va_up G 19 ((mr_M_know (F 26) (G 6) (G 7) (G 8) (G 9) (G 10) (G 11) (G 12) (G 13) (G 14) (G 15) (G 16) (G 17) (G 18) (G 19) (G 27) (G 28) nC nT nR nD).2.1)) 27 ((mr_M_know (F 26) (G 6) (G 7) (G 8) (G 9) (G 10) (G 11) (G 12) (G 13) (G 14) (G 15) (G 16) (G 17) (G 18) (G 19) (G 27) (G 28) nC nT nR nD).2.2.1)) 28 ((mr_M_know (F 26) (G 6) (G 7) (G 8) (G 9) (G 10) (G 11) (G 12) (G 13) (G 14) (G 15) (G 16) (G 17) (G 18) (G 19) (G 27) (G 28) nC nT nR nD).2.2.2))) H → va_D A (mW a ba ka (upd (upd (upd F 0 0) 24 (nI pq)) 26 ((mr_M_know (F 26) (G 6) (G 7) (G 8) (G 9) (G 10) (G 11) (G 12) (G 13) (G 14) (G 15) (G 16) (G 17) (G 18) (G 19) (G 27) (G 28) nC nT nR nD).1)) (va_up (va_up (va_up G 19 ((mr_M_know (F 26) (G 6) (G 7) (G 8) (G 9) (G 10) (G 11) (G 12) (G 13) (G 14) (G 15) (G 16) (G 17) (G 18) (G 19) (G 27) (G 28) nC nT nR nD).2.1)) 27 ((mr_M_know (F 26) (G 6) (G 7) (G 8) (G 9) (G 10) (G 11) (G 12) (G 13) (G 14) (G 15) (G 16) (G 17) (G 18) (G 19) (G 27) (G 28) nC nT nR nD).2.2.1)) 28 ((mr_M_know (F 26) (G 6) (G 7) (G 8) (G 9) (G 10) (G 11) (G 12) (G 13) (G 14) (G 15) (G 16) (G 17) (G 18) (G 19) (G 27) (G 28) nC nT nR nD).2.2.2))) → va_S A H0 H locs → ∀ (ls : Array Slot), lv_has ls 4 [(3, .int (nI j)), (2, .int fo), (0, .ref a), (1, .int n)] → W p l e ({ frames := 4, cells := 0, slots := 0, locals := 92 } : Room) s m args below meth c H locs 0 0 Q (F0 m 47 ls []) := by
        intro N47
        induction N47 with
        | zero => intro fo j pq hpq hm47; exact absurd hm47 (Nat.not_lt_zero _)
        | succ N47 ih47 =>
          intro fo j pq hpq hm47 hR47 H locs hP hD hS ls hl
          refine lv_iload_n hx hb dM_sweep_47 rfl (lv_at hl 0 rfl) ?_
          refine lv_iload_n hx hb dM_sweep_48 rfl (lv_at hl 3 rfl) ?_
          refine lv_icmp_ge (tgt := 99) hx hb dM_sweep_49 (by decide) (fun c49 => ?_) (fun c49 => ?_)
          · have er47 : lf_M_sweep_47 nC nT nR nD pl n ((mr_M_know (F 26) (G 6) (G 7) (G 8) (G 9) (G 10) (G 11) (G 12) (G 13) (G 14) (G 15) (G 16) (G 17) (G 18) (G 19) (G 27) (G 28) nC nT nR nD).2.2.1) (N47 + 1) fo j pq = (fo, j, pq) := by rw [lf_M_sweep_47, if_pos c49]
            rw [er47] at hR47
            exact ex47 H locs (by rw [hR47]; exact hP) (by rw [hR47]; exact hD) hS ls (by rw [hR47]; exact lv_sub hl [0, 1, 2, 3] rfl)
          · refine lv_aload_n hx hb dM_sweep_52 rfl (lv_at hl 2 rfl) ?_
            have ef53 : (upd (upd (upd F 0 0) 24 (nI pq)) 26 ((mr_M_know (F 26) (G 6) (G 7) (G 8) (G 9) (G 10) (G 11) (G 12) (G 13) (G 14) (G 15) (G 16) (G 17) (G 18) (G 19) (G 27) (G 28) nC nT nR nD).1)) 24 = nI pq := by rw [pk_un (k := 26) (j := 24) (by decide), pk_us]
            refine va_get (D := D) (ci := 0) (v := .int (nI pq)) (C := RM) (T := TM) (N := 29) hx hb hts inM_ hown hK hP 0 rfl hcl 24 (by decide) f84 (fun _ h9 => h9) (congrArg (fun z => some (Value.int z)) ef53) dM_sweep_53 ?_
            refine lv_aload_n hx hb dM_sweep_56 rfl (lv_at hl 2 rfl) ?_
            refine va_get (D := D) (ci := 0) (v := .int (F 5)) (C := RM) (T := TM) (N := 29) hx hb hts inM_ hown hK hP 0 rfl hcl 5 (by decide) f7 (fun _ h9 => h9) rfl dM_sweep_57 ?_
            refine wt_i h5 ?_
            refine lv_icmp_ge (tgt := 99) hx hb dM_sweep_60 (by decide) (fun c60 => ?_) (fun c60 => ?_)
            · have n60 : nD ≤ pq := (nI_leI (a := nD) (b := pq) (by omega) (by omega)).mp c60
              have er47 : lf_M_sweep_47 nC nT nR nD pl n ((mr_M_know (F 26) (G 6) (G 7) (G 8) (G 9) (G 10) (G 11) (G 12) (G 13) (G 14) (G 15) (G 16) (G 17) (G 18) (G 19) (G 27) (G 28) nC nT nR nD).2.2.1) (N47 + 1) fo j pq = (fo, j, pq) := by rw [lf_M_sweep_47, if_neg c49, if_pos c60]
              rw [er47] at hR47
              exact ex47 H locs (by rw [hR47]; exact hP) (by rw [hR47]; exact hD) hS ls (by rw [hR47]; exact lv_sub hl [0, 1, 2, 3] rfl)
            · have n60 : ¬ nD ≤ pq := fun h9 => c60 ((nI_leI (a := nD) (b := pq) (by omega) (by omega)).mpr h9)
              refine lv_iload_n hx hb dM_sweep_63 rfl (lv_at hl 1 rfl) ?_
              refine lv_aload_n hx hb dM_sweep_64 rfl (lv_at hl 2 rfl) ?_
              refine va_get (D := D) (ci := 0) (v := .ref (ba 27)) (C := RM) (T := TM) (N := 29) hx hb hts inM_ hown hK hP 0 rfl hcl 27 (by decide) f60 (fun _ h9 => h9) rfl dM_sweep_65 ?_
              refine lv_aload_n hx hb dM_sweep_68 rfl (lv_at hl 2 rfl) ?_
              have ef69 : (upd (upd (upd F 0 0) 24 (nI pq)) 26 ((mr_M_know (F 26) (G 6) (G 7) (G 8) (G 9) (G 10) (G 11) (G 12) (G 13) (G 14) (G 15) (G 16) (G 17) (G 18) (G 19) (G 27) (G 28) nC nT nR nD).1)) 24 = nI pq := by rw [pk_un (k := 26) (j := 24) (by decide), pk_us]
              refine va_get (D := D) (ci := 0) (v := .int (nI pq)) (C := RM) (T := TM) (N := 29) hx hb hts inM_ hown hK hP 0 rfl hcl 24 (by decide) f84 (fun _ h9 => h9) (congrArg (fun z => some (Value.int z)) ef69) dM_sweep_69 ?_
              have sd72 : pq < 4096 := by omega
              have eg72 : (va_up (va_up (va_up G 19 ((mr_M_know (F 26) (G 6) (G 7) (G 8) (G 9) (G 10) (G 11) (G 12) (G 13) (G 14) (G 15) (G 16) (G 17) (G 18) (G 19) (G 27) (G 28) nC nT nR nD).2.1)) 27 ((mr_M_know (F 26) (G 6) (G 7) (G 8) (G 9) (G 10) (G 11) (G 12) (G 13) (G 14) (G 15) (G 16) (G 17) (G 18) (G 19) (G 27) (G 28) nC nT nR nD).2.2.1)) 28 ((mr_M_know (F 26) (G 6) (G 7) (G 8) (G 9) (G 10) (G 11) (G 12) (G 13) (G 14) (G 15) (G 16) (G 17) (G 18) (G 19) (G 27) (G 28) nC nT nR nD).2.2.2)) 27 = (mr_M_know (F 26) (G 6) (G 7) (G 8) (G 9) (G 10) (G 11) (G 12) (G 13) (G 14) (G 15) (G 16) (G 17) (G 18) (G 19) (G 27) (G 28) nC nT nR nD).2.2.1 := by rw [vup_un (k := 28) (j := 27) (by decide), vup_us]
              refine wn_zald (f := (mr_M_know (F 26) (G 6) (G 7) (G 8) (G 9) (G 10) (G 11) (G 12) (G 13) (G 14) (G 15) (G 16) (G 17) (G 18) (G 19) (G 27) (G 28) nC nT nR nD).2.2.1) hx hb hK hP 15 14 (congrArg (fun z : Nat → Int32 => (some ((ba 27), (.inl ((ka 27), 4096, .inl z) : va_E)) : Option (Nat × va_E))) eg72) rfl pq rfl sd72 (by decide) dM_sweep_72 ?_
              have j81 : ∀ (ls : Array Slot), lv_has ls 4 [(3, .int (nI j)), (2, .int fo), (0, .ref a), (1, .int n)] → W p l e ({ frames := 4, cells := 0, slots := 0, locals := 92 } : Room) s m args below meth c H locs 0 0 Q (F0 m 81 ls [.int ((if (((mr_M_know (F 26) (G 6) (G 7) (G 8) (G 9) (G 10) (G 11) (G 12) (G 13) (G 14) (G 15) (G 16) (G 17) (G 18) (G 19) (G 27) (G 28) nC nT nR nD).2.2.1) pq) = 0 then 0 else 1) : Int32), .int fo]) := by
                intro ls hl
                refine lv_iadd hx hb dM_sweep_81 ?_
                refine lv_istore_n (lv' := [(2, .int (fo + ((if (((mr_M_know (F 26) (G 6) (G 7) (G 8) (G 9) (G 10) (G 11) (G 12) (G 13) (G 14) (G 15) (G 16) (G 17) (G 18) (G 19) (G 27) (G 28) nC nT nR nD).2.2.1) pq) = 0 then 0 else 1) : Int32))), (3, .int (nI j)), (0, .ref a), (1, .int n)]) hx hb dM_sweep_82 rfl hl (by decide) rfl (fun ls hl => ?_)
                refine lv_aload_n hx hb dM_sweep_83 rfl (lv_at hl 2 rfl) ?_
                refine lv_dup hx hb dM_sweep_84 rfl ?_
                have ef85 : (upd (upd (upd F 0 0) 24 (nI pq)) 26 ((mr_M_know (F 26) (G 6) (G 7) (G 8) (G 9) (G 10) (G 11) (G 12) (G 13) (G 14) (G 15) (G 16) (G 17) (G 18) (G 19) (G 27) (G 28) nC nT nR nD).1)) 24 = nI pq := by rw [pk_un (k := 26) (j := 24) (by decide), pk_us]
                refine va_get (D := D) (ci := 0) (v := .int (nI pq)) (C := RM) (T := TM) (N := 29) hx hb hts inM_ hown hK hP 0 rfl hcl 24 (by decide) f84 (fun _ h9 => h9) (congrArg (fun z => some (Value.int z)) ef85) dM_sweep_85 ?_
                refine lv_iconst (v := 1) hx hb dM_sweep_88 (by decide) ?_
                refine lv_iadd hx hb dM_sweep_89 ?_
                refine wt_i (r := nI (pq + 1)) (by exact nI_add pq 1) ?_
                refine va_put (D := D) (ci := 0) (fs := mWl0 ba (upd (upd (upd F 0 0) 24 (nI pq)) 26 ((mr_M_know (F 26) (G 6) (G 7) (G 8) (G 9) (G 10) (G 11) (G 12) (G 13) (G 14) (G 15) (G 16) (G 17) (G 18) (G 19) (G 27) (G 28) nC nT nR nD).1))) (v := .int (nI (pq + 1))) (ty := .int) (C := RM) (T := TM) (N := 29) hx hb hts inM_ tyM tyM_ok nmM hown hK hP hD hS 0 rfl hcl 24 (by decide) f84 (fun _ h9 => h9) rfl (by decide +kernel) rfl rfl (Nat.le_of_ble_eq_true rfl) dM_sweep_90 (fun H locs hP hD hS => ?_)
                rw [mW_f24, upd_sw (i := 26) (j := 24) (by decide), upd_ow] at hP hD
                refine lv_iinc (v := nI (j + 1)) (lv' := [(3, .int (nI (j + 1))), (2, .int (fo + ((if (((mr_M_know (F 26) (G 6) (G 7) (G 8) (G 9) (G 10) (G 11) (G 12) (G 13) (G 14) (G 15) (G 16) (G 17) (G 18) (G 19) (G 27) (G 28) nC nT nR nD).2.2.1) pq) = 0 then 0 else 1) : Int32))), (0, .ref a), (1, .int n)]) hx hb dM_sweep_93 hl (k := 1) rfl (by exact ii_1 j) (by decide) rfl (fun ls hl => ?_)
                refine lv_goto (tgt := 47) hx hb dM_sweep_96 (by decide) ?_
                have er47 : lf_M_sweep_47 nC nT nR nD pl n ((mr_M_know (F 26) (G 6) (G 7) (G 8) (G 9) (G 10) (G 11) (G 12) (G 13) (G 14) (G 15) (G 16) (G 17) (G 18) (G 19) (G 27) (G 28) nC nT nR nD).2.2.1) (N47 + 1) fo j pq = lf_M_sweep_47 nC nT nR nD pl n ((mr_M_know (F 26) (G 6) (G 7) (G 8) (G 9) (G 10) (G 11) (G 12) (G 13) (G 14) (G 15) (G 16) (G 17) (G 18) (G 19) (G 27) (G 28) nC nT nR nD).2.2.1) N47 (fo + ((if (((mr_M_know (F 26) (G 6) (G 7) (G 8) (G 9) (G 10) (G 11) (G 12) (G 13) (G 14) (G 15) (G 16) (G 17) (G 18) (G 19) (G 27) (G 28) nC nT nR nD).2.2.1) pq) = 0 then 0 else 1) : Int32)) (j + 1) (pq + 1) := by rw [lf_M_sweep_47, if_neg c49, if_neg c60]
                exact ih47 (fo + ((if (((mr_M_know (F 26) (G 6) (G 7) (G 8) (G 9) (G 10) (G 11) (G 12) (G 13) (G 14) (G 15) (G 16) (G 17) (G 18) (G 19) (G 27) (G 28) nC nT nR nD).2.2.1) pq) = 0 then 0 else 1) : Int32)) (j + 1) (pq + 1) (by omega) (by omega) (hR47.trans er47) H locs hP hD hS ls (lv_sub hl [0, 1, 2, 3] rfl)
              refine lv_if_eq (tgt := 80) hx hb dM_sweep_73 (by decide) (fun c73 => ?_) (fun c73 => ?_)
              · refine lv_iconst (v := 0) hx hb dM_sweep_80 (by decide) ?_
                exact wt_i (by rw [if_pos c73]) (j81 ls hl)
              · refine lv_iconst (v := 1) hx hb dM_sweep_76 (by decide) ?_
                refine lv_goto (tgt := 81) hx hb dM_sweep_77 (by decide) ?_
                exact wt_i (by rw [if_neg c73]) (j81 ls hl)
      exact loop47 (nD + 1) 0 0 pl (by omega) (by omega) rfl H locs (by rw [← h24]; exact hP) (by rw [← h24]; exact hD) hS ls (lv_sub hl [0, 1, 2, 3] rfl)
    · have n30 : pl = nD := (nI_eq (a := pl) (b := nD) (by omega) (by omega)).mp c30
      refine lv_aload_n hx hb dM_sweep_33 rfl (lv_at hl 0 rfl) ?_
      refine lv_iconst (v := 2) hx hb dM_sweep_34 (by decide) ?_
      refine ww_callV (r := (some (.int ((mr_M_fail 2).1)))) (w' := mW a ba ka (upd (upd F 0 0) 0 ((mr_M_fail 2).2)) G) (As := [.int 2]) (rest := []) Sx (c_M_fail l D cl hcl a ba ka (upd F 0 0) G hP (hD.weaken (fun _ _ _ _ => trivial)) 2) (cwV 1 hts gM_sweep_M_fail rfl rfl rfl (by decide +kernel) ⟨Nat.le_of_ble_eq_true rfl, Nat.le_of_ble_eq_true rfl⟩) hK (va_recv hK hP (ci := 0) (q0 := 0) hcl rfl) rfl hl.1 rfl (Nat.le_of_ble_eq_true rfl) dM_sweep_35 ⟨Nat.zero_le _, Nat.zero_le _⟩ hD hS hA (fun H locs hP hD hS => ?_)
      rw [upd_ow] at hP hD
      have em : mr_M_sweep (F 24) (F 25) (F 26) (G 6) (G 7) (G 8) (G 9) (G 10) (G 11) (G 12) (G 13) (G 14) (G 15) (G 16) (G 17) (G 18) (G 19) (G 27) (G 28) nC nT nR nD pl n = ((mr_M_fail 2).1, (mr_M_fail 2).2, F 24, F 25, F 26, G 19, G 27, G 28) := by rw [mr_M_sweep, if_neg c13, if_pos c30]
      exact hret _ _ _ _ _ _ (by simp only [em]) (by simp only [em]; rw [upd_keep (f := upd F 0 ((mr_M_fail 2).2)) (j := 24) (x := F 24) rfl, upd_keep (f := upd F 0 ((mr_M_fail 2).2)) (j := 25) (x := F 25) rfl, upd_keep (f := upd F 0 ((mr_M_fail 2).2)) (j := 26) (x := F 26) rfl, vup_keep (f := G) (j := 19) (x := G 19) rfl, vup_keep (f := G) (j := 27) (x := G 27) rfl, vup_keep (f := G) (j := 28) (x := G 28) rfl]) hP hD hS dM_sweep_38
  · refine lv_aload_n hx hb dM_sweep_16 rfl (lv_at hl 0 rfl) ?_
    refine lv_iconst (v := 1) hx hb dM_sweep_17 (by decide) ?_
    refine ww_callV (r := (some (.int ((mr_M_fail 1).1)))) (w' := mW a ba ka (upd (upd F 0 0) 0 ((mr_M_fail 1).2)) G) (As := [.int 1]) (rest := []) Sx (c_M_fail l D cl hcl a ba ka (upd F 0 0) G hP (hD.weaken (fun _ _ _ _ => trivial)) 1) (cwV 1 hts gM_sweep_M_fail rfl rfl rfl (by decide +kernel) ⟨Nat.le_of_ble_eq_true rfl, Nat.le_of_ble_eq_true rfl⟩) hK (va_recv hK hP (ci := 0) (q0 := 0) hcl rfl) rfl hl.1 rfl (Nat.le_of_ble_eq_true rfl) dM_sweep_18 ⟨Nat.zero_le _, Nat.zero_le _⟩ hD hS hA (fun H locs hP hD hS => ?_)
    rw [upd_ow] at hP hD
    have em : mr_M_sweep (F 24) (F 25) (F 26) (G 6) (G 7) (G 8) (G 9) (G 10) (G 11) (G 12) (G 13) (G 14) (G 15) (G 16) (G 17) (G 18) (G 19) (G 27) (G 28) nC nT nR nD pl n = ((mr_M_fail 1).1, (mr_M_fail 1).2, F 24, F 25, F 26, G 19, G 27, G 28) := by rw [mr_M_sweep, if_pos c13]
    exact hret _ _ _ _ _ _ (by simp only [em]) (by simp only [em]; rw [upd_keep (f := upd F 0 ((mr_M_fail 1).2)) (j := 24) (x := F 24) rfl, upd_keep (f := upd F 0 ((mr_M_fail 1).2)) (j := 25) (x := F 25) rfl, upd_keep (f := upd F 0 ((mr_M_fail 1).2)) (j := 26) (x := F 26) rfl, vup_keep (f := G) (j := 19) (x := G 19) rfl, vup_keep (f := G) (j := 27) (x := G 27) rfl, vup_keep (f := G) (j := 28) (x := G 28) rfl]) hP hD hS dM_sweep_21
def lf_M_count_82 (g17 : Nat → Int32) (w : Int32) (i0 : Int32) : Nat → Int32
  | 0 => i0
  | k82 + 1 => ((lf_M_count_82 g17 w i0 k82) + ((if (g17 k82) = 0 then 0 else 1) : Int32))
def mr_M_count (f2 : Int32) (f3 : Int32) (f4 : Int32) (f5 : Int32) (f21 : Int32) (f23 : Int32) (f24 : Int32) (f25 : Int32) (g17 : Nat → Int32) (w : Int32) : Int32 × Int32 := (if w = 0 then (f2, 0) else (if w = 1 then (f5, 0) else (if w = 2 then (f3, 0) else (if w = 3 then (f4, 0) else (if w = 4 then (lf_M_count_82 g17 w 0 4, 0) else (if w = 5 then (f21, 0) else (if w = 6 then (((if f24 = f5 then (-1) else f24) : Int32), 0) else (if w = 7 then (f25, 0) else (if w = 8 then (f23, 0) else ((-1), 0))))))))))
set_option maxHeartbeats 4000000 in
set_option maxRecDepth 100000 in
theorem c_M_count (l : Launch) (D : va_G) (cl : List vw_C) (hcl : cl[0]? = some (RM, TM, 29)) (a : Nat) (ba : Nat → Nat) (ka : Nat → ClassId) (F : Nat → Int32) (G : Nat → Nat → Int32) {H0 : Heap} (hP : va_P D cl (mW a ba ka F G) H0) (hD : va_D (fun _ => True) (mW a ba ka F G)) (w : Int32) : ww_Met l yM_count wsM_count ({ frames := 0, cells := 0, slots := 0, locals := 0 } : Room) D cl (mT ka) H0 [.ref a, .int w] (mW a ba ka F G) (some (.int ((mr_M_count (F 2) (F 3) (F 4) (F 5) (F 21) (F 23) (F 24) (F 25) (G 17) w).1))) (mW a ba ka (upd F 0 ((mr_M_count (F 2) (F 3) (F 4) (F 5) (F 21) (F 23) (F 24) (F 25) (G 17) w).2)) G) := by
  refine ww_metI (by decide) rfl (Nat.le_of_ble_eq_true rfl) hP hD ?_
  intro p e s m args below meth c Q A Sx hK hP hD hS hA ls hl hret
  obtain ⟨hx, hb, hml, hown, hts⟩ := id Sx
  have hl : lv_has ls 4 [(0, .ref a), (1, .int w)] := hl
  obtain ⟨H, eH⟩ : ∃ H : Heap, H = H0 := ⟨_, rfl⟩
  obtain ⟨locs, eL⟩ : ∃ L : List Loc, L = [] := ⟨_, rfl⟩
  have hP : va_P D cl (mW a ba ka F G) H := by rw [eH]; exact hP
  have hS : va_S A H0 H locs := by rw [eH, eL]; exact hS
  rw [show W p l e ({ frames := 0, cells := 0, slots := 0, locals := 0 } : Room) s m args below meth c H0 [] 0 0 Q (F0 m 0 ls []) = W p l e ({ frames := 0, cells := 0, slots := 0, locals := 0 } : Room) s m args below meth c H locs 0 0 Q (F0 m 0 ls []) by rw [eH, eL]]
  clear eH eL
  have f70 := hts _ (List.mem_cons_of_mem _ mfM_70)
  have inM_ : ∀ w ∈ wsM0, w ∈ wsM_count := fun w h => List.mem_cons_of_mem _ (inM_all w h)
  have f81 := hts _ (List.mem_cons_of_mem _ mfM_81)
  have f7 := hts _ (List.mem_cons_of_mem _ mfM_7)
  have f100 := hts _ (List.mem_cons_of_mem _ mfM_100)
  have f103 := hts _ (List.mem_cons_of_mem _ mfM_103)
  have f47 := hts _ (List.mem_cons_of_mem _ mfM_47)
  have f153 := hts _ (List.mem_cons_of_mem _ mfM_153)
  have f84 := hts _ (List.mem_cons_of_mem _ mfM_84)
  have f87 := hts _ (List.mem_cons_of_mem _ mfM_87)
  have f156 := hts _ (List.mem_cons_of_mem _ mfM_156)
  refine lv_aload_n hx hb dM_count_0 rfl (lv_at hl 0 rfl) ?_
  refine lv_iconst (v := 0) hx hb dM_count_1 (by decide) ?_
  refine va_put (D := D) (ci := 0) (fs := mWl0 ba F) (v := .int 0) (ty := .int) (C := RM) (T := TM) (N := 29) hx hb hts inM_ tyM tyM_ok nmM hown hK hP hD hS 0 rfl hcl 0 (by decide) f70 (fun _ h9 => h9) rfl (by decide +kernel) rfl rfl (Nat.le_of_ble_eq_true rfl) dM_count_2 (fun H locs hP hD hS => ?_)
  rw [mW_f0] at hP hD
  refine lv_iconst (v := 0) hx hb dM_count_5 (by decide) ?_
  refine lv_istore_n (lv' := [(2, .int 0), (0, .ref a), (1, .int w)]) hx hb dM_count_6 rfl hl (by decide) rfl (fun ls hl => ?_)
  refine lv_iload_n hx hb dM_count_7 rfl (lv_at hl 2 rfl) ?_
  by_cases c8_0 : w = 0
  · refine wt_i c8_0 ?_
    refine lv_tableIn (tgt := 60) hx hb dM_count_8 (by decide) (by decide) rfl (by decide) ?_
    refine lv_aload_n hx hb dM_count_60 rfl (lv_at hl 1 rfl) ?_
    refine va_get (D := D) (ci := 0) (v := .int (F 2)) (C := RM) (T := TM) (N := 29) hx hb hts inM_ hown hK hP 0 rfl hcl 2 (by decide) f81 (fun _ h9 => h9) rfl dM_count_61 ?_
    have em : mr_M_count (F 2) (F 3) (F 4) (F 5) (F 21) (F 23) (F 24) (F 25) (G 17) w = (F 2, 0) := by rw [mr_M_count, if_pos c8_0]
    exact hret _ _ _ _ _ _ (by simp only [em]) (by simp only [em]) hP hD hS dM_count_64
  · by_cases c8_1 : w = 1
    · refine wt_i c8_1 ?_
      refine lv_tableIn (tgt := 65) hx hb dM_count_8 (by decide) (by decide) rfl (by decide) ?_
      refine lv_aload_n hx hb dM_count_65 rfl (lv_at hl 1 rfl) ?_
      refine va_get (D := D) (ci := 0) (v := .int (F 5)) (C := RM) (T := TM) (N := 29) hx hb hts inM_ hown hK hP 0 rfl hcl 5 (by decide) f7 (fun _ h9 => h9) rfl dM_count_66 ?_
      have em : mr_M_count (F 2) (F 3) (F 4) (F 5) (F 21) (F 23) (F 24) (F 25) (G 17) w = (F 5, 0) := by rw [mr_M_count, if_neg c8_0, if_pos c8_1]
      exact hret _ _ _ _ _ _ (by simp only [em]) (by simp only [em]) hP hD hS dM_count_69
    · by_cases c8_2 : w = 2
      · refine wt_i c8_2 ?_
        refine lv_tableIn (tgt := 70) hx hb dM_count_8 (by decide) (by decide) rfl (by decide) ?_
        refine lv_aload_n hx hb dM_count_70 rfl (lv_at hl 1 rfl) ?_
        refine va_get (D := D) (ci := 0) (v := .int (F 3)) (C := RM) (T := TM) (N := 29) hx hb hts inM_ hown hK hP 0 rfl hcl 3 (by decide) f100 (fun _ h9 => h9) rfl dM_count_71 ?_
        have em : mr_M_count (F 2) (F 3) (F 4) (F 5) (F 21) (F 23) (F 24) (F 25) (G 17) w = (F 3, 0) := by rw [mr_M_count, if_neg c8_0, if_neg c8_1, if_pos c8_2]
        exact hret _ _ _ _ _ _ (by simp only [em]) (by simp only [em]) hP hD hS dM_count_74
      · by_cases c8_3 : w = 3
        · refine wt_i c8_3 ?_
          refine lv_tableIn (tgt := 75) hx hb dM_count_8 (by decide) (by decide) rfl (by decide) ?_
          refine lv_aload_n hx hb dM_count_75 rfl (lv_at hl 1 rfl) ?_
          refine va_get (D := D) (ci := 0) (v := .int (F 4)) (C := RM) (T := TM) (N := 29) hx hb hts inM_ hown hK hP 0 rfl hcl 4 (by decide) f103 (fun _ h9 => h9) rfl dM_count_76 ?_
          have em : mr_M_count (F 2) (F 3) (F 4) (F 5) (F 21) (F 23) (F 24) (F 25) (G 17) w = (F 4, 0) := by rw [mr_M_count, if_neg c8_0, if_neg c8_1, if_neg c8_2, if_pos c8_3]
          exact hret _ _ _ _ _ _ (by simp only [em]) (by simp only [em]) hP hD hS dM_count_79
        · by_cases c8_4 : w = 4
          · refine wt_i c8_4 ?_
            refine lv_tableIn (tgt := 80) hx hb dM_count_8 (by decide) (by decide) rfl (by decide) ?_
            refine lv_iconst (v := 0) hx hb dM_count_80 (by decide) ?_
            refine lv_istore_n (lv' := [(3, .int 0), (2, .int 0), (0, .ref a), (1, .int w)]) hx hb dM_count_81 rfl hl (by decide) rfl (fun ls hl => ?_)
            have loop82 : ∀ (N82 k82 : Nat), k82 ≤ 4 → 4 - k82 < N82 → ∀ (H : Heap) (locs : List Loc), va_P D cl (mW a ba ka (upd F 0 0) G) H → va_D A (mW a ba ka (upd F 0 0) G) → va_S A H0 H locs → ∀ (ls : Array Slot), lv_has ls 4 [(3, .int (nI k82)), (2, .int (lf_M_count_82 (G 17) w 0 k82)), (0, .ref a), (1, .int w)] → W p l e ({ frames := 0, cells := 0, slots := 0, locals := 0 } : Room) s m args below meth c H locs 0 0 Q (F0 m 82 ls []) := by
              intro N82
              induction N82 with
              | zero => intro k82 hk82 hm82; exact absurd hm82 (Nat.not_lt_zero _)
              | succ N82 ih82 =>
                intro k82 hk82 hm82  H locs hP hD hS ls hl
                refine lv_iload_n hx hb dM_count_82 rfl (lv_at hl 0 rfl) ?_
                refine lv_iconst (v := 4) hx hb dM_count_83 (by decide) ?_
                refine lv_icmp_ge (tgt := 110) hx hb dM_count_84 (by decide) (fun c84 => ?_) (fun c84 => ?_)
                · have n84 : 4 ≤ k82 := (nI_leI (a := 4) (b := k82) (by omega) (by omega)).mp c84
                  have hx82 : 4 = k82 := by omega
                  subst hx82
                  refine lv_iload_n hx hb dM_count_110 rfl (lv_at hl 1 rfl) ?_
                  have em : mr_M_count (F 2) (F 3) (F 4) (F 5) (F 21) (F 23) (F 24) (F 25) (G 17) w = (lf_M_count_82 (G 17) w 0 4, 0) := by rw [mr_M_count, if_neg c8_0, if_neg c8_1, if_neg c8_2, if_neg c8_3, if_pos c8_4]
                  exact hret _ _ _ _ _ _ (by simp only [em]) (by simp only [em]) hP hD hS dM_count_111
                · have n84 : ¬ 4 ≤ k82 := fun h9 => c84 ((nI_leI (a := 4) (b := k82) (by omega) (by omega)).mpr h9)
                  refine lv_iload_n hx hb dM_count_87 rfl (lv_at hl 1 rfl) ?_
                  refine lv_aload_n hx hb dM_count_88 rfl (lv_at hl 2 rfl) ?_
                  refine va_get (D := D) (ci := 0) (v := .ref (ba 17)) (C := RM) (T := TM) (N := 29) hx hb hts inM_ hown hK hP 0 rfl hcl 17 (by decide) f47 (fun _ h9 => h9) rfl dM_count_89 ?_
                  refine lv_iload_n hx hb dM_count_92 rfl (lv_at hl 0 rfl) ?_
                  have sd93 : k82 < 4 := by omega
                  refine wn_zald (f := G 17) hx hb hK hP 12 11 rfl rfl k82 rfl sd93 (by decide) dM_count_93 ?_
                  have j102 : ∀ (ls : Array Slot), lv_has ls 4 [(3, .int (nI k82)), (2, .int (lf_M_count_82 (G 17) w 0 k82)), (0, .ref a), (1, .int w)] → W p l e ({ frames := 0, cells := 0, slots := 0, locals := 0 } : Room) s m args below meth c H locs 0 0 Q (F0 m 102 ls [.int ((if (G 17 k82) = 0 then 0 else 1) : Int32), .int (lf_M_count_82 (G 17) w 0 k82)]) := by
                    intro ls hl
                    refine lv_iadd hx hb dM_count_102 ?_
                    refine lv_istore_n (lv' := [(2, .int ((lf_M_count_82 (G 17) w 0 k82) + ((if (G 17 k82) = 0 then 0 else 1) : Int32))), (3, .int (nI k82)), (0, .ref a), (1, .int w)]) hx hb dM_count_103 rfl hl (by decide) rfl (fun ls hl => ?_)
                    refine lv_iinc (v := nI (k82 + 1)) (lv' := [(3, .int (nI (k82 + 1))), (2, .int ((lf_M_count_82 (G 17) w 0 k82) + ((if (G 17 k82) = 0 then 0 else 1) : Int32))), (0, .ref a), (1, .int w)]) hx hb dM_count_104 hl (k := 1) rfl (by exact ii_1 k82) (by decide) rfl (fun ls hl => ?_)
                    refine lv_goto (tgt := 82) hx hb dM_count_107 (by decide) ?_
                    have eb82 : lf_M_count_82 (G 17) w 0 (k82 + 1) = (lf_M_count_82 (G 17) w 0 k82) + ((if (G 17 k82) = 0 then 0 else 1) : Int32) := by rw [lf_M_count_82]
                    exact ih82 (k82 + 1) (by omega) (by omega)  H locs (by exact hP) (by exact hD) hS ls (by rw [eb82]; exact lv_sub hl [0, 1, 2, 3] rfl)
                  refine lv_if_eq (tgt := 101) hx hb dM_count_94 (by decide) (fun c94 => ?_) (fun c94 => ?_)
                  · refine lv_iconst (v := 0) hx hb dM_count_101 (by decide) ?_
                    exact wt_i (by rw [if_pos c94]) (j102 ls hl)
                  · refine lv_iconst (v := 1) hx hb dM_count_97 (by decide) ?_
                    refine lv_goto (tgt := 102) hx hb dM_count_98 (by decide) ?_
                    exact wt_i (by rw [if_neg c94]) (j102 ls hl)
            exact loop82 _ 0 (Nat.zero_le _) (Nat.lt_succ_self _)  H locs hP hD hS ls (lv_sub hl [0, 1, 2, 3] rfl)
          · by_cases c8_5 : w = 5
            · refine wt_i c8_5 ?_
              refine lv_tableIn (tgt := 112) hx hb dM_count_8 (by decide) (by decide) rfl (by decide) ?_
              refine lv_aload_n hx hb dM_count_112 rfl (lv_at hl 1 rfl) ?_
              refine va_get (D := D) (ci := 0) (v := .int (F 21)) (C := RM) (T := TM) (N := 29) hx hb hts inM_ hown hK hP 0 rfl hcl 21 (by decide) f153 (fun _ h9 => h9) rfl dM_count_113 ?_
              have em : mr_M_count (F 2) (F 3) (F 4) (F 5) (F 21) (F 23) (F 24) (F 25) (G 17) w = (F 21, 0) := by rw [mr_M_count, if_neg c8_0, if_neg c8_1, if_neg c8_2, if_neg c8_3, if_neg c8_4, if_pos c8_5]
              exact hret _ _ _ _ _ _ (by simp only [em]) (by simp only [em]) hP hD hS dM_count_116
            · by_cases c8_6 : w = 6
              · refine wt_i c8_6 ?_
                refine lv_tableIn (tgt := 117) hx hb dM_count_8 (by decide) (by decide) rfl (by decide) ?_
                refine lv_aload_n hx hb dM_count_117 rfl (lv_at hl 1 rfl) ?_
                refine va_get (D := D) (ci := 0) (v := .int (F 24)) (C := RM) (T := TM) (N := 29) hx hb hts inM_ hown hK hP 0 rfl hcl 24 (by decide) f84 (fun _ h9 => h9) rfl dM_count_118 ?_
                refine lv_aload_n hx hb dM_count_121 rfl (lv_at hl 1 rfl) ?_
                refine va_get (D := D) (ci := 0) (v := .int (F 5)) (C := RM) (T := TM) (N := 29) hx hb hts inM_ hown hK hP 0 rfl hcl 5 (by decide) f7 (fun _ h9 => h9) rfl dM_count_122 ?_
                have j136 : ∀ (ls : Array Slot), lv_has ls 4 [(2, .int 0), (0, .ref a), (1, .int w)] → W p l e ({ frames := 0, cells := 0, slots := 0, locals := 0 } : Room) s m args below meth c H locs 0 0 Q (F0 m 136 ls [.int ((if (F 24) = (F 5) then (-1) else F 24) : Int32)]) := by
                  intro ls hl
                  have em : mr_M_count (F 2) (F 3) (F 4) (F 5) (F 21) (F 23) (F 24) (F 25) (G 17) w = (((if (F 24) = (F 5) then (-1) else F 24) : Int32), 0) := by rw [mr_M_count, if_neg c8_0, if_neg c8_1, if_neg c8_2, if_neg c8_3, if_neg c8_4, if_neg c8_5, if_pos c8_6]
                  exact hret _ _ _ _ _ _ (by simp only [em]) (by simp only [em]) hP hD hS dM_count_136
                refine lv_icmp_ne (tgt := 132) hx hb dM_count_125 (by decide) (fun c125 => ?_) (fun c125 => ?_)
                · refine lv_aload_n hx hb dM_count_132 rfl (lv_at hl 1 rfl) ?_
                  refine va_get (D := D) (ci := 0) (v := .int (F 24)) (C := RM) (T := TM) (N := 29) hx hb hts inM_ hown hK hP 0 rfl hcl 24 (by decide) f84 (fun _ h9 => h9) rfl dM_count_133 ?_
                  exact wt_i (by rw [if_neg c125]) (j136 ls hl)
                · refine lv_iconst (v := (-1)) hx hb dM_count_128 (by decide) ?_
                  refine lv_goto (tgt := 136) hx hb dM_count_129 (by decide) ?_
                  exact wt_i (by rw [if_pos c125]) (j136 ls hl)
              · by_cases c8_7 : w = 7
                · refine wt_i c8_7 ?_
                  refine lv_tableIn (tgt := 137) hx hb dM_count_8 (by decide) (by decide) rfl (by decide) ?_
                  refine lv_aload_n hx hb dM_count_137 rfl (lv_at hl 1 rfl) ?_
                  refine va_get (D := D) (ci := 0) (v := .int (F 25)) (C := RM) (T := TM) (N := 29) hx hb hts inM_ hown hK hP 0 rfl hcl 25 (by decide) f87 (fun _ h9 => h9) rfl dM_count_138 ?_
                  have em : mr_M_count (F 2) (F 3) (F 4) (F 5) (F 21) (F 23) (F 24) (F 25) (G 17) w = (F 25, 0) := by rw [mr_M_count, if_neg c8_0, if_neg c8_1, if_neg c8_2, if_neg c8_3, if_neg c8_4, if_neg c8_5, if_neg c8_6, if_pos c8_7]
                  exact hret _ _ _ _ _ _ (by simp only [em]) (by simp only [em]) hP hD hS dM_count_141
                · by_cases c8_8 : w = 8
                  · refine wt_i c8_8 ?_
                    refine lv_tableIn (tgt := 142) hx hb dM_count_8 (by decide) (by decide) rfl (by decide) ?_
                    refine lv_aload_n hx hb dM_count_142 rfl (lv_at hl 1 rfl) ?_
                    refine va_get (D := D) (ci := 0) (v := .int (F 23)) (C := RM) (T := TM) (N := 29) hx hb hts inM_ hown hK hP 0 rfl hcl 23 (by decide) f156 (fun _ h9 => h9) rfl dM_count_143 ?_
                    have em : mr_M_count (F 2) (F 3) (F 4) (F 5) (F 21) (F 23) (F 24) (F 25) (G 17) w = (F 23, 0) := by rw [mr_M_count, if_neg c8_0, if_neg c8_1, if_neg c8_2, if_neg c8_3, if_neg c8_4, if_neg c8_5, if_neg c8_6, if_neg c8_7, if_pos c8_8]
                    exact hret _ _ _ _ _ _ (by simp only [em]) (by simp only [em]) hP hD hS dM_count_146
                  · refine lv_tableOut (tgt := 147) hx hb dM_count_8 (by exact sw_out c8_0 c8_1 c8_2 c8_3 c8_4 c8_5 c8_6 c8_7 c8_8) (by decide) ?_
                    refine lv_iconst (v := (-1)) hx hb dM_count_147 (by decide) ?_
                    have em : mr_M_count (F 2) (F 3) (F 4) (F 5) (F 21) (F 23) (F 24) (F 25) (G 17) w = ((-1), 0) := by rw [mr_M_count, if_neg c8_0, if_neg c8_1, if_neg c8_2, if_neg c8_3, if_neg c8_4, if_neg c8_5, if_neg c8_6, if_neg c8_7, if_neg c8_8]
                    exact hret _ _ _ _ _ _ (by simp only [em]) (by simp only [em]) hP hD hS dM_count_148
