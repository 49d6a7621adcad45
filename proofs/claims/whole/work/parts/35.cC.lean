def mr_Fr_forget : Int32 := 0
set_option maxHeartbeats 4000000 in
set_option maxRecDepth 100000 in
theorem c_Fr_forget (l : Launch) (D : va_G) (cl : List vw_C) (hcl : cOK cl) (oa ca : Nat → Nat) (ck : Nat → ClassId) (F : Nat → Int32) (G : Nat → Nat → Int32) {H0 : Heap} (hP : va_P D cl (cW oa ca ck F G) H0) (hD : va_D (fun _ => True) (cW oa ca ck F G)) : ww_Met l yFr_forget wsFr_forget ({ frames := 0, cells := 0, slots := 0, locals := 0 } : Room) D cl (cT ck) H0 [.ref (oa 4)] (cW oa ca ck F G) none (cW oa ca ck (upd F 5 (mr_Fr_forget)) G) := by
  refine ww_metV (by decide) rfl (Nat.le_of_ble_eq_true rfl) hP hD ?_
  intro p e s m args below meth c Q A Sx hK hP hD hS hA ls hl hret
  obtain ⟨hx, hb, hml, hown, hts⟩ := id Sx
  have hl : lv_has ls 1 [(0, .ref (oa 4))] := hl
  obtain ⟨H, eH⟩ : ∃ H : Heap, H = H0 := ⟨_, rfl⟩
  obtain ⟨locs, eL⟩ : ∃ L : List Loc, L = [] := ⟨_, rfl⟩
  have hP : va_P D cl (cW oa ca ck F G) H := by rw [eH]; exact hP
  have hS : va_S A H0 H locs := by rw [eH, eL]; exact hS
  rw [show W p l e ({ frames := 0, cells := 0, slots := 0, locals := 0 } : Room) s m args below meth c H0 [] 0 0 Q (F0 m 0 ls []) = W p l e ({ frames := 0, cells := 0, slots := 0, locals := 0 } : Room) s m args below meth c H locs 0 0 Q (F0 m 0 ls []) by rw [eH, eL]]
  clear eH eL
  have f22 := hts _ (List.mem_cons_of_mem _ mfFr_22)
  have inFr_ : ∀ w ∈ wsFr0, w ∈ wsFr_forget := fun w h => List.mem_cons_of_mem _ (inFr_all w h)
  refine lv_aload_n hx hb dFr_forget_0 rfl (lv_at hl 0 rfl) ?_
  refine lv_iconst (v := 0) hx hb dFr_forget_1 (by decide) ?_
  refine va_put (D := D) (ci := 5) (fs := cWl4 oa ca F) (v := .int 0) (ty := .boolean) (C := RFr) (T := TFr) (N := 6) hx hb hts inFr_ tyFr tyFr_ok nmFr hown hK hP hD hS 4 rfl hcl.2.2.2.2.1 5 (by decide) f22 (fun _ h9 => h9) rfl (by decide +kernel) (by first | rfl | assumption) rfl (Nat.le_of_ble_eq_true rfl) dFr_forget_2 (fun H locs hP hD hS => ?_)
  rw [cW_f5] at hP hD
  have em : mr_Fr_forget = 0 := by rw [mr_Fr_forget]
  exact hret _ _ _ _ _ (by simp only [em]) hP hD hS dFr_forget_5
def lf_Fr_headFor_2 (g10 : Nat → Int32) (g12 : Nat → Int32) (sz : Nat) (d : Nat) : Nat → Nat → Int32
  | 0, i => 0
  | N + 1, i => (if (nI sz) ≤ (nI i) then (nI d) else (if (mr_Bo_isAtMost g10 ((g12 i).toNatClampNeg) d) = 0 then lf_Fr_headFor_2 g10 g12 sz d N (i + 1) else ((if (mr_Bo_isAtMost g10 d ((g12 i).toNatClampNeg)) = 0 then (-1) else nI (g12 i).toNatClampNeg) : Int32)))
def mr_Fr_headFor (g10 : Nat → Int32) (g12 : Nat → Int32) (sz : Nat) (d : Nat) : Int32 := lf_Fr_headFor_2 g10 g12 sz d (sz + 1) 0
set_option maxHeartbeats 4000000 in
set_option maxRecDepth 100000 in
theorem c_Fr_headFor (l : Launch) (D : va_G) (cl : List vw_C) (hcl : cOK cl) (oa ca : Nat → Nat) (ck : Nat → ClassId) (F : Nat → Int32) (G : Nat → Nat → Int32) {H : Heap} (hP : va_P D cl (cW oa ca ck F G) H) (sz : Nat) (d : Nat) (k4 : F 4 = nI sz) (hsz : sz ≤ 4096) (hd : d < 4096) (hM : ∀ j, j < sz → ∃ x : Nat, x < 4096 ∧ G 12 j = nI x) : ro_Met l yFr_headFor wsFr_headFor ({ frames := 1, cells := 0, slots := 0, locals := 25 } : Room) D cl (cT ck) H [.ref (oa 4), .int (nI d)] (.int (mr_Fr_headFor (G 10) (G 12) sz d)) := by
  refine ro_metI (by decide) rfl (Nat.le_of_ble_eq_true rfl) ?_
  intro p e s m args below meth c Q Sx hK ls hl hret
  obtain ⟨hx, hb, hml, hown, hts⟩ := id Sx
  have hl : lv_has ls 4 [(0, .ref (oa 4)), (1, .int (nI d))] := hl
  have f18 := hts _ (List.mem_cons_of_mem _ mfFr_18)
  have inFr_ : ∀ w ∈ wsFr0, w ∈ wsFr_headFor := fun w h => List.mem_cons_of_mem _ (inFr_all w h)
  have f9 := hts _ (List.mem_cons_of_mem _ mfFr_9)
  have f30 := hts _ (List.mem_cons_of_mem _ mfFr_30)
  refine lv_iconst (v := 0) hx hb dFr_headFor_0 (by decide) ?_
  refine lv_istore_n (lv' := [(2, .int 0), (0, .ref (oa 4)), (1, .int (nI d))]) hx hb dFr_headFor_1 rfl hl (by decide) rfl (fun ls hl => ?_)
  have loop2 : ∀ (N2 : Nat) (i : Nat), i ≤ sz → sz - i < N2 → lf_Fr_headFor_2 (G 10) (G 12) sz d (sz + 1) 0 = lf_Fr_headFor_2 (G 10) (G 12) sz d N2 i → ∀ (ls : Array Slot), lv_has ls 4 [(2, .int (nI i)), (0, .ref (oa 4)), (1, .int (nI d))] → W p l e ({ frames := 1, cells := 0, slots := 0, locals := 25 } : Room) s m args below meth c H [] 0 0 Q (F0 m 2 ls []) := by
    intro N2
    induction N2 with
    | zero => intro i hi hm2; exact absurd hm2 (Nat.not_lt_zero _)
    | succ N2 ih2 =>
      intro i hi hm2 hR2 ls hl
      refine lv_iload_n hx hb dFr_headFor_2 rfl (lv_at hl 0 rfl) ?_
      refine lv_aload_n hx hb dFr_headFor_3 rfl (lv_at hl 1 rfl) ?_
      refine va_get (D := D) (ci := 5) (v := .int (F 4)) (C := RFr) (T := TFr) (N := 6) hx hb hts inFr_ hown hK hP 4 rfl hcl.2.2.2.2.1 4 (by decide) f18 (fun _ h9 => h9) rfl dFr_headFor_4 ?_
      refine wt_i k4 ?_
      refine lv_icmp_ge (tgt := 53) hx hb dFr_headFor_7 (by decide) (fun c7 => ?_) (fun c7 => ?_)
      · have n7 : sz ≤ i := (nI_leI (a := sz) (b := i) (by omega) (by omega)).mp c7
        refine lv_iload_n hx hb dFr_headFor_53 rfl (lv_at hl 2 rfl) ?_
        exact hret _ _ _ (by rw [mr_Fr_headFor, hR2, lf_Fr_headFor_2, if_pos c7]) dFr_headFor_54
      · have n7 : ¬ sz ≤ i := fun h9 => c7 ((nI_leI (a := sz) (b := i) (by omega) (by omega)).mpr h9)
        have xm := ix_cl (hM i (by omega)) (by omega)
        have xm2 := xm.2
        refine lv_aload_n hx hb dFr_headFor_10 rfl (lv_at hl 1 rfl) ?_
        refine va_get (D := D) (ci := 5) (v := .ref (ca 12)) (C := RFr) (T := TFr) (N := 6) hx hb hts inFr_ hown hK hP 4 rfl hcl.2.2.2.2.1 2 (by decide) f9 (fun _ h9 => h9) rfl dFr_headFor_11 ?_
        refine lv_iload_n hx hb dFr_headFor_14 rfl (lv_at hl 0 rfl) ?_
        have sd15 : i < 4096 := by omega
        refine wn_iald (f := G 12) hx hb hK hP 20 12 rfl rfl i rfl sd15 (by decide) dFr_headFor_15 ?_
        refine wt_i (r := nI (G 12 i).toNatClampNeg) (by exact xm.1) ?_
        refine lv_istore_n (lv' := [(3, .int (nI (G 12 i).toNatClampNeg)), (2, .int (nI i)), (0, .ref (oa 4)), (1, .int (nI d))]) hx hb dFr_headFor_16 rfl hl (by decide) rfl (fun ls hl => ?_)
        refine lv_aload_n hx hb dFr_headFor_17 rfl (lv_at hl 2 rfl) ?_
        refine va_get (D := D) (ci := 5) (v := .ref (oa 3)) (C := RFr) (T := TFr) (N := 6) hx hb hts inFr_ hown hK hP 4 rfl hcl.2.2.2.2.1 1 (by decide) f30 (fun _ h9 => h9) rfl dFr_headFor_18 ?_
        refine lv_iload_n hx hb dFr_headFor_21 rfl (lv_at hl 0 rfl) ?_
        refine lv_iload_n hx hb dFr_headFor_22 rfl (lv_at hl 3 rfl) ?_
        refine ro_callV (r := (.int (mr_Bo_isAtMost (G 10) ((G 12 i).toNatClampNeg) d))) (As := [.int (nI (G 12 i).toNatClampNeg), .int (nI d)]) (rest := []) Sx (c_Bo_isAtMost l D cl hcl oa ca ck F G hP ((G 12 i).toNatClampNeg) d xm.2 hd) (cwV 2 hts gFr_headFor_Bo_isAtMost rfl rfl rfl (by decide +kernel) ⟨Nat.le_of_ble_eq_true rfl, Nat.le_of_ble_eq_true rfl⟩) hK (va_recv hK hP (ci := 4) (q0 := 3) hcl.2.2.2.1 rfl) rfl hl.1 rfl (Nat.le_of_ble_eq_true rfl) dFr_headFor_23 ⟨Nat.zero_le _, Nat.zero_le _⟩ ?_
        refine lv_if_eq (tgt := 47) hx hb dFr_headFor_26 (by decide) (fun c26 => ?_) (fun c26 => ?_)
        · refine lv_iinc (v := nI (i + 1)) (lv' := [(2, .int (nI (i + 1))), (3, .int (nI (G 12 i).toNatClampNeg)), (0, .ref (oa 4)), (1, .int (nI d))]) hx hb dFr_headFor_47 hl (k := 1) rfl (by exact ii_1 i) (by decide) rfl (fun ls hl => ?_)
          refine lv_goto (tgt := 2) hx hb dFr_headFor_50 (by decide) ?_
          have er2 : lf_Fr_headFor_2 (G 10) (G 12) sz d (N2 + 1) i = lf_Fr_headFor_2 (G 10) (G 12) sz d N2 (i + 1) := by rw [lf_Fr_headFor_2, if_neg c7, if_pos c26]
          exact ih2 (i + 1) (by omega) (by omega) (hR2.trans er2) ls (lv_sub hl [0, 2, 3] rfl)
        · refine lv_aload_n hx hb dFr_headFor_29 rfl (lv_at hl 2 rfl) ?_
          refine va_get (D := D) (ci := 5) (v := .ref (oa 3)) (C := RFr) (T := TFr) (N := 6) hx hb hts inFr_ hown hK hP 4 rfl hcl.2.2.2.2.1 1 (by decide) f30 (fun _ h9 => h9) rfl dFr_headFor_30 ?_
          refine lv_iload_n hx hb dFr_headFor_33 rfl (lv_at hl 3 rfl) ?_
          refine lv_iload_n hx hb dFr_headFor_34 rfl (lv_at hl 0 rfl) ?_
          refine ro_callV (r := (.int (mr_Bo_isAtMost (G 10) d ((G 12 i).toNatClampNeg)))) (As := [.int (nI d), .int (nI (G 12 i).toNatClampNeg)]) (rest := []) Sx (c_Bo_isAtMost l D cl hcl oa ca ck F G hP d ((G 12 i).toNatClampNeg) hd xm.2) (cwV 2 hts gFr_headFor_Bo_isAtMost rfl rfl rfl (by decide +kernel) ⟨Nat.le_of_ble_eq_true rfl, Nat.le_of_ble_eq_true rfl⟩) hK (va_recv hK hP (ci := 4) (q0 := 3) hcl.2.2.2.1 rfl) rfl hl.1 rfl (Nat.le_of_ble_eq_true rfl) dFr_headFor_35 ⟨Nat.zero_le _, Nat.zero_le _⟩ ?_
          have j46 : ∀ (ls : Array Slot), lv_has ls 4 [(3, .int (nI (G 12 i).toNatClampNeg)), (2, .int (nI i)), (0, .ref (oa 4)), (1, .int (nI d))] → W p l e ({ frames := 1, cells := 0, slots := 0, locals := 25 } : Room) s m args below meth c H [] 0 0 Q (F0 m 46 ls [.int ((if (mr_Bo_isAtMost (G 10) d ((G 12 i).toNatClampNeg)) = 0 then (-1) else nI (G 12 i).toNatClampNeg) : Int32)]) := by
            intro ls hl
            exact hret _ _ _ (by rw [mr_Fr_headFor, hR2, lf_Fr_headFor_2, if_neg c7, if_neg c26]) dFr_headFor_46
          refine lv_if_eq (tgt := 45) hx hb dFr_headFor_38 (by decide) (fun c38 => ?_) (fun c38 => ?_)
          · refine lv_iconst (v := (-1)) hx hb dFr_headFor_45 (by decide) ?_
            exact wt_i (by rw [if_pos c38]) (j46 ls hl)
          · refine lv_iload_n hx hb dFr_headFor_41 rfl (lv_at hl 0 rfl) ?_
            refine lv_goto (tgt := 46) hx hb dFr_headFor_42 (by decide) ?_
            exact wt_i (by rw [if_neg c38]) (j46 ls hl)
  exact loop2 (sz + 1) 0 (by omega) (by omega) rfl ls (lv_sub hl [0, 1, 2] rfl)
def lf_Fr_dropBeatenBy_4 (g10 : Nat → Int32) (g12 : Nat → Int32) (sz : Nat) (d : Nat) : Nat → Nat → Nat → (Nat → Int32) → (Nat → Int32) → Nat × Nat × (Nat → Int32) × (Nat → Int32)
  | 0, i, ke, me, he => (i, ke, me, he)
  | N + 1, i, ke, me, he => (if (nI sz) ≤ (nI i) then (i, ke, me, he) else (if (mr_Bo_isAtMost g10 d ((g12 i).toNatClampNeg)) = 0 then lf_Fr_dropBeatenBy_4 g10 g12 sz d N (i + 1) (ke + 1) (upd me ke (nI (g12 i).toNatClampNeg)) he else lf_Fr_dropBeatenBy_4 g10 g12 sz d N (i + 1) ke me (upd he ((g12 i).toNatClampNeg) (-1))))
def mr_Fr_dropBeatenBy (g10 : Nat → Int32) (g12 : Nat → Int32) (g13 : Nat → Int32) (sz : Nat) (d : Nat) : Int32 × (Nat → Int32) × (Nat → Int32) := (nI ((lf_Fr_dropBeatenBy_4 g10 g12 sz d (sz + 1) 0 0 g12 g13).2.1), (lf_Fr_dropBeatenBy_4 g10 g12 sz d (sz + 1) 0 0 g12 g13).2.2.1, (lf_Fr_dropBeatenBy_4 g10 g12 sz d (sz + 1) 0 0 g12 g13).2.2.2)
theorem db_lf {g10 g12 : Nat → Int32} {sz d : Nat} (hs : sz ≤ 4096) (hM : ∀ j, j < sz → ∃ x : Nat, x < 4096 ∧ g12 j = nI x) : ∀ (N i ke : Nat) (me he : Nat → Int32), ke ≤ i → i ≤ sz → (∀ j, j < ke → ∃ x : Nat, x < 4096 ∧ me j = nI x) → (lf_Fr_dropBeatenBy_4 g10 g12 sz d N i ke me he).2.1 ≤ sz ∧ ∀ j, j < (lf_Fr_dropBeatenBy_4 g10 g12 sz d N i ke me he).2.1 → ∃ x : Nat, x < 4096 ∧ (lf_Fr_dropBeatenBy_4 g10 g12 sz d N i ke me he).2.2.1 j = nI x := by
  intro N
  induction N with
  | zero => intro i ke me he h1 h2 h3; rw [lf_Fr_dropBeatenBy_4]; exact ⟨by show ke ≤ sz; omega, h3⟩
  | succ N ih =>
    intro i ke me he h1 h2 h3
    rw [lf_Fr_dropBeatenBy_4]
    by_cases c1 : nI sz ≤ nI i
    · rw [if_pos c1]; exact ⟨by show ke ≤ sz; omega, h3⟩
    · rw [if_neg c1]
      have n1 : i < sz := nI_nle2 c1 (by omega)
      by_cases c2 : mr_Bo_isAtMost g10 d (g12 i).toNatClampNeg = 0
      · rw [if_pos c2]
        refine ih (i + 1) (ke + 1) _ he (by omega) (by omega) (fun j hj => ?_)
        by_cases e : j = ke
        · rw [e, pk_us]
          obtain ⟨x, hx, ex⟩ := hM i n1
          exact ⟨_, by rw [ex, nI_clamp (by omega)]; exact hx, rfl⟩
        · rw [pk_un e]; exact h3 j (by omega)
      · rw [if_neg c2]
        exact ih (i + 1) ke me _ (by omega) (by omega) h3
theorem db_ok {g10 g12 g13 : Nat → Int32} {sz d : Nat} (hs : sz ≤ 4096) (hM : ∀ j, j < sz → ∃ x : Nat, x < 4096 ∧ g12 j = nI x) : (mr_Fr_dropBeatenBy g10 g12 g13 sz d).1 = nI (mr_Fr_dropBeatenBy g10 g12 g13 sz d).1.toNatClampNeg ∧ (mr_Fr_dropBeatenBy g10 g12 g13 sz d).1.toNatClampNeg ≤ sz ∧ ∀ j, j < (mr_Fr_dropBeatenBy g10 g12 g13 sz d).1.toNatClampNeg → ∃ x : Nat, x < 4096 ∧ (mr_Fr_dropBeatenBy g10 g12 g13 sz d).2.1 j = nI x := by
  have h := db_lf (g10 := g10) (d := d) hs hM (sz + 1) 0 0 g12 g13 (Nat.le_refl _) (Nat.zero_le _) (fun j hj => absurd hj (Nat.not_lt_zero _))
  have e : (mr_Fr_dropBeatenBy g10 g12 g13 sz d).1.toNatClampNeg = (lf_Fr_dropBeatenBy_4 g10 g12 sz d (sz + 1) 0 0 g12 g13).2.1 := by
    unfold mr_Fr_dropBeatenBy
    exact nI_clamp (by have := h.1; omega)
  rw [e]
  exact ⟨rfl, h.1, h.2⟩
theorem me_upd {f : Nat → Int32} {k i : Nat} (h : ∀ j, j < k → ∃ x : Nat, x < 4096 ∧ f j = nI x) (hi : i < 4096) : ∀ j, j < k + 1 → ∃ x : Nat, x < 4096 ∧ upd f k (nI i) j = nI x := by
  intro j hj
  by_cases e : j = k
  · rw [e, pk_us]; exact ⟨i, hi, rfl⟩
  · rw [pk_un e]; exact h j (by omega)
theorem db_he {g10 g12 : Nat → Int32} {sz d n : Nat} : ∀ (N i ke : Nat) (me he : Nat → Int32), (∀ j, j < n → he j = -1 ∨ ∃ x : Nat, x < 4096 ∧ he j = nI x) → ∀ j, j < n → (lf_Fr_dropBeatenBy_4 g10 g12 sz d N i ke me he).2.2.2 j = -1 ∨ ∃ x : Nat, x < 4096 ∧ (lf_Fr_dropBeatenBy_4 g10 g12 sz d N i ke me he).2.2.2 j = nI x := by
  intro N
  induction N with
  | zero => intro i ke me he h; rw [lf_Fr_dropBeatenBy_4]; exact h
  | succ N ih =>
    intro i ke me he h
    rw [lf_Fr_dropBeatenBy_4]
    by_cases c1 : nI sz ≤ nI i
    · rw [if_pos c1]; exact h
    · rw [if_neg c1]
      by_cases c2 : mr_Bo_isAtMost g10 d (g12 i).toNatClampNeg = 0
      · rw [if_pos c2]; exact ih _ _ _ _ h
      · rw [if_neg c2]
        refine ih _ _ _ _ (fun j hj => ?_)
        by_cases e : j = (g12 i).toNatClampNeg
        · rw [e, pk_us]; exact Or.inl rfl
        · rw [pk_un e]; exact h j hj
theorem hf_lf {g10 g12 : Nat → Int32} {sz d : Nat} (hs : sz ≤ 4096) (hd : d < 4096) (hM : ∀ j, j < sz → ∃ x : Nat, x < 4096 ∧ g12 j = nI x) : ∀ (N i : Nat), i ≤ sz → (lf_Fr_headFor_2 g10 g12 sz d N i = -1 ∨ ∃ x : Nat, x < 4096 ∧ lf_Fr_headFor_2 g10 g12 sz d N i = nI x) := by
  intro N
  induction N with
  | zero => intro i _; rw [lf_Fr_headFor_2]; exact Or.inr ⟨0, by decide, rfl⟩
  | succ N ih =>
    intro i hi
    rw [lf_Fr_headFor_2]
    by_cases c1 : nI sz ≤ nI i
    · rw [if_pos c1]; exact Or.inr ⟨d, hd, rfl⟩
    · rw [if_neg c1]
      have n1 : i < sz := nI_nle2 c1 (by omega)
      by_cases c2 : mr_Bo_isAtMost g10 (g12 i).toNatClampNeg d = 0
      · rw [if_pos c2]; exact ih (i + 1) (by omega)
      · rw [if_neg c2]
        by_cases c3 : mr_Bo_isAtMost g10 d (g12 i).toNatClampNeg = 0
        · rw [if_pos c3]; exact Or.inl rfl
        · rw [if_neg c3]
          exact Or.inr ⟨_, (ix_cl (hM i n1) (by omega)).2, rfl⟩
set_option maxHeartbeats 4000000 in
set_option maxRecDepth 100000 in
theorem c_Fr_dropBeatenBy (l : Launch) (D : va_G) (cl : List vw_C) (hcl : cOK cl) (oa ca : Nat → Nat) (ck : Nat → ClassId) (F : Nat → Int32) (G : Nat → Nat → Int32) {H0 : Heap} (hP : va_P D cl (cW oa ca ck F G) H0) (hD : va_D (fun _ => True) (cW oa ca ck F G)) (sz : Nat) (d : Nat) (k4 : F 4 = nI sz) (hsz : sz ≤ 4096) (hd : d < 4096) (hM : ∀ j, j < sz → ∃ x : Nat, x < 4096 ∧ G 12 j = nI x) : ww_Met l yFr_dropBeatenBy wsFr_dropBeatenBy ({ frames := 1, cells := 0, slots := 0, locals := 25 } : Room) D cl (cT ck) H0 [.ref (oa 4), .int (nI d)] (cW oa ca ck F G) none (cW oa ca ck (upd F 4 ((mr_Fr_dropBeatenBy (G 10) (G 12) (G 13) sz d).1)) (va_up (va_up G 12 ((mr_Fr_dropBeatenBy (G 10) (G 12) (G 13) sz d).2.1)) 13 ((mr_Fr_dropBeatenBy (G 10) (G 12) (G 13) sz d).2.2))) := by
  refine ww_metV (by decide) rfl (Nat.le_of_ble_eq_true rfl) hP hD ?_
  intro p e s m args below meth c Q A Sx hK hP hD hS hA ls hl hret
  obtain ⟨hx, hb, hml, hown, hts⟩ := id Sx
  have hl : lv_has ls 5 [(0, .ref (oa 4)), (1, .int (nI d))] := hl
  obtain ⟨H, eH⟩ : ∃ H : Heap, H = H0 := ⟨_, rfl⟩
  obtain ⟨locs, eL⟩ : ∃ L : List Loc, L = [] := ⟨_, rfl⟩
  have hP : va_P D cl (cW oa ca ck F G) H := by rw [eH]; exact hP
  have hS : va_S A H0 H locs := by rw [eH, eL]; exact hS
  rw [show W p l e ({ frames := 1, cells := 0, slots := 0, locals := 25 } : Room) s m args below meth c H0 [] 0 0 Q (F0 m 0 ls []) = W p l e ({ frames := 1, cells := 0, slots := 0, locals := 25 } : Room) s m args below meth c H locs 0 0 Q (F0 m 0 ls []) by rw [eH, eL]]
  clear eH eL
  have f18 := hts _ (List.mem_cons_of_mem _ mfFr_18)
  have inFr_ : ∀ w ∈ wsFr0, w ∈ wsFr_dropBeatenBy := fun w h => List.mem_cons_of_mem _ (inFr_all w h)
  have f9 := hts _ (List.mem_cons_of_mem _ mfFr_9)
  have f30 := hts _ (List.mem_cons_of_mem _ mfFr_30)
  have f15 := hts _ (List.mem_cons_of_mem _ mfFr_15)
  refine lv_iconst (v := 0) hx hb dFr_dropBeatenBy_0 (by decide) ?_
  refine lv_istore_n (lv' := [(2, .int 0), (0, .ref (oa 4)), (1, .int (nI d))]) hx hb dFr_dropBeatenBy_1 rfl hl (by decide) rfl (fun ls hl => ?_)
  refine lv_iconst (v := 0) hx hb dFr_dropBeatenBy_2 (by decide) ?_
  refine lv_istore_n (lv' := [(3, .int 0), (2, .int 0), (0, .ref (oa 4)), (1, .int (nI d))]) hx hb dFr_dropBeatenBy_3 rfl hl (by decide) rfl (fun ls hl => ?_)
  have ex4 : ∀ (H : Heap) (locs : List Loc), va_P D cl (cW oa ca ck F (va_up (va_up G 12 ((lf_Fr_dropBeatenBy_4 (G 10) (G 12) sz d (sz + 1) 0 0 (G 12) (G 13)).2.2.1)) 13 ((lf_Fr_dropBeatenBy_4 (G 10) (G 12) sz d (sz + 1) 0 0 (G 12) (G 13)).2.2.2))) H → va_D A (cW oa ca ck F (va_up (va_up G 12 ((lf_Fr_dropBeatenBy_4 (G 10) (G 12) sz d (sz + 1) 0 0 (G 12) (G 13)).2.2.1)) 13 ((lf_Fr_dropBeatenBy_4 (G 10) (G 12) sz d (sz + 1) 0 0 (G 12) (G 13)).2.2.2))) → va_S A H0 H locs → ∀ (ls : Array Slot), lv_has ls 5 [(3, .int (nI ((lf_Fr_dropBeatenBy_4 (G 10) (G 12) sz d (sz + 1) 0 0 (G 12) (G 13)).1))), (2, .int (nI ((lf_Fr_dropBeatenBy_4 (G 10) (G 12) sz d (sz + 1) 0 0 (G 12) (G 13)).2.1))), (0, .ref (oa 4)), (1, .int (nI d))] → W p l e ({ frames := 1, cells := 0, slots := 0, locals := 25 } : Room) s m args below meth c H locs 0 0 Q (F0 m 61 ls []) := by
    intro H locs hP hD hS ls hl
    refine lv_aload_n hx hb dFr_dropBeatenBy_61 rfl (lv_at hl 2 rfl) ?_
    refine lv_iload_n hx hb dFr_dropBeatenBy_62 rfl (lv_at hl 1 rfl) ?_
    refine va_put (D := D) (ci := 5) (fs := cWl4 oa ca F) (v := .int (nI ((lf_Fr_dropBeatenBy_4 (G 10) (G 12) sz d (sz + 1) 0 0 (G 12) (G 13)).2.1))) (ty := .int) (C := RFr) (T := TFr) (N := 6) hx hb hts inFr_ tyFr tyFr_ok nmFr hown hK hP hD hS 4 rfl hcl.2.2.2.2.1 4 (by decide) f18 (fun _ h9 => h9) rfl (by decide +kernel) rfl rfl (Nat.le_of_ble_eq_true rfl) dFr_dropBeatenBy_63 (fun H locs hP hD hS => ?_)
    rw [cW_f4] at hP hD
    have em : mr_Fr_dropBeatenBy (G 10) (G 12) (G 13) sz d = (nI ((lf_Fr_dropBeatenBy_4 (G 10) (G 12) sz d (sz + 1) 0 0 (G 12) (G 13)).2.1), (lf_Fr_dropBeatenBy_4 (G 10) (G 12) sz d (sz + 1) 0 0 (G 12) (G 13)).2.2.1, (lf_Fr_dropBeatenBy_4 (G 10) (G 12) sz d (sz + 1) 0 0 (G 12) (G 13)).2.2.2) := by rw [mr_Fr_dropBeatenBy]
    exact hret _ _ _ _ _ (by simp only [em]) hP hD hS dFr_dropBeatenBy_66
  have loop4 : ∀ (N4 : Nat) (i : Nat) (ke : Nat) (me : Nat → Int32) (he : Nat → Int32), i ≤ sz → ke ≤ i → (∀ j, i ≤ j → me j = G 12 j) → sz - i < N4 → lf_Fr_dropBeatenBy_4 (G 10) (G 12) sz d (sz + 1) 0 0 (G 12) (G 13) = lf_Fr_dropBeatenBy_4 (G 10) (G 12) sz d N4 i ke me he → ∀ (H : Heap) (locs : List Loc), va_P D cl (cW oa ca ck F (va_up (va_up G 12 me) 13 he)) H → va_D A (cW oa ca ck F (va_up (va_up G 12 me) 13 he)) → va_S A H0 H locs → ∀ (ls : Array Slot), lv_has ls 5 [(3, .int (nI i)), (2, .int (nI ke)), (0, .ref (oa 4)), (1, .int (nI d))] → W p l e ({ frames := 1, cells := 0, slots := 0, locals := 25 } : Room) s m args below meth c H locs 0 0 Q (F0 m 4 ls []) := by
    intro N4
    induction N4 with
    | zero => intro i ke me he hi hke hme hm4; exact absurd hm4 (Nat.not_lt_zero _)
    | succ N4 ih4 =>
      intro i ke me he hi hke hme hm4 hR4 H locs hP hD hS ls hl
      refine lv_iload_n hx hb dFr_dropBeatenBy_4 rfl (lv_at hl 0 rfl) ?_
      refine lv_aload_n hx hb dFr_dropBeatenBy_5 rfl (lv_at hl 2 rfl) ?_
      refine va_get (D := D) (ci := 5) (v := .int (F 4)) (C := RFr) (T := TFr) (N := 6) hx hb hts inFr_ hown hK hP 4 rfl hcl.2.2.2.2.1 4 (by decide) f18 (fun _ h9 => h9) rfl dFr_dropBeatenBy_6 ?_
      refine wt_i k4 ?_
      refine lv_icmp_ge (tgt := 61) hx hb dFr_dropBeatenBy_9 (by decide) (fun c9 => ?_) (fun c9 => ?_)
      · have n9 : sz ≤ i := (nI_leI (a := sz) (b := i) (by omega) (by omega)).mp c9
        have er4 : lf_Fr_dropBeatenBy_4 (G 10) (G 12) sz d (N4 + 1) i ke me he = (i, ke, me, he) := by rw [lf_Fr_dropBeatenBy_4, if_pos c9]
        rw [er4] at hR4
        exact ex4 H locs (by rw [hR4]; exact hP) (by rw [hR4]; exact hD) hS ls (by rw [hR4]; exact lv_sub hl [0, 1, 2, 3] rfl)
      · have n9 : ¬ sz ≤ i := fun h9 => c9 ((nI_leI (a := sz) (b := i) (by omega) (by omega)).mpr h9)
        have xm := ix_cl (hM i (by omega)) (by omega)
        have xm2 := xm.2
        refine lv_aload_n hx hb dFr_dropBeatenBy_12 rfl (lv_at hl 2 rfl) ?_
        refine va_get (D := D) (ci := 5) (v := .ref (ca 12)) (C := RFr) (T := TFr) (N := 6) hx hb hts inFr_ hown hK hP 4 rfl hcl.2.2.2.2.1 2 (by decide) f9 (fun _ h9 => h9) rfl dFr_dropBeatenBy_13 ?_
        refine lv_iload_n hx hb dFr_dropBeatenBy_16 rfl (lv_at hl 0 rfl) ?_
        have sd17 : i < 4096 := by omega
        have eg17 : (va_up (va_up G 12 me) 13 he) 12 = me := by rw [vup_un (k := 13) (j := 12) (by decide), vup_us]
        refine wn_iald (f := me) hx hb hK hP 20 12 (congrArg (fun z : Nat → Int32 => (some ((ca 12), (.inl ((ck 12), 4096, .inl z) : va_E)) : Option (Nat × va_E))) eg17) rfl i rfl sd17 (by decide) dFr_dropBeatenBy_17 ?_
        refine wt_i (r := nI (G 12 i).toNatClampNeg) (by exact (hme i (Nat.le_refl _)).trans xm.1) ?_
        refine lv_istore (lv' := [(4, .int (nI (G 12 i).toNatClampNeg)), (3, .int (nI i)), (2, .int (nI ke)), (0, .ref (oa 4)), (1, .int (nI d))]) hx hb dFr_dropBeatenBy_18 hl (by decide) rfl (fun ls hl => ?_)
        refine lv_aload_n hx hb dFr_dropBeatenBy_20 rfl (lv_at hl 3 rfl) ?_
        refine va_get (D := D) (ci := 5) (v := .ref (oa 3)) (C := RFr) (T := TFr) (N := 6) hx hb hts inFr_ hown hK hP 4 rfl hcl.2.2.2.2.1 1 (by decide) f30 (fun _ h9 => h9) rfl dFr_dropBeatenBy_21 ?_
        refine lv_iload_n hx hb dFr_dropBeatenBy_24 rfl (lv_at hl 4 rfl) ?_
        refine lv_iload hx hb dFr_dropBeatenBy_25 (lv_at hl 0 rfl) ?_
        refine ro_callV (r := (.int (mr_Bo_isAtMost (G 10) d ((G 12 i).toNatClampNeg)))) (As := [.int (nI d), .int (nI (G 12 i).toNatClampNeg)]) (rest := []) Sx (c_Bo_isAtMost l D cl hcl oa ca ck F (va_up (va_up G 12 me) 13 he) hP d ((G 12 i).toNatClampNeg) hd xm.2) (cwV 2 hts gFr_dropBeatenBy_Bo_isAtMost rfl rfl rfl (by decide +kernel) ⟨Nat.le_of_ble_eq_true rfl, Nat.le_of_ble_eq_true rfl⟩) hK (va_recv hK hP (ci := 4) (q0 := 3) hcl.2.2.2.1 rfl) rfl hl.1 rfl (Nat.le_of_ble_eq_true rfl) dFr_dropBeatenBy_27 ⟨Nat.zero_le _, Nat.zero_le _⟩ ?_
        refine lv_if_eq (tgt := 44) hx hb dFr_dropBeatenBy_30 (by decide) (fun c30 => ?_) (fun c30 => ?_)
        · refine lv_aload_n hx hb dFr_dropBeatenBy_44 rfl (lv_at hl 3 rfl) ?_
          refine va_get (D := D) (ci := 5) (v := .ref (ca 12)) (C := RFr) (T := TFr) (N := 6) hx hb hts inFr_ hown hK hP 4 rfl hcl.2.2.2.2.1 2 (by decide) f9 (fun _ h9 => h9) rfl dFr_dropBeatenBy_45 ?_
          refine lv_iload_n hx hb dFr_dropBeatenBy_48 rfl (lv_at hl 2 rfl) ?_
          refine lv_iload hx hb dFr_dropBeatenBy_49 (lv_at hl 0 rfl) ?_
          have sd51 : ke < 4096 := by omega
          have eg51 : (va_up (va_up G 12 me) 13 he) 12 = me := by rw [vup_un (k := 13) (j := 12) (by decide), vup_us]
          refine wn_iast (f := me) hx hb hK hP hD hS 20 12 (congrArg (fun z : Nat → Int32 => (some ((ca 12), (.inl ((ck 12), 4096, .inl z) : va_E)) : Option (Nat × va_E))) eg51) rfl ke rfl sd51 (by decide) dFr_dropBeatenBy_51 (fun H locs hP hD hS => ?_)
          rw [cW_g12, vup_sw (i := 13) (j := 12) (by decide), vup_ow] at hP hD
          refine lv_iinc (v := nI (ke + 1)) (lv' := [(2, .int (nI (ke + 1))), (4, .int (nI (G 12 i).toNatClampNeg)), (3, .int (nI i)), (0, .ref (oa 4)), (1, .int (nI d))]) hx hb dFr_dropBeatenBy_52 hl (k := 2) rfl (by exact ii_1 ke) (by decide) rfl (fun ls hl => ?_)
          refine lv_iinc (v := nI (i + 1)) (lv' := [(3, .int (nI (i + 1))), (2, .int (nI (ke + 1))), (4, .int (nI (G 12 i).toNatClampNeg)), (0, .ref (oa 4)), (1, .int (nI d))]) hx hb dFr_dropBeatenBy_55 hl (k := 2) rfl (by exact ii_1 i) (by decide) rfl (fun ls hl => ?_)
          refine lv_goto (tgt := 4) hx hb dFr_dropBeatenBy_58 (by decide) ?_
          have er4 : lf_Fr_dropBeatenBy_4 (G 10) (G 12) sz d (N4 + 1) i ke me he = lf_Fr_dropBeatenBy_4 (G 10) (G 12) sz d N4 (i + 1) (ke + 1) (upd me ke (nI (G 12 i).toNatClampNeg)) he := by rw [lf_Fr_dropBeatenBy_4, if_neg c9, if_pos c30]
          exact ih4 (i + 1) (ke + 1) (upd me ke (nI (G 12 i).toNatClampNeg)) he (by omega) (by omega) (by first | exact fun j hj => hme j (by omega) | exact fun j hj => (pk_un (by omega)).trans (hme j (by omega))) (by omega) (hR4.trans er4) H locs hP hD hS ls (lv_sub hl [0, 1, 3, 4] rfl)
        · refine lv_aload_n hx hb dFr_dropBeatenBy_33 rfl (lv_at hl 3 rfl) ?_
          refine va_get (D := D) (ci := 5) (v := .ref (ca 13)) (C := RFr) (T := TFr) (N := 6) hx hb hts inFr_ hown hK hP 4 rfl hcl.2.2.2.2.1 3 (by decide) f15 (fun _ h9 => h9) rfl dFr_dropBeatenBy_34 ?_
          refine lv_iload hx hb dFr_dropBeatenBy_37 (lv_at hl 0 rfl) ?_
          refine lv_iconst (v := (-1)) hx hb dFr_dropBeatenBy_39 (by decide) ?_
          have sd40 : (G 12 i).toNatClampNeg < 4096 := by omega
          have eg40 : (va_up (va_up G 12 me) 13 he) 13 = he := by rw [vup_us]
          refine wn_iast (f := he) hx hb hK hP hD hS 21 13 (congrArg (fun z : Nat → Int32 => (some ((ca 13), (.inl ((ck 13), 4096, .inl z) : va_E)) : Option (Nat × va_E))) eg40) rfl ((G 12 i).toNatClampNeg) rfl sd40 (by decide) dFr_dropBeatenBy_40 (fun H locs hP hD hS => ?_)
          rw [cW_g13, vup_ow] at hP hD
          refine lv_goto (tgt := 55) hx hb dFr_dropBeatenBy_41 (by decide) ?_
          refine lv_iinc (v := nI (i + 1)) (lv' := [(3, .int (nI (i + 1))), (4, .int (nI (G 12 i).toNatClampNeg)), (2, .int (nI ke)), (0, .ref (oa 4)), (1, .int (nI d))]) hx hb dFr_dropBeatenBy_55 hl (k := 1) rfl (by exact ii_1 i) (by decide) rfl (fun ls hl => ?_)
          refine lv_goto (tgt := 4) hx hb dFr_dropBeatenBy_58 (by decide) ?_
          have er4 : lf_Fr_dropBeatenBy_4 (G 10) (G 12) sz d (N4 + 1) i ke me he = lf_Fr_dropBeatenBy_4 (G 10) (G 12) sz d N4 (i + 1) ke me (upd he ((G 12 i).toNatClampNeg) (-1)) := by rw [lf_Fr_dropBeatenBy_4, if_neg c9, if_neg c30]
          exact ih4 (i + 1) ke me (upd he ((G 12 i).toNatClampNeg) (-1)) (by omega) (by omega) (by first | exact fun j hj => hme j (by omega) | exact fun j hj => (pk_un (by omega)).trans (hme j (by omega))) (by omega) (hR4.trans er4) H locs hP hD hS ls (lv_sub hl [0, 2, 3, 4] rfl)
  exact loop4 (sz + 1) 0 0 (G 12) (G 13) (by omega) (by omega) (by exact fun _ _ => rfl) (by omega) rfl H locs hP hD hS ls (lv_sub hl [0, 1, 2, 3] rfl)
def lf_Fr_findHeads_7 (g8 : Nat → Int32) (g9 : Nat → Int32) (g10 : Nat → Int32) (g11 : Nat → Int32) (nD : Nat) : Nat → Nat → Nat → (Nat → Int32) → (Nat → Int32) → Nat × Nat × (Nat → Int32) × (Nat → Int32)
  | 0, i, sz, me, he => (i, sz, me, he)
  | N + 1, i, sz, me, he => (if (nI nD) ≤ (nI i) then (i, sz, me, he) else (if ((if (mr_Bo_allows g8 g9 g10 g11 i) = 0 then (-1) else mr_Fr_headFor g10 me sz i) : Int32) = (nI i) then lf_Fr_findHeads_7 g8 g9 g10 g11 nD N (i + 1) ((((mr_Fr_dropBeatenBy g10 me (upd he i ((if (mr_Bo_allows g8 g9 g10 g11 i) = 0 then (-1) else mr_Fr_headFor g10 me sz i) : Int32)) sz i).1).toNatClampNeg) + 1) (upd ((mr_Fr_dropBeatenBy g10 me (upd he i ((if (mr_Bo_allows g8 g9 g10 g11 i) = 0 then (-1) else mr_Fr_headFor g10 me sz i) : Int32)) sz i).2.1) (((mr_Fr_dropBeatenBy g10 me (upd he i ((if (mr_Bo_allows g8 g9 g10 g11 i) = 0 then (-1) else mr_Fr_headFor g10 me sz i) : Int32)) sz i).1).toNatClampNeg) (nI i)) ((mr_Fr_dropBeatenBy g10 me (upd he i ((if (mr_Bo_allows g8 g9 g10 g11 i) = 0 then (-1) else mr_Fr_headFor g10 me sz i) : Int32)) sz i).2.2) else lf_Fr_findHeads_7 g8 g9 g10 g11 nD N (i + 1) sz me (upd he i ((if (mr_Bo_allows g8 g9 g10 g11 i) = 0 then (-1) else mr_Fr_headFor g10 me sz i) : Int32))))
def mr_Fr_findHeads (g8 : Nat → Int32) (g9 : Nat → Int32) (g10 : Nat → Int32) (g11 : Nat → Int32) (g12 : Nat → Int32) (g13 : Nat → Int32) (nD : Nat) : Int32 × (Nat → Int32) × (Nat → Int32) := (nI ((lf_Fr_findHeads_7 g8 g9 g10 g11 nD (nD + 1) 0 0 g12 g13).2.1), (lf_Fr_findHeads_7 g8 g9 g10 g11 nD (nD + 1) 0 0 g12 g13).2.2.1, (lf_Fr_findHeads_7 g8 g9 g10 g11 nD (nD + 1) 0 0 g12 g13).2.2.2)
set_option maxHeartbeats 4000000 in
set_option maxRecDepth 100000 in
theorem c_Fr_findHeads (l : Launch) (D : va_G) (cl : List vw_C) (hcl : cOK cl) (oa ca : Nat → Nat) (ck : Nat → ClassId) (F : Nat → Int32) (G : Nat → Nat → Int32) {H0 : Heap} (hP : va_P D cl (cW oa ca ck F G) H0) (hD : va_D (fun _ => True) (cW oa ca ck F G)) (nD : Nat) (k1 : F 1 = nI nD) (hN : nD ≤ 4096) : ww_Met l yFr_findHeads wsFr_findHeads ({ frames := 2, cells := 0, slots := 0, locals := 49 } : Room) D cl (cT ck) H0 [.ref (oa 4)] (cW oa ca ck F G) none (cW oa ca ck (upd F 4 ((mr_Fr_findHeads (G 8) (G 9) (G 10) (G 11) (G 12) (G 13) nD).1)) (va_up (va_up G 12 ((mr_Fr_findHeads (G 8) (G 9) (G 10) (G 11) (G 12) (G 13) nD).2.1)) 13 ((mr_Fr_findHeads (G 8) (G 9) (G 10) (G 11) (G 12) (G 13) nD).2.2))) := by
  refine ww_metV (by decide) rfl (Nat.le_of_ble_eq_true rfl) hP hD ?_
  intro p e s m args below meth c Q A Sx hK hP hD hS hA ls hl hret
  obtain ⟨hx, hb, hml, hown, hts⟩ := id Sx
  have hl : lv_has ls 2 [(0, .ref (oa 4))] := hl
  obtain ⟨H, eH⟩ : ∃ H : Heap, H = H0 := ⟨_, rfl⟩
  obtain ⟨locs, eL⟩ : ∃ L : List Loc, L = [] := ⟨_, rfl⟩
  have hP : va_P D cl (cW oa ca ck F G) H := by rw [eH]; exact hP
  have hS : va_S A H0 H locs := by rw [eH, eL]; exact hS
  rw [show W p l e ({ frames := 2, cells := 0, slots := 0, locals := 49 } : Room) s m args below meth c H0 [] 0 0 Q (F0 m 0 ls []) = W p l e ({ frames := 2, cells := 0, slots := 0, locals := 49 } : Room) s m args below meth c H locs 0 0 Q (F0 m 0 ls []) by rw [eH, eL]]
  clear eH eL
  have f18 := hts _ (List.mem_cons_of_mem _ mfFr_18)
  have inFr_ : ∀ w ∈ wsFr0, w ∈ wsFr_findHeads := fun w h => List.mem_cons_of_mem _ (inFr_all w h)
  have f26 := hts _ (List.mem_cons_of_mem _ mfFr_26)
  have f40 := hts _ (List.mem_cons_of_mem _ mfFr_40)
  have inSh_ : ∀ w ∈ wsSh0, w ∈ wsFr_findHeads := fun w h => List.mem_cons_of_mem _ (inSh_all w h)
  have f15 := hts _ (List.mem_cons_of_mem _ mfFr_15)
  have f30 := hts _ (List.mem_cons_of_mem _ mfFr_30)
  have f9 := hts _ (List.mem_cons_of_mem _ mfFr_9)
  refine lv_aload_n hx hb dFr_findHeads_0 rfl (lv_at hl 0 rfl) ?_
  refine lv_iconst (v := 0) hx hb dFr_findHeads_1 (by decide) ?_
  refine va_put (D := D) (ci := 5) (fs := cWl4 oa ca F) (v := .int 0) (ty := .int) (C := RFr) (T := TFr) (N := 6) hx hb hts inFr_ tyFr tyFr_ok nmFr hown hK hP hD hS 4 rfl hcl.2.2.2.2.1 4 (by decide) f18 (fun _ h9 => h9) rfl (by decide +kernel) rfl rfl (Nat.le_of_ble_eq_true rfl) dFr_findHeads_2 (fun H locs hP hD hS => ?_)
  rw [cW_f4] at hP hD
  refine lv_iconst (v := 0) hx hb dFr_findHeads_5 (by decide) ?_
  refine lv_istore_n (lv' := [(1, .int 0), (0, .ref (oa 4))]) hx hb dFr_findHeads_6 rfl hl (by decide) rfl (fun ls hl => ?_)
  have ex7 : ∀ (H : Heap) (locs : List Loc), va_P D cl (cW oa ca ck (upd F 4 (nI ((lf_Fr_findHeads_7 (G 8) (G 9) (G 10) (G 11) nD (nD + 1) 0 0 (G 12) (G 13)).2.1))) (va_up (va_up G 12 ((lf_Fr_findHeads_7 (G 8) (G 9) (G 10) (G 11) nD (nD + 1) 0 0 (G 12) (G 13)).2.2.1)) 13 ((lf_Fr_findHeads_7 (G 8) (G 9) (G 10) (G 11) nD (nD + 1) 0 0 (G 12) (G 13)).2.2.2))) H → va_D A (cW oa ca ck (upd F 4 (nI ((lf_Fr_findHeads_7 (G 8) (G 9) (G 10) (G 11) nD (nD + 1) 0 0 (G 12) (G 13)).2.1))) (va_up (va_up G 12 ((lf_Fr_findHeads_7 (G 8) (G 9) (G 10) (G 11) nD (nD + 1) 0 0 (G 12) (G 13)).2.2.1)) 13 ((lf_Fr_findHeads_7 (G 8) (G 9) (G 10) (G 11) nD (nD + 1) 0 0 (G 12) (G 13)).2.2.2))) → va_S A H0 H locs → ∀ (ls : Array Slot), lv_has ls 2 [(1, .int (nI ((lf_Fr_findHeads_7 (G 8) (G 9) (G 10) (G 11) nD (nD + 1) 0 0 (G 12) (G 13)).1))), (0, .ref (oa 4))] → W p l e ({ frames := 2, cells := 0, slots := 0, locals := 49 } : Room) s m args below meth c H locs 0 0 Q (F0 m 85 ls []) := by
    intro H locs hP hD hS ls hl
    have em : mr_Fr_findHeads (G 8) (G 9) (G 10) (G 11) (G 12) (G 13) nD = (nI ((lf_Fr_findHeads_7 (G 8) (G 9) (G 10) (G 11) nD (nD + 1) 0 0 (G 12) (G 13)).2.1), (lf_Fr_findHeads_7 (G 8) (G 9) (G 10) (G 11) nD (nD + 1) 0 0 (G 12) (G 13)).2.2.1, (lf_Fr_findHeads_7 (G 8) (G 9) (G 10) (G 11) nD (nD + 1) 0 0 (G 12) (G 13)).2.2.2) := by rw [mr_Fr_findHeads]
    exact hret _ _ _ _ _ (by simp only [em]) hP hD hS dFr_findHeads_85
  have loop7 : ∀ (N7 : Nat) (i : Nat) (sz : Nat) (me : Nat → Int32) (he : Nat → Int32), i ≤ nD → sz ≤ i → (∀ j, j < sz → ∃ x : Nat, x < 4096 ∧ me j = nI x) → nD - i < N7 → lf_Fr_findHeads_7 (G 8) (G 9) (G 10) (G 11) nD (nD + 1) 0 0 (G 12) (G 13) = lf_Fr_findHeads_7 (G 8) (G 9) (G 10) (G 11) nD N7 i sz me he → ∀ (H : Heap) (locs : List Loc), va_P D cl (cW oa ca ck (upd F 4 (nI sz)) (va_up (va_up G 12 me) 13 he)) H → va_D A (cW oa ca ck (upd F 4 (nI sz)) (va_up (va_up G 12 me) 13 he)) → va_S A H0 H locs → ∀ (ls : Array Slot), lv_has ls 2 [(1, .int (nI i)), (0, .ref (oa 4))] → W p l e ({ frames := 2, cells := 0, slots := 0, locals := 49 } : Room) s m args below meth c H locs 0 0 Q (F0 m 7 ls []) := by
    intro N7
    induction N7 with
    | zero => intro i sz me he hi hsz hm hm7; exact absurd hm7 (Nat.not_lt_zero _)
    | succ N7 ih7 =>
      intro i sz me he hi hsz hm hm7 hR7 H locs hP hD hS ls hl
      refine lv_iload_n hx hb dFr_findHeads_7 rfl (lv_at hl 0 rfl) ?_
      refine lv_aload_n hx hb dFr_findHeads_8 rfl (lv_at hl 1 rfl) ?_
      refine va_get (D := D) (ci := 5) (v := .ref (oa 1)) (C := RFr) (T := TFr) (N := 6) hx hb hts inFr_ hown hK hP 4 rfl hcl.2.2.2.2.1 0 (by decide) f26 (fun _ h9 => h9) rfl dFr_findHeads_9 ?_
      refine va_get (D := D) (ci := 2) (v := .int (F 1)) (C := RSh) (T := TSh) (N := 4) hx hb hts inSh_ hown hK hP 1 rfl hcl.2.1 3 (by decide) f40 (fun _ h9 => h9) rfl dFr_findHeads_12 ?_
      refine wt_i k1 ?_
      refine lv_icmp_ge (tgt := 85) hx hb dFr_findHeads_15 (by decide) (fun c15 => ?_) (fun c15 => ?_)
      · have n15 : nD ≤ i := (nI_leI (a := nD) (b := i) (by omega) (by omega)).mp c15
        have er7 : lf_Fr_findHeads_7 (G 8) (G 9) (G 10) (G 11) nD (N7 + 1) i sz me he = (i, sz, me, he) := by rw [lf_Fr_findHeads_7, if_pos c15]
        rw [er7] at hR7
        exact ex7 H locs (by rw [hR7]; exact hP) (by rw [hR7]; exact hD) hS ls (by rw [hR7]; exact lv_sub hl [0, 1] rfl)
      · have n15 : ¬ nD ≤ i := fun h9 => c15 ((nI_leI (a := nD) (b := i) (by omega) (by omega)).mpr h9)
        refine lv_aload_n hx hb dFr_findHeads_18 rfl (lv_at hl 1 rfl) ?_
        refine va_get (D := D) (ci := 5) (v := .ref (ca 13)) (C := RFr) (T := TFr) (N := 6) hx hb hts inFr_ hown hK hP 4 rfl hcl.2.2.2.2.1 3 (by decide) f15 (fun _ h9 => h9) rfl dFr_findHeads_19 ?_
        refine lv_iload_n hx hb dFr_findHeads_22 rfl (lv_at hl 0 rfl) ?_
        refine lv_aload_n hx hb dFr_findHeads_23 rfl (lv_at hl 1 rfl) ?_
        refine va_get (D := D) (ci := 5) (v := .ref (oa 3)) (C := RFr) (T := TFr) (N := 6) hx hb hts inFr_ hown hK hP 4 rfl hcl.2.2.2.2.1 1 (by decide) f30 (fun _ h9 => h9) rfl dFr_findHeads_24 ?_
        refine lv_iload_n hx hb dFr_findHeads_27 rfl (lv_at hl 0 rfl) ?_
        refine ro_callV (r := (.int (mr_Bo_allows (G 8) (G 9) (G 10) (G 11) i))) (As := [.int (nI i)]) (rest := [.int (nI i), .ref (ca 13)]) Sx (c_Bo_allows l D cl hcl oa ca ck (upd F 4 (nI sz)) (va_up (va_up G 12 me) 13 he) hP i (by omega)) (cwV 1 hts gFr_findHeads_Bo_allows rfl rfl rfl (by decide +kernel) ⟨Nat.le_of_ble_eq_true rfl, Nat.le_of_ble_eq_true rfl⟩) hK (va_recv hK hP (ci := 4) (q0 := 3) hcl.2.2.2.1 rfl) rfl hl.1 rfl (Nat.le_of_ble_eq_true rfl) dFr_findHeads_28 ⟨Nat.zero_le _, Nat.zero_le _⟩ ?_
        have j43 : ∀ (ls : Array Slot), lv_has ls 2 [(1, .int (nI i)), (0, .ref (oa 4))] → W p l e ({ frames := 2, cells := 0, slots := 0, locals := 49 } : Room) s m args below meth c H locs 0 0 Q (F0 m 43 ls [.int ((if (mr_Bo_allows (G 8) (G 9) (G 10) (G 11) i) = 0 then (-1) else mr_Fr_headFor (G 10) me sz i) : Int32), .int (nI i), .ref (ca 13)]) := by
          intro ls hl
          have sd43 : i < 4096 := by omega
          have eg43 : (va_up (va_up G 12 me) 13 he) 13 = he := by rw [vup_us]
          refine wn_iast (f := he) hx hb hK hP hD hS 21 13 (congrArg (fun z : Nat → Int32 => (some ((ca 13), (.inl ((ck 13), 4096, .inl z) : va_E)) : Option (Nat × va_E))) eg43) rfl i rfl sd43 (by decide) dFr_findHeads_43 (fun H locs hP hD hS => ?_)
          rw [cW_g13, vup_ow] at hP hD
          refine lv_aload_n hx hb dFr_findHeads_44 rfl (lv_at hl 1 rfl) ?_
          refine va_get (D := D) (ci := 5) (v := .ref (ca 13)) (C := RFr) (T := TFr) (N := 6) hx hb hts inFr_ hown hK hP 4 rfl hcl.2.2.2.2.1 3 (by decide) f15 (fun _ h9 => h9) rfl dFr_findHeads_45 ?_
          refine lv_iload_n hx hb dFr_findHeads_48 rfl (lv_at hl 0 rfl) ?_
          have sd49 : i < 4096 := by omega
          have eg49 : (va_up (va_up G 12 me) 13 (upd he i ((if (mr_Bo_allows (G 8) (G 9) (G 10) (G 11) i) = 0 then (-1) else mr_Fr_headFor (G 10) me sz i) : Int32))) 13 = upd he i ((if (mr_Bo_allows (G 8) (G 9) (G 10) (G 11) i) = 0 then (-1) else mr_Fr_headFor (G 10) me sz i) : Int32) := by rw [vup_us]
          refine wn_iald (f := upd he i ((if (mr_Bo_allows (G 8) (G 9) (G 10) (G 11) i) = 0 then (-1) else mr_Fr_headFor (G 10) me sz i) : Int32)) hx hb hK hP 21 13 (congrArg (fun z : Nat → Int32 => (some ((ca 13), (.inl ((ck 13), 4096, .inl z) : va_E)) : Option (Nat × va_E))) eg49) rfl i rfl sd49 (by decide) dFr_findHeads_49 ?_
          refine wt_i (r := ((if (mr_Bo_allows (G 8) (G 9) (G 10) (G 11) i) = 0 then (-1) else mr_Fr_headFor (G 10) me sz i) : Int32)) (by exact pk_us) ?_
          refine lv_iload_n hx hb dFr_findHeads_50 rfl (lv_at hl 0 rfl) ?_
          refine lv_icmp_ne (tgt := 79) hx hb dFr_findHeads_51 (by decide) (fun c51 => ?_) (fun c51 => ?_)
          · refine lv_iinc (v := nI (i + 1)) (lv' := [(1, .int (nI (i + 1))), (0, .ref (oa 4))]) hx hb dFr_findHeads_79 hl (k := 0) rfl (by exact ii_1 i) (by decide) rfl (fun ls hl => ?_)
            refine lv_goto (tgt := 7) hx hb dFr_findHeads_82 (by decide) ?_
            have er7 : lf_Fr_findHeads_7 (G 8) (G 9) (G 10) (G 11) nD (N7 + 1) i sz me he = lf_Fr_findHeads_7 (G 8) (G 9) (G 10) (G 11) nD N7 (i + 1) sz me (upd he i ((if (mr_Bo_allows (G 8) (G 9) (G 10) (G 11) i) = 0 then (-1) else mr_Fr_headFor (G 10) me sz i) : Int32)) := by rw [lf_Fr_findHeads_7, if_neg c15, if_neg c51]
            exact ih7 (i + 1) sz me (upd he i ((if (mr_Bo_allows (G 8) (G 9) (G 10) (G 11) i) = 0 then (-1) else mr_Fr_headFor (G 10) me sz i) : Int32)) (by omega) (by omega) (by first | exact hm | exact me_upd xs.2.2 (by omega)) (by omega) (hR7.trans er7) H locs hP hD hS ls (lv_sub hl [0, 1] rfl)
          · refine lv_aload_n hx hb dFr_findHeads_54 rfl (lv_at hl 1 rfl) ?_
            refine lv_iload_n hx hb dFr_findHeads_55 rfl (lv_at hl 0 rfl) ?_
            refine ww_callV (r := none) (w' := cW oa ca ck (upd (upd F 4 (nI sz)) 4 ((mr_Fr_dropBeatenBy (G 10) me (upd he i ((if (mr_Bo_allows (G 8) (G 9) (G 10) (G 11) i) = 0 then (-1) else mr_Fr_headFor (G 10) me sz i) : Int32)) sz i).1)) (va_up (va_up (va_up (va_up G 12 me) 13 (upd he i ((if (mr_Bo_allows (G 8) (G 9) (G 10) (G 11) i) = 0 then (-1) else mr_Fr_headFor (G 10) me sz i) : Int32))) 12 ((mr_Fr_dropBeatenBy (G 10) me (upd he i ((if (mr_Bo_allows (G 8) (G 9) (G 10) (G 11) i) = 0 then (-1) else mr_Fr_headFor (G 10) me sz i) : Int32)) sz i).2.1)) 13 ((mr_Fr_dropBeatenBy (G 10) me (upd he i ((if (mr_Bo_allows (G 8) (G 9) (G 10) (G 11) i) = 0 then (-1) else mr_Fr_headFor (G 10) me sz i) : Int32)) sz i).2.2))) (As := [.int (nI i)]) (rest := []) Sx (c_Fr_dropBeatenBy l D cl hcl oa ca ck (upd F 4 (nI sz)) (va_up (va_up G 12 me) 13 (upd he i ((if (mr_Bo_allows (G 8) (G 9) (G 10) (G 11) i) = 0 then (-1) else mr_Fr_headFor (G 10) me sz i) : Int32))) hP (hD.weaken (fun _ _ _ _ => trivial)) sz i pk_us (by omega) (by omega) hm) (cwV 1 hts gFr_findHeads_Fr_dropBeatenBy rfl rfl rfl (by decide +kernel) ⟨Nat.le_of_ble_eq_true rfl, Nat.le_of_ble_eq_true rfl⟩) hK (va_recv hK hP (ci := 5) (q0 := 4) hcl.2.2.2.2.1 rfl) rfl hl.1 rfl (Nat.le_of_ble_eq_true rfl) dFr_findHeads_56 ⟨Nat.zero_le _, Nat.zero_le _⟩ hD hS hA (fun H locs hP hD hS => ?_)
            rw [upd_ow, vup_sw (i := 13) (j := 12) (by decide), vup_ow, vup_ow] at hP hD
            have xs : ((mr_Fr_dropBeatenBy (G 10) me (upd he i ((if (mr_Bo_allows (G 8) (G 9) (G 10) (G 11) i) = 0 then (-1) else mr_Fr_headFor (G 10) me sz i) : Int32)) sz i).1) = nI ((mr_Fr_dropBeatenBy (G 10) me (upd he i ((if (mr_Bo_allows (G 8) (G 9) (G 10) (G 11) i) = 0 then (-1) else mr_Fr_headFor (G 10) me sz i) : Int32)) sz i).1).toNatClampNeg ∧ ((mr_Fr_dropBeatenBy (G 10) me (upd he i ((if (mr_Bo_allows (G 8) (G 9) (G 10) (G 11) i) = 0 then (-1) else mr_Fr_headFor (G 10) me sz i) : Int32)) sz i).1).toNatClampNeg ≤ sz ∧ ∀ j, j < ((mr_Fr_dropBeatenBy (G 10) me (upd he i ((if (mr_Bo_allows (G 8) (G 9) (G 10) (G 11) i) = 0 then (-1) else mr_Fr_headFor (G 10) me sz i) : Int32)) sz i).1).toNatClampNeg → ∃ x : Nat, x < 4096 ∧ ((mr_Fr_dropBeatenBy (G 10) me (upd he i ((if (mr_Bo_allows (G 8) (G 9) (G 10) (G 11) i) = 0 then (-1) else mr_Fr_headFor (G 10) me sz i) : Int32)) sz i).2.1) j = nI x := db_ok (by omega) hm
            have xs2 := xs.2.1
            refine lv_aload_n hx hb dFr_findHeads_59 rfl (lv_at hl 1 rfl) ?_
            refine va_get (D := D) (ci := 5) (v := .ref (ca 12)) (C := RFr) (T := TFr) (N := 6) hx hb hts inFr_ hown hK hP 4 rfl hcl.2.2.2.2.1 2 (by decide) f9 (fun _ h9 => h9) rfl dFr_findHeads_60 ?_
            refine lv_aload_n hx hb dFr_findHeads_63 rfl (lv_at hl 1 rfl) ?_
            have ef64 : (upd F 4 ((mr_Fr_dropBeatenBy (G 10) me (upd he i ((if (mr_Bo_allows (G 8) (G 9) (G 10) (G 11) i) = 0 then (-1) else mr_Fr_headFor (G 10) me sz i) : Int32)) sz i).1)) 4 = (mr_Fr_dropBeatenBy (G 10) me (upd he i ((if (mr_Bo_allows (G 8) (G 9) (G 10) (G 11) i) = 0 then (-1) else mr_Fr_headFor (G 10) me sz i) : Int32)) sz i).1 := by rw [pk_us]
            refine va_get (D := D) (ci := 5) (v := .int ((mr_Fr_dropBeatenBy (G 10) me (upd he i ((if (mr_Bo_allows (G 8) (G 9) (G 10) (G 11) i) = 0 then (-1) else mr_Fr_headFor (G 10) me sz i) : Int32)) sz i).1)) (C := RFr) (T := TFr) (N := 6) hx hb hts inFr_ hown hK hP 4 rfl hcl.2.2.2.2.1 4 (by decide) f18 (fun _ h9 => h9) (congrArg (fun z => some (Value.int z)) ef64) dFr_findHeads_64 ?_
            refine wt_i (r := nI (((mr_Fr_dropBeatenBy (G 10) me (upd he i ((if (mr_Bo_allows (G 8) (G 9) (G 10) (G 11) i) = 0 then (-1) else mr_Fr_headFor (G 10) me sz i) : Int32)) sz i).1).toNatClampNeg)) (by exact xs.1) ?_
            refine lv_iload_n hx hb dFr_findHeads_67 rfl (lv_at hl 0 rfl) ?_
            have sd68 : (((mr_Fr_dropBeatenBy (G 10) me (upd he i ((if (mr_Bo_allows (G 8) (G 9) (G 10) (G 11) i) = 0 then (-1) else mr_Fr_headFor (G 10) me sz i) : Int32)) sz i).1).toNatClampNeg) < 4096 := by omega
            have eg68 : (va_up (va_up G 12 ((mr_Fr_dropBeatenBy (G 10) me (upd he i ((if (mr_Bo_allows (G 8) (G 9) (G 10) (G 11) i) = 0 then (-1) else mr_Fr_headFor (G 10) me sz i) : Int32)) sz i).2.1)) 13 ((mr_Fr_dropBeatenBy (G 10) me (upd he i ((if (mr_Bo_allows (G 8) (G 9) (G 10) (G 11) i) = 0 then (-1) else mr_Fr_headFor (G 10) me sz i) : Int32)) sz i).2.2)) 12 = (mr_Fr_dropBeatenBy (G 10) me (upd he i ((if (mr_Bo_allows (G 8) (G 9) (G 10) (G 11) i) = 0 then (-1) else mr_Fr_headFor (G 10) me sz i) : Int32)) sz i).2.1 := by rw [vup_un (k := 13) (j := 12) (by decide), vup_us]
            refine wn_iast (f := (mr_Fr_dropBeatenBy (G 10) me (upd he i ((if (mr_Bo_allows (G 8) (G 9) (G 10) (G 11) i) = 0 then (-1) else mr_Fr_headFor (G 10) me sz i) : Int32)) sz i).2.1) hx hb hK hP hD hS 20 12 (congrArg (fun z : Nat → Int32 => (some ((ca 12), (.inl ((ck 12), 4096, .inl z) : va_E)) : Option (Nat × va_E))) eg68) rfl (((mr_Fr_dropBeatenBy (G 10) me (upd he i ((if (mr_Bo_allows (G 8) (G 9) (G 10) (G 11) i) = 0 then (-1) else mr_Fr_headFor (G 10) me sz i) : Int32)) sz i).1).toNatClampNeg) rfl sd68 (by decide) dFr_findHeads_68 (fun H locs hP hD hS => ?_)
            rw [cW_g12, vup_sw (i := 13) (j := 12) (by decide), vup_ow] at hP hD
            refine lv_aload_n hx hb dFr_findHeads_69 rfl (lv_at hl 1 rfl) ?_
            refine lv_dup hx hb dFr_findHeads_70 rfl ?_
            have ef71 : (upd F 4 ((mr_Fr_dropBeatenBy (G 10) me (upd he i ((if (mr_Bo_allows (G 8) (G 9) (G 10) (G 11) i) = 0 then (-1) else mr_Fr_headFor (G 10) me sz i) : Int32)) sz i).1)) 4 = (mr_Fr_dropBeatenBy (G 10) me (upd he i ((if (mr_Bo_allows (G 8) (G 9) (G 10) (G 11) i) = 0 then (-1) else mr_Fr_headFor (G 10) me sz i) : Int32)) sz i).1 := by rw [pk_us]
            refine va_get (D := D) (ci := 5) (v := .int ((mr_Fr_dropBeatenBy (G 10) me (upd he i ((if (mr_Bo_allows (G 8) (G 9) (G 10) (G 11) i) = 0 then (-1) else mr_Fr_headFor (G 10) me sz i) : Int32)) sz i).1)) (C := RFr) (T := TFr) (N := 6) hx hb hts inFr_ hown hK hP 4 rfl hcl.2.2.2.2.1 4 (by decide) f18 (fun _ h9 => h9) (congrArg (fun z => some (Value.int z)) ef71) dFr_findHeads_71 ?_
            refine wt_i (r := nI (((mr_Fr_dropBeatenBy (G 10) me (upd he i ((if (mr_Bo_allows (G 8) (G 9) (G 10) (G 11) i) = 0 then (-1) else mr_Fr_headFor (G 10) me sz i) : Int32)) sz i).1).toNatClampNeg)) (by exact xs.1) ?_
            refine lv_iconst (v := 1) hx hb dFr_findHeads_74 (by decide) ?_
            refine lv_iadd hx hb dFr_findHeads_75 ?_
            refine wt_i (r := nI ((((mr_Fr_dropBeatenBy (G 10) me (upd he i ((if (mr_Bo_allows (G 8) (G 9) (G 10) (G 11) i) = 0 then (-1) else mr_Fr_headFor (G 10) me sz i) : Int32)) sz i).1).toNatClampNeg) + 1)) (by exact nI_add (((mr_Fr_dropBeatenBy (G 10) me (upd he i ((if (mr_Bo_allows (G 8) (G 9) (G 10) (G 11) i) = 0 then (-1) else mr_Fr_headFor (G 10) me sz i) : Int32)) sz i).1).toNatClampNeg) 1) ?_
            refine va_put (D := D) (ci := 5) (fs := cWl4 oa ca (upd F 4 ((mr_Fr_dropBeatenBy (G 10) me (upd he i ((if (mr_Bo_allows (G 8) (G 9) (G 10) (G 11) i) = 0 then (-1) else mr_Fr_headFor (G 10) me sz i) : Int32)) sz i).1))) (v := .int (nI ((((mr_Fr_dropBeatenBy (G 10) me (upd he i ((if (mr_Bo_allows (G 8) (G 9) (G 10) (G 11) i) = 0 then (-1) else mr_Fr_headFor (G 10) me sz i) : Int32)) sz i).1).toNatClampNeg) + 1))) (ty := .int) (C := RFr) (T := TFr) (N := 6) hx hb hts inFr_ tyFr tyFr_ok nmFr hown hK hP hD hS 4 rfl hcl.2.2.2.2.1 4 (by decide) f18 (fun _ h9 => h9) rfl (by decide +kernel) rfl rfl (Nat.le_of_ble_eq_true rfl) dFr_findHeads_76 (fun H locs hP hD hS => ?_)
            rw [cW_f4, upd_ow] at hP hD
            refine lv_iinc (v := nI (i + 1)) (lv' := [(1, .int (nI (i + 1))), (0, .ref (oa 4))]) hx hb dFr_findHeads_79 hl (k := 0) rfl (by exact ii_1 i) (by decide) rfl (fun ls hl => ?_)
            refine lv_goto (tgt := 7) hx hb dFr_findHeads_82 (by decide) ?_
            have er7 : lf_Fr_findHeads_7 (G 8) (G 9) (G 10) (G 11) nD (N7 + 1) i sz me he = lf_Fr_findHeads_7 (G 8) (G 9) (G 10) (G 11) nD N7 (i + 1) ((((mr_Fr_dropBeatenBy (G 10) me (upd he i ((if (mr_Bo_allows (G 8) (G 9) (G 10) (G 11) i) = 0 then (-1) else mr_Fr_headFor (G 10) me sz i) : Int32)) sz i).1).toNatClampNeg) + 1) (upd ((mr_Fr_dropBeatenBy (G 10) me (upd he i ((if (mr_Bo_allows (G 8) (G 9) (G 10) (G 11) i) = 0 then (-1) else mr_Fr_headFor (G 10) me sz i) : Int32)) sz i).2.1) (((mr_Fr_dropBeatenBy (G 10) me (upd he i ((if (mr_Bo_allows (G 8) (G 9) (G 10) (G 11) i) = 0 then (-1) else mr_Fr_headFor (G 10) me sz i) : Int32)) sz i).1).toNatClampNeg) (nI i)) ((mr_Fr_dropBeatenBy (G 10) me (upd he i ((if (mr_Bo_allows (G 8) (G 9) (G 10) (G 11) i) = 0 then (-1) else mr_Fr_headFor (G 10) me sz i) : Int32)) sz i).2.2) := by rw [lf_Fr_findHeads_7, if_neg c15, if_pos c51]
            exact ih7 (i + 1) ((((mr_Fr_dropBeatenBy (G 10) me (upd he i ((if (mr_Bo_allows (G 8) (G 9) (G 10) (G 11) i) = 0 then (-1) else mr_Fr_headFor (G 10) me sz i) : Int32)) sz i).1).toNatClampNeg) + 1) (upd ((mr_Fr_dropBeatenBy (G 10) me (upd he i ((if (mr_Bo_allows (G 8) (G 9) (G 10) (G 11) i) = 0 then (-1) else mr_Fr_headFor (G 10) me sz i) : Int32)) sz i).2.1) (((mr_Fr_dropBeatenBy (G 10) me (upd he i ((if (mr_Bo_allows (G 8) (G 9) (G 10) (G 11) i) = 0 then (-1) else mr_Fr_headFor (G 10) me sz i) : Int32)) sz i).1).toNatClampNeg) (nI i)) ((mr_Fr_dropBeatenBy (G 10) me (upd he i ((if (mr_Bo_allows (G 8) (G 9) (G 10) (G 11) i) = 0 then (-1) else mr_Fr_headFor (G 10) me sz i) : Int32)) sz i).2.2) (by omega) (by omega) (by first | exact hm | exact me_upd xs.2.2 (by omega)) (by omega) (hR7.trans er7) H locs hP hD hS ls (lv_sub hl [0, 1] rfl)
        refine lv_if_eq (tgt := 42) hx hb dFr_findHeads_31 (by decide) (fun c31 => ?_) (fun c31 => ?_)
        · refine lv_iconst (v := (-1)) hx hb dFr_findHeads_42 (by decide) ?_
          exact wt_i (by rw [if_pos c31]) (j43 ls hl)
        · refine lv_aload_n hx hb dFr_findHeads_34 rfl (lv_at hl 1 rfl) ?_
          refine lv_iload_n hx hb dFr_findHeads_35 rfl (lv_at hl 0 rfl) ?_
          refine ro_callV (r := (.int (mr_Fr_headFor (G 10) me sz i))) (As := [.int (nI i)]) (rest := [.int (nI i), .ref (ca 13)]) Sx (c_Fr_headFor l D cl hcl oa ca ck (upd F 4 (nI sz)) (va_up (va_up G 12 me) 13 he) hP sz i pk_us (by omega) (by omega) hm) (cwV 1 hts gFr_findHeads_Fr_headFor rfl rfl rfl (by decide +kernel) ⟨Nat.le_of_ble_eq_true rfl, Nat.le_of_ble_eq_true rfl⟩) hK (va_recv hK hP (ci := 5) (q0 := 4) hcl.2.2.2.2.1 rfl) rfl hl.1 rfl (Nat.le_of_ble_eq_true rfl) dFr_findHeads_36 ⟨Nat.zero_le _, Nat.zero_le _⟩ ?_
          refine lv_goto (tgt := 43) hx hb dFr_findHeads_39 (by decide) ?_
          exact wt_i (by rw [if_neg c31]) (j43 ls hl)
  exact loop7 (nD + 1) 0 0 (G 12) (G 13) (by omega) (by omega) (by exact fun j hj => absurd hj (Nat.not_lt_zero _)) (by omega) rfl H locs hP hD hS ls (lv_sub hl [0, 1] rfl)
def lf_Fr_collectMembers_7 (g13 : Nat → Int32) (nD : Nat) : Nat → Nat → Nat → (Nat → Int32) → Nat × Nat × (Nat → Int32)
  | 0, i, sz, me => (i, sz, me)
  | N + 1, i, sz, me => (if (nI nD) ≤ (nI i) then (i, sz, me) else (if (g13 i) = (-1) then lf_Fr_collectMembers_7 g13 nD N (i + 1) sz me else (if (g13 ((g13 i).toNatClampNeg)) = (-1) then lf_Fr_collectMembers_7 g13 nD N (i + 1) sz me else lf_Fr_collectMembers_7 g13 nD N (i + 1) (sz + 1) (upd me sz (nI i)))))
def mr_Fr_collectMembers (g12 : Nat → Int32) (g13 : Nat → Int32) (nD : Nat) : Int32 × (Nat → Int32) := (nI ((lf_Fr_collectMembers_7 g13 nD (nD + 1) 0 0 g12).2.1), (lf_Fr_collectMembers_7 g13 nD (nD + 1) 0 0 g12).2.2)
theorem fh_lf {g8 g9 g10 g11 : Nat → Int32} {nD : Nat} (hN : nD ≤ 4096) : ∀ (N i sz : Nat) (me he : Nat → Int32), nD - i < N → i ≤ nD → sz ≤ i → (∀ j, j < sz → ∃ x : Nat, x < 4096 ∧ me j = nI x) → (∀ j, j < i → he j = -1 ∨ ∃ x : Nat, x < 4096 ∧ he j = nI x) → ∀ j, j < nD → (lf_Fr_findHeads_7 g8 g9 g10 g11 nD N i sz me he).2.2.2 j = -1 ∨ ∃ x : Nat, x < 4096 ∧ (lf_Fr_findHeads_7 g8 g9 g10 g11 nD N i sz me he).2.2.2 j = nI x := by
  intro N
  induction N with
  | zero => intro i sz me he h; exact absurd h (Nat.not_lt_zero _)
  | succ N ih =>
    intro i sz me he h hi hs hm hh
    rw [lf_Fr_findHeads_7]
    by_cases c1 : nI nD ≤ nI i
    · rw [if_pos c1]
      have n1 : nD ≤ i := (nI_leI (by omega) (by omega)).mp c1
      exact fun j hj => hh j (by omega)
    · rw [if_neg c1]
      have n1 : i < nD := nI_nle2 c1 (by omega)
      have hV : ((if (mr_Bo_allows g8 g9 g10 g11 i) = 0 then (-1) else mr_Fr_headFor g10 me sz i) : Int32) = -1 ∨ ∃ x : Nat, x < 4096 ∧ ((if (mr_Bo_allows g8 g9 g10 g11 i) = 0 then (-1) else mr_Fr_headFor g10 me sz i) : Int32) = nI x := by
        by_cases c : mr_Bo_allows g8 g9 g10 g11 i = 0
        · rw [if_pos c]; exact Or.inl rfl
        · rw [if_neg c]; exact hf_lf (by omega) (by omega) hm _ _ (Nat.zero_le _)
      generalize ((if (mr_Bo_allows g8 g9 g10 g11 i) = 0 then (-1) else mr_Fr_headFor g10 me sz i) : Int32) = V at hV ⊢
      have hh2 : ∀ j, j < i + 1 → upd he i V j = -1 ∨ ∃ x : Nat, x < 4096 ∧ upd he i V j = nI x := by
        intro j hj
        by_cases e : j = i
        · rw [e, pk_us]; exact hV
        · rw [pk_un e]; exact hh j (by omega)
      by_cases c2 : V = nI i
      · rw [if_pos c2]
        obtain ⟨x1, x2, x3⟩ := db_ok (g10 := g10) (g12 := me) (g13 := upd he i V) (sz := sz) (d := i) (by omega) hm
        exact ih _ _ _ _ (by omega) (by omega) (by omega) (me_upd x3 (by omega)) (db_he _ _ _ _ _ hh2)
      · rw [if_neg c2]
        exact ih _ _ _ _ (by omega) (by omega) (by omega) hm hh2
theorem fh_ok {g8 g9 g10 g11 g12 g13 : Nat → Int32} {nD : Nat} (hN : nD ≤ 4096) : ∀ j, j < nD → (mr_Fr_findHeads g8 g9 g10 g11 g12 g13 nD).2.2 j = -1 ∨ ∃ x : Nat, x < 4096 ∧ (mr_Fr_findHeads g8 g9 g10 g11 g12 g13 nD).2.2 j = nI x :=
  fh_lf hN (nD + 1) 0 0 g12 g13 (by omega) (Nat.zero_le _) (Nat.le_refl _) (fun j hj => absurd hj (Nat.not_lt_zero _)) (fun j hj => absurd hj (Nat.not_lt_zero _))
set_option maxHeartbeats 4000000 in
set_option maxRecDepth 100000 in
theorem c_Fr_collectMembers (l : Launch) (D : va_G) (cl : List vw_C) (hcl : cOK cl) (oa ca : Nat → Nat) (ck : Nat → ClassId) (F : Nat → Int32) (G : Nat → Nat → Int32) {H0 : Heap} (hP : va_P D cl (cW oa ca ck F G) H0) (hD : va_D (fun _ => True) (cW oa ca ck F G)) (nD : Nat) (k1 : F 1 = nI nD) (hN : nD ≤ 4096) (hH : ∀ j, j < nD → G 13 j = -1 ∨ ∃ x : Nat, x < 4096 ∧ G 13 j = nI x) : ww_Met l yFr_collectMembers wsFr_collectMembers ({ frames := 0, cells := 0, slots := 0, locals := 0 } : Room) D cl (cT ck) H0 [.ref (oa 4)] (cW oa ca ck F G) none (cW oa ca ck (upd F 4 ((mr_Fr_collectMembers (G 12) (G 13) nD).1)) (va_up G 12 ((mr_Fr_collectMembers (G 12) (G 13) nD).2))) := by
  refine ww_metV (by decide) rfl (Nat.le_of_ble_eq_true rfl) hP hD ?_
  intro p e s m args below meth c Q A Sx hK hP hD hS hA ls hl hret
  obtain ⟨hx, hb, hml, hown, hts⟩ := id Sx
  have hl : lv_has ls 3 [(0, .ref (oa 4))] := hl
  obtain ⟨H, eH⟩ : ∃ H : Heap, H = H0 := ⟨_, rfl⟩
  obtain ⟨locs, eL⟩ : ∃ L : List Loc, L = [] := ⟨_, rfl⟩
  have hP : va_P D cl (cW oa ca ck F G) H := by rw [eH]; exact hP
  have hS : va_S A H0 H locs := by rw [eH, eL]; exact hS
  rw [show W p l e ({ frames := 0, cells := 0, slots := 0, locals := 0 } : Room) s m args below meth c H0 [] 0 0 Q (F0 m 0 ls []) = W p l e ({ frames := 0, cells := 0, slots := 0, locals := 0 } : Room) s m args below meth c H locs 0 0 Q (F0 m 0 ls []) by rw [eH, eL]]
  clear eH eL
  have f18 := hts _ (List.mem_cons_of_mem _ mfFr_18)
  have inFr_ : ∀ w ∈ wsFr0, w ∈ wsFr_collectMembers := fun w h => List.mem_cons_of_mem _ (inFr_all w h)
  have f26 := hts _ (List.mem_cons_of_mem _ mfFr_26)
  have f40 := hts _ (List.mem_cons_of_mem _ mfFr_40)
  have inSh_ : ∀ w ∈ wsSh0, w ∈ wsFr_collectMembers := fun w h => List.mem_cons_of_mem _ (inSh_all w h)
  have f15 := hts _ (List.mem_cons_of_mem _ mfFr_15)
  have f9 := hts _ (List.mem_cons_of_mem _ mfFr_9)
  refine lv_aload_n hx hb dFr_collectMembers_0 rfl (lv_at hl 0 rfl) ?_
  refine lv_iconst (v := 0) hx hb dFr_collectMembers_1 (by decide) ?_
  refine va_put (D := D) (ci := 5) (fs := cWl4 oa ca F) (v := .int 0) (ty := .int) (C := RFr) (T := TFr) (N := 6) hx hb hts inFr_ tyFr tyFr_ok nmFr hown hK hP hD hS 4 rfl hcl.2.2.2.2.1 4 (by decide) f18 (fun _ h9 => h9) rfl (by decide +kernel) rfl rfl (Nat.le_of_ble_eq_true rfl) dFr_collectMembers_2 (fun H locs hP hD hS => ?_)
  rw [cW_f4] at hP hD
  refine lv_iconst (v := 0) hx hb dFr_collectMembers_5 (by decide) ?_
  refine lv_istore_n (lv' := [(1, .int 0), (0, .ref (oa 4))]) hx hb dFr_collectMembers_6 rfl hl (by decide) rfl (fun ls hl => ?_)
  have ex7 : ∀ (H : Heap) (locs : List Loc), va_P D cl (cW oa ca ck (upd F 4 (nI ((lf_Fr_collectMembers_7 (G 13) nD (nD + 1) 0 0 (G 12)).2.1))) (va_up G 12 ((lf_Fr_collectMembers_7 (G 13) nD (nD + 1) 0 0 (G 12)).2.2))) H → va_D A (cW oa ca ck (upd F 4 (nI ((lf_Fr_collectMembers_7 (G 13) nD (nD + 1) 0 0 (G 12)).2.1))) (va_up G 12 ((lf_Fr_collectMembers_7 (G 13) nD (nD + 1) 0 0 (G 12)).2.2))) → va_S A H0 H locs → ∀ (ls : Array Slot), lv_has ls 3 [(1, .int (nI ((lf_Fr_collectMembers_7 (G 13) nD (nD + 1) 0 0 (G 12)).1))), (0, .ref (oa 4))] → W p l e ({ frames := 0, cells := 0, slots := 0, locals := 0 } : Room) s m args below meth c H locs 0 0 Q (F0 m 66 ls []) := by
    intro H locs hP hD hS ls hl
    have em : mr_Fr_collectMembers (G 12) (G 13) nD = (nI ((lf_Fr_collectMembers_7 (G 13) nD (nD + 1) 0 0 (G 12)).2.1), (lf_Fr_collectMembers_7 (G 13) nD (nD + 1) 0 0 (G 12)).2.2) := by rw [mr_Fr_collectMembers]
    exact hret _ _ _ _ _ (by simp only [em]) hP hD hS dFr_collectMembers_66
  have loop7 : ∀ (N7 : Nat) (i : Nat) (sz : Nat) (me : Nat → Int32), i ≤ nD → sz ≤ i → nD - i < N7 → lf_Fr_collectMembers_7 (G 13) nD (nD + 1) 0 0 (G 12) = lf_Fr_collectMembers_7 (G 13) nD N7 i sz me → ∀ (H : Heap) (locs : List Loc), va_P D cl (cW oa ca ck (upd F 4 (nI sz)) (va_up G 12 me)) H → va_D A (cW oa ca ck (upd F 4 (nI sz)) (va_up G 12 me)) → va_S A H0 H locs → ∀ (ls : Array Slot), lv_has ls 3 [(1, .int (nI i)), (0, .ref (oa 4))] → W p l e ({ frames := 0, cells := 0, slots := 0, locals := 0 } : Room) s m args below meth c H locs 0 0 Q (F0 m 7 ls []) := by
    intro N7
    induction N7 with
    | zero => intro i sz me hi hsz hm7; exact absurd hm7 (Nat.not_lt_zero _)
    | succ N7 ih7 =>
      intro i sz me hi hsz hm7 hR7 H locs hP hD hS ls hl
      refine lv_iload_n hx hb dFr_collectMembers_7 rfl (lv_at hl 0 rfl) ?_
      refine lv_aload_n hx hb dFr_collectMembers_8 rfl (lv_at hl 1 rfl) ?_
      refine va_get (D := D) (ci := 5) (v := .ref (oa 1)) (C := RFr) (T := TFr) (N := 6) hx hb hts inFr_ hown hK hP 4 rfl hcl.2.2.2.2.1 0 (by decide) f26 (fun _ h9 => h9) rfl dFr_collectMembers_9 ?_
      refine va_get (D := D) (ci := 2) (v := .int (F 1)) (C := RSh) (T := TSh) (N := 4) hx hb hts inSh_ hown hK hP 1 rfl hcl.2.1 3 (by decide) f40 (fun _ h9 => h9) rfl dFr_collectMembers_12 ?_
      refine wt_i k1 ?_
      refine lv_icmp_ge (tgt := 66) hx hb dFr_collectMembers_15 (by decide) (fun c15 => ?_) (fun c15 => ?_)
      · have n15 : nD ≤ i := (nI_leI (a := nD) (b := i) (by omega) (by omega)).mp c15
        have er7 : lf_Fr_collectMembers_7 (G 13) nD (N7 + 1) i sz me = (i, sz, me) := by rw [lf_Fr_collectMembers_7, if_pos c15]
        rw [er7] at hR7
        exact ex7 H locs (by rw [hR7]; exact hP) (by rw [hR7]; exact hD) hS ls (by rw [hR7]; exact lv_sub hl [0, 1] rfl)
      · have n15 : ¬ nD ≤ i := fun h9 => c15 ((nI_leI (a := nD) (b := i) (by omega) (by omega)).mpr h9)
        refine lv_aload_n hx hb dFr_collectMembers_18 rfl (lv_at hl 1 rfl) ?_
        refine va_get (D := D) (ci := 5) (v := .ref (ca 13)) (C := RFr) (T := TFr) (N := 6) hx hb hts inFr_ hown hK hP 4 rfl hcl.2.2.2.2.1 3 (by decide) f15 (fun _ h9 => h9) rfl dFr_collectMembers_19 ?_
        refine lv_iload_n hx hb dFr_collectMembers_22 rfl (lv_at hl 0 rfl) ?_
        have sd23 : i < 4096 := by omega
        refine wn_iald (f := G 13) hx hb hK hP 21 13 rfl rfl i rfl sd23 (by decide) dFr_collectMembers_23 ?_
        refine lv_istore_n (lv' := [(2, .int (G 13 i)), (1, .int (nI i)), (0, .ref (oa 4))]) hx hb dFr_collectMembers_24 rfl hl (by decide) rfl (fun ls hl => ?_)
        refine lv_iload_n hx hb dFr_collectMembers_25 rfl (lv_at hl 0 rfl) ?_
        refine lv_iconst (v := (-1)) hx hb dFr_collectMembers_26 (by decide) ?_
        refine lv_icmp_eq (tgt := 60) hx hb dFr_collectMembers_27 (by decide) (fun c27 => ?_) (fun c27 => ?_)
        · refine lv_iinc (v := nI (i + 1)) (lv' := [(1, .int (nI (i + 1))), (2, .int (G 13 i)), (0, .ref (oa 4))]) hx hb dFr_collectMembers_60 hl (k := 1) rfl (by exact ii_1 i) (by decide) rfl (fun ls hl => ?_)
          refine lv_goto (tgt := 7) hx hb dFr_collectMembers_63 (by decide) ?_
          have er7 : lf_Fr_collectMembers_7 (G 13) nD (N7 + 1) i sz me = lf_Fr_collectMembers_7 (G 13) nD N7 (i + 1) sz me := by rw [lf_Fr_collectMembers_7, if_neg c15, if_pos c27]
          exact ih7 (i + 1) sz me (by omega) (by omega) (by omega) (hR7.trans er7) H locs hP hD hS ls (lv_sub hl [0, 2] rfl)
        · have xh := ix_cl (ix_ne (hH i (by omega)) c27) (by omega)
          have xh2 := xh.2
          refine lv_aload_n hx hb dFr_collectMembers_30 rfl (lv_at hl 2 rfl) ?_
          refine va_get (D := D) (ci := 5) (v := .ref (ca 13)) (C := RFr) (T := TFr) (N := 6) hx hb hts inFr_ hown hK hP 4 rfl hcl.2.2.2.2.1 3 (by decide) f15 (fun _ h9 => h9) rfl dFr_collectMembers_31 ?_
          refine lv_iload_n hx hb dFr_collectMembers_34 rfl (lv_at hl 0 rfl) ?_
          have sd35 : (G 13 i).toNatClampNeg < 4096 := by omega
          refine wn_iald (f := G 13) hx hb hK hP 21 13 rfl rfl ((G 13 i).toNatClampNeg) xh.1 sd35 (by decide) dFr_collectMembers_35 ?_
          refine lv_iconst (v := (-1)) hx hb dFr_collectMembers_36 (by decide) ?_
          refine lv_icmp_eq (tgt := 60) hx hb dFr_collectMembers_37 (by decide) (fun c37 => ?_) (fun c37 => ?_)
          · refine lv_iinc (v := nI (i + 1)) (lv' := [(1, .int (nI (i + 1))), (2, .int (G 13 i)), (0, .ref (oa 4))]) hx hb dFr_collectMembers_60 hl (k := 1) rfl (by exact ii_1 i) (by decide) rfl (fun ls hl => ?_)
            refine lv_goto (tgt := 7) hx hb dFr_collectMembers_63 (by decide) ?_
            have er7 : lf_Fr_collectMembers_7 (G 13) nD (N7 + 1) i sz me = lf_Fr_collectMembers_7 (G 13) nD N7 (i + 1) sz me := by rw [lf_Fr_collectMembers_7, if_neg c15, if_neg c27, if_pos c37]
            exact ih7 (i + 1) sz me (by omega) (by omega) (by omega) (hR7.trans er7) H locs hP hD hS ls (lv_sub hl [0, 2] rfl)
          · refine lv_aload_n hx hb dFr_collectMembers_40 rfl (lv_at hl 2 rfl) ?_
            refine va_get (D := D) (ci := 5) (v := .ref (ca 12)) (C := RFr) (T := TFr) (N := 6) hx hb hts inFr_ hown hK hP 4 rfl hcl.2.2.2.2.1 2 (by decide) f9 (fun _ h9 => h9) rfl dFr_collectMembers_41 ?_
            refine lv_aload_n hx hb dFr_collectMembers_44 rfl (lv_at hl 2 rfl) ?_
            have ef45 : (upd F 4 (nI sz)) 4 = nI sz := by rw [pk_us]
            refine va_get (D := D) (ci := 5) (v := .int (nI sz)) (C := RFr) (T := TFr) (N := 6) hx hb hts inFr_ hown hK hP 4 rfl hcl.2.2.2.2.1 4 (by decide) f18 (fun _ h9 => h9) (congrArg (fun z => some (Value.int z)) ef45) dFr_collectMembers_45 ?_
            refine lv_iload_n hx hb dFr_collectMembers_48 rfl (lv_at hl 1 rfl) ?_
            have sd49 : sz < 4096 := by omega
            have eg49 : (va_up G 12 me) 12 = me := by rw [vup_us]
            refine wn_iast (f := me) hx hb hK hP hD hS 20 12 (congrArg (fun z : Nat → Int32 => (some ((ca 12), (.inl ((ck 12), 4096, .inl z) : va_E)) : Option (Nat × va_E))) eg49) rfl sz rfl sd49 (by decide) dFr_collectMembers_49 (fun H locs hP hD hS => ?_)
            rw [cW_g12, vup_ow] at hP hD
            refine lv_aload_n hx hb dFr_collectMembers_50 rfl (lv_at hl 2 rfl) ?_
            refine lv_dup hx hb dFr_collectMembers_51 rfl ?_
            have ef52 : (upd F 4 (nI sz)) 4 = nI sz := by rw [pk_us]
            refine va_get (D := D) (ci := 5) (v := .int (nI sz)) (C := RFr) (T := TFr) (N := 6) hx hb hts inFr_ hown hK hP 4 rfl hcl.2.2.2.2.1 4 (by decide) f18 (fun _ h9 => h9) (congrArg (fun z => some (Value.int z)) ef52) dFr_collectMembers_52 ?_
            refine lv_iconst (v := 1) hx hb dFr_collectMembers_55 (by decide) ?_
            refine lv_iadd hx hb dFr_collectMembers_56 ?_
            refine wt_i (r := nI (sz + 1)) (by exact nI_add sz 1) ?_
            refine va_put (D := D) (ci := 5) (fs := cWl4 oa ca (upd F 4 (nI sz))) (v := .int (nI (sz + 1))) (ty := .int) (C := RFr) (T := TFr) (N := 6) hx hb hts inFr_ tyFr tyFr_ok nmFr hown hK hP hD hS 4 rfl hcl.2.2.2.2.1 4 (by decide) f18 (fun _ h9 => h9) rfl (by decide +kernel) rfl rfl (Nat.le_of_ble_eq_true rfl) dFr_collectMembers_57 (fun H locs hP hD hS => ?_)
            rw [cW_f4, upd_ow] at hP hD
            refine lv_iinc (v := nI (i + 1)) (lv' := [(1, .int (nI (i + 1))), (2, .int (G 13 i)), (0, .ref (oa 4))]) hx hb dFr_collectMembers_60 hl (k := 1) rfl (by exact ii_1 i) (by decide) rfl (fun ls hl => ?_)
            refine lv_goto (tgt := 7) hx hb dFr_collectMembers_63 (by decide) ?_
            have er7 : lf_Fr_collectMembers_7 (G 13) nD (N7 + 1) i sz me = lf_Fr_collectMembers_7 (G 13) nD N7 (i + 1) (sz + 1) (upd me sz (nI i)) := by rw [lf_Fr_collectMembers_7, if_neg c15, if_neg c27, if_neg c37]
            exact ih7 (i + 1) (sz + 1) (upd me sz (nI i)) (by omega) (by omega) (by omega) (hR7.trans er7) H locs hP hD hS ls (lv_sub hl [0, 2] rfl)
  exact loop7 (nD + 1) 0 0 (G 12) (by omega) (by omega) (by omega) rfl H locs hP hD hS ls (lv_sub hl [0, 1] rfl)
def mr_Fr_refresh (f4 : Int32) (f5 : Int32) (g8 : Nat → Int32) (g9 : Nat → Int32) (g10 : Nat → Int32) (g11 : Nat → Int32) (g12 : Nat → Int32) (g13 : Nat → Int32) (nD : Nat) : Int32 × Int32 × (Nat → Int32) × (Nat → Int32) := (if f5 = 0 then ((mr_Fr_collectMembers ((mr_Fr_findHeads g8 g9 g10 g11 g12 g13 nD).2.1) ((mr_Fr_findHeads g8 g9 g10 g11 g12 g13 nD).2.2) nD).1, 1, (mr_Fr_collectMembers ((mr_Fr_findHeads g8 g9 g10 g11 g12 g13 nD).2.1) ((mr_Fr_findHeads g8 g9 g10 g11 g12 g13 nD).2.2) nD).2, (mr_Fr_findHeads g8 g9 g10 g11 g12 g13 nD).2.2) else (f4, f5, g12, g13))
set_option maxHeartbeats 4000000 in
set_option maxRecDepth 100000 in
theorem c_Fr_refresh (l : Launch) (D : va_G) (cl : List vw_C) (hcl : cOK cl) (oa ca : Nat → Nat) (ck : Nat → ClassId) (F : Nat → Int32) (G : Nat → Nat → Int32) {H0 : Heap} (hP : va_P D cl (cW oa ca ck F G) H0) (hD : va_D (fun _ => True) (cW oa ca ck F G)) (nD : Nat) (k1 : F 1 = nI nD) (hN : nD ≤ 4096) : ww_Met l yFr_refresh wsFr_refresh ({ frames := 3, cells := 0, slots := 0, locals := 70 } : Room) D cl (cT ck) H0 [.ref (oa 4)] (cW oa ca ck F G) none (cW oa ca ck (upd (upd F 4 ((mr_Fr_refresh (F 4) (F 5) (G 8) (G 9) (G 10) (G 11) (G 12) (G 13) nD).1)) 5 ((mr_Fr_refresh (F 4) (F 5) (G 8) (G 9) (G 10) (G 11) (G 12) (G 13) nD).2.1)) (va_up (va_up G 12 ((mr_Fr_refresh (F 4) (F 5) (G 8) (G 9) (G 10) (G 11) (G 12) (G 13) nD).2.2.1)) 13 ((mr_Fr_refresh (F 4) (F 5) (G 8) (G 9) (G 10) (G 11) (G 12) (G 13) nD).2.2.2))) := by
  refine ww_metV (by decide) rfl (Nat.le_of_ble_eq_true rfl) hP hD ?_
  intro p e s m args below meth c Q A Sx hK hP hD hS hA ls hl hret
  obtain ⟨hx, hb, hml, hown, hts⟩ := id Sx
  have hl : lv_has ls 1 [(0, .ref (oa 4))] := hl
  obtain ⟨H, eH⟩ : ∃ H : Heap, H = H0 := ⟨_, rfl⟩
  obtain ⟨locs, eL⟩ : ∃ L : List Loc, L = [] := ⟨_, rfl⟩
  have hP : va_P D cl (cW oa ca ck F G) H := by rw [eH]; exact hP
  have hS : va_S A H0 H locs := by rw [eH, eL]; exact hS
  rw [show W p l e ({ frames := 3, cells := 0, slots := 0, locals := 70 } : Room) s m args below meth c H0 [] 0 0 Q (F0 m 0 ls []) = W p l e ({ frames := 3, cells := 0, slots := 0, locals := 70 } : Room) s m args below meth c H locs 0 0 Q (F0 m 0 ls []) by rw [eH, eL]]
  clear eH eL
  have f22 := hts _ (List.mem_cons_of_mem _ mfFr_22)
  have inFr_ : ∀ w ∈ wsFr0, w ∈ wsFr_refresh := fun w h => List.mem_cons_of_mem _ (inFr_all w h)
  refine lv_aload_n hx hb dFr_refresh_0 rfl (lv_at hl 0 rfl) ?_
  refine va_get (D := D) (ci := 5) (v := .int (F 5)) (C := RFr) (T := TFr) (N := 6) hx hb hts inFr_ hown hK hP 4 rfl hcl.2.2.2.2.1 5 (by decide) f22 (fun _ h9 => h9) rfl dFr_refresh_1 ?_
  refine lv_if_eq (tgt := 8) hx hb dFr_refresh_4 (by decide) (fun c4 => ?_) (fun c4 => ?_)
  · refine lv_aload_n hx hb dFr_refresh_8 rfl (lv_at hl 0 rfl) ?_
    refine ww_callV (r := none) (w' := cW oa ca ck (upd F 4 ((mr_Fr_findHeads (G 8) (G 9) (G 10) (G 11) (G 12) (G 13) nD).1)) (va_up (va_up G 12 ((mr_Fr_findHeads (G 8) (G 9) (G 10) (G 11) (G 12) (G 13) nD).2.1)) 13 ((mr_Fr_findHeads (G 8) (G 9) (G 10) (G 11) (G 12) (G 13) nD).2.2))) (As := []) (rest := []) Sx (c_Fr_findHeads l D cl hcl oa ca ck F G hP (hD.weaken (fun _ _ _ _ => trivial)) nD k1 hN) (cwV 0 hts gFr_refresh_Fr_findHeads rfl rfl rfl (by decide +kernel) ⟨Nat.le_of_ble_eq_true rfl, Nat.le_of_ble_eq_true rfl⟩) hK (va_recv hK hP (ci := 5) (q0 := 4) hcl.2.2.2.2.1 rfl) rfl hl.1 rfl (Nat.le_of_ble_eq_true rfl) dFr_refresh_9 ⟨Nat.zero_le _, Nat.zero_le _⟩ hD hS hA (fun H locs hP hD hS => ?_)
    refine lv_aload_n hx hb dFr_refresh_12 rfl (lv_at hl 0 rfl) ?_
    refine ww_callV (r := none) (w' := cW oa ca ck (upd (upd F 4 ((mr_Fr_findHeads (G 8) (G 9) (G 10) (G 11) (G 12) (G 13) nD).1)) 4 ((mr_Fr_collectMembers ((mr_Fr_findHeads (G 8) (G 9) (G 10) (G 11) (G 12) (G 13) nD).2.1) ((mr_Fr_findHeads (G 8) (G 9) (G 10) (G 11) (G 12) (G 13) nD).2.2) nD).1)) (va_up (va_up (va_up G 12 ((mr_Fr_findHeads (G 8) (G 9) (G 10) (G 11) (G 12) (G 13) nD).2.1)) 13 ((mr_Fr_findHeads (G 8) (G 9) (G 10) (G 11) (G 12) (G 13) nD).2.2)) 12 ((mr_Fr_collectMembers ((mr_Fr_findHeads (G 8) (G 9) (G 10) (G 11) (G 12) (G 13) nD).2.1) ((mr_Fr_findHeads (G 8) (G 9) (G 10) (G 11) (G 12) (G 13) nD).2.2) nD).2))) (As := []) (rest := []) Sx (c_Fr_collectMembers l D cl hcl oa ca ck (upd F 4 ((mr_Fr_findHeads (G 8) (G 9) (G 10) (G 11) (G 12) (G 13) nD).1)) (va_up (va_up G 12 ((mr_Fr_findHeads (G 8) (G 9) (G 10) (G 11) (G 12) (G 13) nD).2.1)) 13 ((mr_Fr_findHeads (G 8) (G 9) (G 10) (G 11) (G 12) (G 13) nD).2.2)) hP (hD.weaken (fun _ _ _ _ => trivial)) nD k1 hN (fh_ok hN)) (cwV 0 hts gFr_refresh_Fr_collectMembers rfl rfl rfl (by decide +kernel) ⟨Nat.le_of_ble_eq_true rfl, Nat.le_of_ble_eq_true rfl⟩) hK (va_recv hK hP (ci := 5) (q0 := 4) hcl.2.2.2.2.1 rfl) rfl hl.1 rfl (Nat.le_of_ble_eq_true rfl) dFr_refresh_13 ⟨Nat.zero_le _, Nat.zero_le _⟩ hD hS hA (fun H locs hP hD hS => ?_)
    rw [upd_ow, vup_sw (i := 13) (j := 12) (by decide), vup_ow] at hP hD
    refine lv_aload_n hx hb dFr_refresh_16 rfl (lv_at hl 0 rfl) ?_
    refine lv_iconst (v := 1) hx hb dFr_refresh_17 (by decide) ?_
    refine va_put (D := D) (ci := 5) (fs := cWl4 oa ca (upd F 4 ((mr_Fr_collectMembers ((mr_Fr_findHeads (G 8) (G 9) (G 10) (G 11) (G 12) (G 13) nD).2.1) ((mr_Fr_findHeads (G 8) (G 9) (G 10) (G 11) (G 12) (G 13) nD).2.2) nD).1))) (v := .int 1) (ty := .boolean) (C := RFr) (T := TFr) (N := 6) hx hb hts inFr_ tyFr tyFr_ok nmFr hown hK hP hD hS 4 rfl hcl.2.2.2.2.1 5 (by decide) f22 (fun _ h9 => h9) rfl (by decide +kernel) (by first | rfl | assumption) rfl (Nat.le_of_ble_eq_true rfl) dFr_refresh_18 (fun H locs hP hD hS => ?_)
    rw [cW_f5] at hP hD
    have em : mr_Fr_refresh (F 4) (F 5) (G 8) (G 9) (G 10) (G 11) (G 12) (G 13) nD = ((mr_Fr_collectMembers ((mr_Fr_findHeads (G 8) (G 9) (G 10) (G 11) (G 12) (G 13) nD).2.1) ((mr_Fr_findHeads (G 8) (G 9) (G 10) (G 11) (G 12) (G 13) nD).2.2) nD).1, 1, (mr_Fr_collectMembers ((mr_Fr_findHeads (G 8) (G 9) (G 10) (G 11) (G 12) (G 13) nD).2.1) ((mr_Fr_findHeads (G 8) (G 9) (G 10) (G 11) (G 12) (G 13) nD).2.2) nD).2, (mr_Fr_findHeads (G 8) (G 9) (G 10) (G 11) (G 12) (G 13) nD).2.2) := by rw [mr_Fr_refresh, if_pos c4]
    exact hret _ _ _ _ _ (by simp only [em]) hP hD hS dFr_refresh_21
  · have em : mr_Fr_refresh (F 4) (F 5) (G 8) (G 9) (G 10) (G 11) (G 12) (G 13) nD = (F 4, F 5, G 12, G 13) := by rw [mr_Fr_refresh, if_neg c4]
    exact hret _ _ _ _ _ (by simp only [em]; rw [upd_keep (f := F) (j := 4) (x := F 4) rfl, upd_keep (f := F) (j := 5) (x := F 5) rfl, vup_keep (f := G) (j := 12) (x := G 12) rfl, vup_keep (f := G) (j := 13) (x := G 13) rfl]) hP hD hS dFr_refresh_7
