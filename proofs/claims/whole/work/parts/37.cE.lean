def mr_Se_keepRow (g1 : Nat → Int32) (g10 : Nat → Int32) (g14 : Nat → Int32) (nC : Nat) (nu : Nat) : Int32 × Int32 := (mr_Sh_designOf g1 g14 nC, mr_Bo_sumOf g10 ((mr_Sh_designOf g1 g14 nC).toNatClampNeg) nu)
set_option maxHeartbeats 4000000 in
set_option maxRecDepth 100000 in
theorem c_Se_keepRow (l : Launch) (D : va_G) (cl : List vw_C) (hcl : cOK cl) (oa ca : Nat → Nat) (ck : Nat → ClassId) (F : Nat → Int32) (G : Nat → Nat → Int32) {H0 : Heap} (hP : va_P D cl (cW oa ca ck F G) H0) (hD : va_D (fun _ => True) (cW oa ca ck F G)) (nC : Nat) (nu : Nat) (k0 : F 0 = nI nC) (hC : nC ≤ 8) (hnu : nu < 4) (hf : ∃ j : Nat, j < 4096 ∧ mr_Sh_designOf (G 1) (G 14) nC = nI j) : ww_Met l ySe_keepRow wsSe_keepRow ({ frames := 1, cells := 0, slots := 0, locals := 23 } : Room) D cl (cT ck) H0 [.ref (oa 5), .int (nI nu)] (cW oa ca ck F G) none (cW oa ca ck (upd (upd F 7 ((mr_Se_keepRow (G 1) (G 10) (G 14) nC nu).1)) 8 ((mr_Se_keepRow (G 1) (G 10) (G 14) nC nu).2)) G) := by
  refine ww_metV (by decide) rfl (Nat.le_of_ble_eq_true rfl) hP hD ?_
  intro p e s m args below meth c Q A Sx hK hP hD hS hA ls hl hret
  obtain ⟨hx, hb, hml, hown, hts⟩ := id Sx
  have hl : lv_has ls 2 [(0, .ref (oa 5)), (1, .int (nI nu))] := hl
  obtain ⟨H, eH⟩ : ∃ H : Heap, H = H0 := ⟨_, rfl⟩
  obtain ⟨locs, eL⟩ : ∃ L : List Loc, L = [] := ⟨_, rfl⟩
  have hP : va_P D cl (cW oa ca ck F G) H := by rw [eH]; exact hP
  have hS : va_S A H0 H locs := by rw [eH, eL]; exact hS
  rw [show W p l e ({ frames := 1, cells := 0, slots := 0, locals := 23 } : Room) s m args below meth c H0 [] 0 0 Q (F0 m 0 ls []) = W p l e ({ frames := 1, cells := 0, slots := 0, locals := 23 } : Room) s m args below meth c H locs 0 0 Q (F0 m 0 ls []) by rw [eH, eL]]
  clear eH eL
  have f25 := hts _ (List.mem_cons_of_mem _ mfSe_25)
  have inSe_ : ∀ w ∈ wsSe0, w ∈ wsSe_keepRow := fun w h => List.mem_cons_of_mem _ (inSe_all w h)
  have f9 := hts _ (List.mem_cons_of_mem _ mfSe_9)
  have f19 := hts _ (List.mem_cons_of_mem _ mfSe_19)
  have f29 := hts _ (List.mem_cons_of_mem _ mfSe_29)
  have f22 := hts _ (List.mem_cons_of_mem _ mfSe_22)
  have xf := ix_cl hf (by omega)
  have xf2 := xf.2
  refine lv_aload_n hx hb dSe_keepRow_0 rfl (lv_at hl 0 rfl) ?_
  refine lv_aload_n hx hb dSe_keepRow_1 rfl (lv_at hl 0 rfl) ?_
  refine va_get (D := D) (ci := 6) (v := .ref (oa 1)) (C := RSe) (T := TSe) (N := 6) hx hb hts inSe_ hown hK hP 5 rfl hcl.2.2.2.2.2.1 0 (by decide) f25 (fun _ h9 => h9) rfl dSe_keepRow_2 ?_
  refine lv_aload_n hx hb dSe_keepRow_5 rfl (lv_at hl 0 rfl) ?_
  refine va_get (D := D) (ci := 6) (v := .ref (ca 14)) (C := RSe) (T := TSe) (N := 6) hx hb hts inSe_ hown hK hP 5 rfl hcl.2.2.2.2.2.1 2 (by decide) f9 (fun _ h9 => h9) rfl dSe_keepRow_6 ?_
  refine ro_callV (r := (.int (mr_Sh_designOf (G 1) (G 14) nC))) (As := [.ref (ca 14)]) (rest := [.ref (oa 5)]) Sx (c_Sh_designOf l D cl hcl oa ca ck F G hP nC k0 hC) (cwV 1 hts gSe_keepRow_Sh_designOf rfl rfl rfl (by decide +kernel) ⟨Nat.le_of_ble_eq_true rfl, Nat.le_of_ble_eq_true rfl⟩) hK (va_recv hK hP (ci := 2) (q0 := 1) hcl.2.1 rfl) rfl hl.1 rfl (Nat.le_of_ble_eq_true rfl) dSe_keepRow_9 ⟨Nat.zero_le _, Nat.zero_le _⟩ ?_
  refine va_put (D := D) (ci := 6) (fs := cWl5 oa ca F) (v := .int (mr_Sh_designOf (G 1) (G 14) nC)) (ty := .int) (C := RSe) (T := TSe) (N := 6) hx hb hts inSe_ tySe tySe_ok nmSe hown hK hP hD hS 5 rfl hcl.2.2.2.2.2.1 4 (by decide) f19 (fun _ h9 => h9) rfl (by decide +kernel) rfl rfl (Nat.le_of_ble_eq_true rfl) dSe_keepRow_12 (fun H locs hP hD hS => ?_)
  rw [cW_f7] at hP hD
  refine lv_aload_n hx hb dSe_keepRow_15 rfl (lv_at hl 0 rfl) ?_
  refine lv_aload_n hx hb dSe_keepRow_16 rfl (lv_at hl 0 rfl) ?_
  refine va_get (D := D) (ci := 6) (v := .ref (oa 3)) (C := RSe) (T := TSe) (N := 6) hx hb hts inSe_ hown hK hP 5 rfl hcl.2.2.2.2.2.1 1 (by decide) f29 (fun _ h9 => h9) rfl dSe_keepRow_17 ?_
  refine lv_aload_n hx hb dSe_keepRow_20 rfl (lv_at hl 0 rfl) ?_
  have ef21 : (upd F 7 (mr_Sh_designOf (G 1) (G 14) nC)) 7 = mr_Sh_designOf (G 1) (G 14) nC := by rw [pk_us]
  refine va_get (D := D) (ci := 6) (v := .int (mr_Sh_designOf (G 1) (G 14) nC)) (C := RSe) (T := TSe) (N := 6) hx hb hts inSe_ hown hK hP 5 rfl hcl.2.2.2.2.2.1 4 (by decide) f19 (fun _ h9 => h9) (congrArg (fun z => some (Value.int z)) ef21) dSe_keepRow_21 ?_
  refine wt_i (r := nI ((mr_Sh_designOf (G 1) (G 14) nC).toNatClampNeg)) (by exact xf.1) ?_
  refine lv_iload_n hx hb dSe_keepRow_24 rfl (lv_at hl 1 rfl) ?_
  refine ro_callV (r := (.int (mr_Bo_sumOf (G 10) ((mr_Sh_designOf (G 1) (G 14) nC).toNatClampNeg) nu))) (As := [.int (nI ((mr_Sh_designOf (G 1) (G 14) nC).toNatClampNeg)), .int (nI nu)]) (rest := [.ref (oa 5)]) Sx (c_Bo_sumOf l D cl hcl oa ca ck (upd F 7 (mr_Sh_designOf (G 1) (G 14) nC)) G hP ((mr_Sh_designOf (G 1) (G 14) nC).toNatClampNeg) nu xf.2 hnu) (cwV 2 hts gSe_keepRow_Bo_sumOf rfl rfl rfl (by decide +kernel) ⟨Nat.le_of_ble_eq_true rfl, Nat.le_of_ble_eq_true rfl⟩) hK (va_recv hK hP (ci := 4) (q0 := 3) hcl.2.2.2.1 rfl) rfl hl.1 rfl (Nat.le_of_ble_eq_true rfl) dSe_keepRow_25 ⟨Nat.zero_le _, Nat.zero_le _⟩ ?_
  refine va_put (D := D) (ci := 6) (fs := cWl5 oa ca (upd F 7 (mr_Sh_designOf (G 1) (G 14) nC))) (v := .int (mr_Bo_sumOf (G 10) ((mr_Sh_designOf (G 1) (G 14) nC).toNatClampNeg) nu)) (ty := .int) (C := RSe) (T := TSe) (N := 6) hx hb hts inSe_ tySe tySe_ok nmSe hown hK hP hD hS 5 rfl hcl.2.2.2.2.2.1 5 (by decide) f22 (fun _ h9 => h9) rfl (by decide +kernel) rfl rfl (Nat.le_of_ble_eq_true rfl) dSe_keepRow_28 (fun H locs hP hD hS => ?_)
  rw [cW_f8] at hP hD
  have em : mr_Se_keepRow (G 1) (G 10) (G 14) nC nu = (mr_Sh_designOf (G 1) (G 14) nC, mr_Bo_sumOf (G 10) ((mr_Sh_designOf (G 1) (G 14) nC).toNatClampNeg) nu) := by rw [mr_Se_keepRow]
  exact hret _ _ _ _ _ (by simp only [em]) hP hD hS dSe_keepRow_31
def lf_Se_goBehind_4 (g0 : Nat → Int32) (g14 : Nat → Int32) (st : Nat) : Nat → Nat → (Int32 × (Nat → Int32))
  | 0, j => (0, g14)
  | N + 1, j => (if (nI j - 1) < 0 then ((-1), g14) else (if ((g0 (j - 1)) - 1) ≤ (g14 (j - 1)) then lf_Se_goBehind_4 g0 g14 st N (j - 1) else (nI j, upd g14 (j - 1) ((g14 (j - 1)) + 1))))
def mr_Se_goBehind (g0 : Nat → Int32) (g14 : Nat → Int32) (st : Nat) : Int32 × (Nat → Int32) := lf_Se_goBehind_4 g0 g14 st (st + 1) st
set_option maxHeartbeats 4000000 in
set_option maxRecDepth 100000 in
theorem c_Se_goBehind (l : Launch) (D : va_G) (cl : List vw_C) (hcl : cOK cl) (oa ca : Nat → Nat) (ck : Nat → ClassId) (F : Nat → Int32) (G : Nat → Nat → Int32) {H0 : Heap} (hP : va_P D cl (cW oa ca ck F G) H0) (hD : va_D (fun _ => True) (cW oa ca ck F G)) (st : Nat) (hst : st ≤ 8) : ww_Met l ySe_goBehind wsSe_goBehind ({ frames := 0, cells := 0, slots := 0, locals := 0 } : Room) D cl (cT ck) H0 [.ref (oa 5), .int (nI st)] (cW oa ca ck F G) (some (.int ((mr_Se_goBehind (G 0) (G 14) st).1))) (cW oa ca ck F (va_up G 14 ((mr_Se_goBehind (G 0) (G 14) st).2))) := by
  refine ww_metI (by decide) rfl (Nat.le_of_ble_eq_true rfl) hP hD ?_
  intro p e s m args below meth c Q A Sx hK hP hD hS hA ls hl hret
  obtain ⟨hx, hb, hml, hown, hts⟩ := id Sx
  have hl : lv_has ls 3 [(0, .ref (oa 5)), (1, .int (nI st))] := hl
  obtain ⟨H, eH⟩ : ∃ H : Heap, H = H0 := ⟨_, rfl⟩
  obtain ⟨locs, eL⟩ : ∃ L : List Loc, L = [] := ⟨_, rfl⟩
  have hP : va_P D cl (cW oa ca ck F G) H := by rw [eH]; exact hP
  have hS : va_S A H0 H locs := by rw [eH, eL]; exact hS
  rw [show W p l e ({ frames := 0, cells := 0, slots := 0, locals := 0 } : Room) s m args below meth c H0 [] 0 0 Q (F0 m 0 ls []) = W p l e ({ frames := 0, cells := 0, slots := 0, locals := 0 } : Room) s m args below meth c H locs 0 0 Q (F0 m 0 ls []) by rw [eH, eL]]
  clear eH eL
  have f9 := hts _ (List.mem_cons_of_mem _ mfSe_9)
  have inSe_ : ∀ w ∈ wsSe0, w ∈ wsSe_goBehind := fun w h => List.mem_cons_of_mem _ (inSe_all w h)
  have f25 := hts _ (List.mem_cons_of_mem _ mfSe_25)
  have f60 := hts _ (List.mem_cons_of_mem _ mfSe_60)
  have inSh_ : ∀ w ∈ wsSh0, w ∈ wsSe_goBehind := fun w h => List.mem_cons_of_mem _ (inSh_all w h)
  refine lv_iload_n hx hb dSe_goBehind_0 rfl (lv_at hl 1 rfl) ?_
  refine lv_iconst (v := 1) hx hb dSe_goBehind_1 (by decide) ?_
  refine lv_isub hx hb dSe_goBehind_2 ?_
  refine lv_istore_n (lv' := [(2, .int ((nI st) - 1)), (0, .ref (oa 5)), (1, .int (nI st))]) hx hb dSe_goBehind_3 rfl hl (by decide) rfl (fun ls hl => ?_)
  have loop4 : ∀ (N4 : Nat) (j : Nat), j ≤ st → j < N4 → lf_Se_goBehind_4 (G 0) (G 14) st (st + 1) st = lf_Se_goBehind_4 (G 0) (G 14) st N4 j → ∀ (H : Heap) (locs : List Loc), va_P D cl (cW oa ca ck F G) H → va_D A (cW oa ca ck F G) → va_S A H0 H locs → ∀ (ls : Array Slot), lv_has ls 3 [(2, .int (nI j - 1)), (0, .ref (oa 5)), (1, .int (nI st))] → W p l e ({ frames := 0, cells := 0, slots := 0, locals := 0 } : Room) s m args below meth c H locs 0 0 Q (F0 m 4 ls []) := by
    intro N4
    induction N4 with
    | zero => intro j hj hm4; exact absurd hm4 (Nat.not_lt_zero _)
    | succ N4 ih4 =>
      intro j hj hm4 hR4 H locs hP hD hS ls hl
      refine lv_iload_n hx hb dSe_goBehind_4 rfl (lv_at hl 0 rfl) ?_
      refine lv_if_lt (tgt := 48) hx hb dSe_goBehind_5 (by decide) (fun c5 => ?_) (fun c5 => ?_)
      · refine lv_iconst (v := (-1)) hx hb dSe_goBehind_48 (by decide) ?_
        have em : mr_Se_goBehind (G 0) (G 14) st = ((-1), G 14) := by rw [mr_Se_goBehind, hR4, lf_Se_goBehind_4, if_pos c5]
        exact hret _ _ _ _ _ _ (by simp only [em]) (by simp only [em]; rw [vup_keep (f := G) (j := 14) (x := G 14) rfl]) hP hD hS dSe_goBehind_49
      · have n5 : ¬ j ≤ 0 := dn_nneg (n := j) (k := 0) c5 (by omega)
        have e5 := dn_ix (n := j) (k := 0) (by omega)
        refine lv_aload_n hx hb dSe_goBehind_8 rfl (lv_at hl 1 rfl) ?_
        refine va_get (D := D) (ci := 6) (v := .ref (ca 14)) (C := RSe) (T := TSe) (N := 6) hx hb hts inSe_ hown hK hP 5 rfl hcl.2.2.2.2.2.1 2 (by decide) f9 (fun _ h9 => h9) rfl dSe_goBehind_9 ?_
        refine lv_iload_n hx hb dSe_goBehind_12 rfl (lv_at hl 0 rfl) ?_
        have sd13 : j - 1 < 8 := by omega
        refine wn_iald (f := G 14) hx hb hK hP 22 14 rfl rfl (j - 1) e5 sd13 (by decide) dSe_goBehind_13 ?_
        refine lv_aload_n hx hb dSe_goBehind_14 rfl (lv_at hl 1 rfl) ?_
        refine va_get (D := D) (ci := 6) (v := .ref (oa 1)) (C := RSe) (T := TSe) (N := 6) hx hb hts inSe_ hown hK hP 5 rfl hcl.2.2.2.2.2.1 0 (by decide) f25 (fun _ h9 => h9) rfl dSe_goBehind_15 ?_
        refine va_get (D := D) (ci := 2) (v := .ref (ca 0)) (C := RSh) (T := TSh) (N := 4) hx hb hts inSh_ hown hK hP 1 rfl hcl.2.1 0 (by decide) f60 (fun _ h9 => h9) rfl dSe_goBehind_18 ?_
        refine lv_iload_n hx hb dSe_goBehind_21 rfl (lv_at hl 0 rfl) ?_
        have sd22 : j - 1 < 8 := by omega
        refine wn_iald (f := G 0) hx hb hK hP 8 0 rfl rfl (j - 1) e5 sd22 (by decide) dSe_goBehind_22 ?_
        refine lv_iconst (v := 1) hx hb dSe_goBehind_23 (by decide) ?_
        refine lv_isub hx hb dSe_goBehind_24 ?_
        refine lv_icmp_ge (tgt := 42) hx hb dSe_goBehind_25 (by decide) (fun c25 => ?_) (fun c25 => ?_)
        · refine lv_iinc (v := nI (j - 1) - 1) (lv' := [(2, .int (nI (j - 1) - 1)), (0, .ref (oa 5)), (1, .int (nI st))]) hx hb dSe_goBehind_42 hl (k := 0) rfl (by exact dn_dec (n := j) (k := 0) (by omega)) (by decide) rfl (fun ls hl => ?_)
          refine lv_goto (tgt := 4) hx hb dSe_goBehind_45 (by decide) ?_
          have er4 : lf_Se_goBehind_4 (G 0) (G 14) st (N4 + 1) j = lf_Se_goBehind_4 (G 0) (G 14) st N4 (j - 1) := by rw [lf_Se_goBehind_4, if_neg c5, if_pos c25]
          exact ih4 (j - 1) (by omega) (by omega) (hR4.trans er4) H locs hP hD hS ls (lv_sub hl [0, 1, 2] rfl)
        · refine lv_aload_n hx hb dSe_goBehind_28 rfl (lv_at hl 1 rfl) ?_
          refine va_get (D := D) (ci := 6) (v := .ref (ca 14)) (C := RSe) (T := TSe) (N := 6) hx hb hts inSe_ hown hK hP 5 rfl hcl.2.2.2.2.2.1 2 (by decide) f9 (fun _ h9 => h9) rfl dSe_goBehind_29 ?_
          refine lv_iload_n hx hb dSe_goBehind_32 rfl (lv_at hl 0 rfl) ?_
          refine lv_dup2_11 hx hb dSe_goBehind_33 rfl rfl ?_
          have sd34 : j - 1 < 8 := by omega
          refine wn_iald (f := G 14) hx hb hK hP 22 14 rfl rfl (j - 1) e5 sd34 (by decide) dSe_goBehind_34 ?_
          refine lv_iconst (v := 1) hx hb dSe_goBehind_35 (by decide) ?_
          refine lv_iadd hx hb dSe_goBehind_36 ?_
          have sd37 : j - 1 < 8 := by omega
          refine wn_iast (f := G 14) hx hb hK hP hD hS 22 14 rfl rfl (j - 1) e5 sd37 (by decide) dSe_goBehind_37 (fun H locs hP hD hS => ?_)
          rw [cW_g14] at hP hD
          refine lv_iload_n hx hb dSe_goBehind_38 rfl (lv_at hl 0 rfl) ?_
          refine lv_iconst (v := 1) hx hb dSe_goBehind_39 (by decide) ?_
          refine lv_iadd hx hb dSe_goBehind_40 ?_
          refine wt_i (r := nI j) (by exact up_1 _) ?_
          have em : mr_Se_goBehind (G 0) (G 14) st = (nI j, upd (G 14) (j - 1) ((G 14 (j - 1)) + 1)) := by rw [mr_Se_goBehind, hR4, lf_Se_goBehind_4, if_neg c5, if_neg c25]
          exact hret _ _ _ _ _ _ (by simp only [em]) (by simp only [em]) hP hD hS dSe_goBehind_41
  exact loop4 (st + 1) st (by omega) (by omega) rfl H locs hP hD hS ls (lv_sub hl [0, 1, 2] rfl)
def mr_Se_isPassedBy (f7 : Int32) (f8 : Int32) (g2 : Nat → Int32) (g3 : Nat → Int32) (g4 : Nat → Int32) (g5 : Nat → Int32) (g6 : Nat → Int32) (g7 : Nat → Int32) (g8 : Nat → Int32) (g9 : Nat → Int32) (g14 : Nat → Int32) (nR : Nat) (nu : Nat) (st : Nat) : Int32 := ((if (mr_Bo_barsRow g2 g3 g4 g5 g14 nR st) = 0 then (if (mr_Bo_limitsRow g2 g3 g4 g5 g6 g7 g8 g9 g14 st) = 0 then (if f7 = (-1) then 0 else (if (mr_Bo_boundOf g2 g3 g4 g5 g6 g7 g14 nu st) < f8 then 0 else 1)) else 1) else 1) : Int32)
set_option maxHeartbeats 4000000 in
set_option maxRecDepth 100000 in
theorem c_Se_isPassedBy (l : Launch) (D : va_G) (cl : List vw_C) (hcl : cOK cl) (oa ca : Nat → Nat) (ck : Nat → ClassId) (F : Nat → Int32) (G : Nat → Nat → Int32) {H : Heap} (hP : va_P D cl (cW oa ca ck F G) H) (nR : Nat) (nu : Nat) (st : Nat) (mA : ∀ s, s < 440 → ∃ x : Nat, x < 8 ∧ G 2 s = nI x) (mB : ∀ s, s < 440 → G 4 s = -1 ∨ ∃ x : Nat, x < 8 ∧ G 4 s = nI x) (mQ : ∀ n, n < 4 → ∃ t : Nat, t < 101 ∧ G 6 n = nI t) (k3 : F 3 = nI nR) (hR : nR ≤ 40) (hnu : nu < 4) (hst : st ≤ 8) : ro_Met l ySe_isPassedBy wsSe_isPassedBy ({ frames := 3, cells := 0, slots := 0, locals := 75 } : Room) D cl (cT ck) H [.ref (oa 5), .int (nI nu), .int (nI st)] (.int (mr_Se_isPassedBy (F 7) (F 8) (G 2) (G 3) (G 4) (G 5) (G 6) (G 7) (G 8) (G 9) (G 14) nR nu st)) := by
  refine ro_metZ (by unfold mr_Se_isPassedBy; repeat' first | refine zb_i ?_ ?_ | exact zb_0 | exact zb_1) (by decide) rfl (Nat.le_of_ble_eq_true rfl) ?_
  intro p e s m args below meth c Q Sx hK ls hl hret
  obtain ⟨hx, hb, hml, hown, hts⟩ := id Sx
  have hl : lv_has ls 3 [(0, .ref (oa 5)), (1, .int (nI nu)), (2, .int (nI st))] := hl
  have f29 := hts _ (List.mem_cons_of_mem _ mfSe_29)
  have inSe_ : ∀ w ∈ wsSe0, w ∈ wsSe_isPassedBy := fun w h => List.mem_cons_of_mem _ (inSe_all w h)
  have f9 := hts _ (List.mem_cons_of_mem _ mfSe_9)
  have f19 := hts _ (List.mem_cons_of_mem _ mfSe_19)
  have f22 := hts _ (List.mem_cons_of_mem _ mfSe_22)
  refine lv_aload_n hx hb dSe_isPassedBy_0 rfl (lv_at hl 0 rfl) ?_
  refine va_get (D := D) (ci := 6) (v := .ref (oa 3)) (C := RSe) (T := TSe) (N := 6) hx hb hts inSe_ hown hK hP 5 rfl hcl.2.2.2.2.2.1 1 (by decide) f29 (fun _ h9 => h9) rfl dSe_isPassedBy_1 ?_
  refine lv_aload_n hx hb dSe_isPassedBy_4 rfl (lv_at hl 0 rfl) ?_
  refine va_get (D := D) (ci := 6) (v := .ref (ca 14)) (C := RSe) (T := TSe) (N := 6) hx hb hts inSe_ hown hK hP 5 rfl hcl.2.2.2.2.2.1 2 (by decide) f9 (fun _ h9 => h9) rfl dSe_isPassedBy_5 ?_
  refine lv_iload_n hx hb dSe_isPassedBy_8 rfl (lv_at hl 2 rfl) ?_
  refine ro_callV (r := (.int (mr_Bo_barsRow (G 2) (G 3) (G 4) (G 5) (G 14) nR st))) (As := [.ref (ca 14), .int (nI st)]) (rest := []) Sx (c_Bo_barsRow l D cl hcl oa ca ck F G hP nR st mA mB k3 hR hst) (cwV 2 hts gSe_isPassedBy_Bo_barsRow rfl rfl rfl (by decide +kernel) ⟨Nat.le_of_ble_eq_true rfl, Nat.le_of_ble_eq_true rfl⟩) hK (va_recv hK hP (ci := 4) (q0 := 3) hcl.2.2.2.1 rfl) rfl hl.1 rfl (Nat.le_of_ble_eq_true rfl) dSe_isPassedBy_9 ⟨Nat.zero_le _, Nat.zero_le _⟩ ?_
  have j63 : ∀ (ls : Array Slot), lv_has ls 3 [(0, .ref (oa 5)), (1, .int (nI nu)), (2, .int (nI st))] → W p l e ({ frames := 3, cells := 0, slots := 0, locals := 75 } : Room) s m args below meth c H [] 0 0 Q (F0 m 63 ls [.int ((if (mr_Bo_barsRow (G 2) (G 3) (G 4) (G 5) (G 14) nR st) = 0 then (if (mr_Bo_limitsRow (G 2) (G 3) (G 4) (G 5) (G 6) (G 7) (G 8) (G 9) (G 14) st) = 0 then (if (F 7) = (-1) then 0 else (if (mr_Bo_boundOf (G 2) (G 3) (G 4) (G 5) (G 6) (G 7) (G 14) nu st) < (F 8) then 0 else 1)) else 1) else 1) : Int32)]) := by
    intro ls hl
    exact hret _ _ _ (by rw [mr_Se_isPassedBy]) dSe_isPassedBy_63
  refine lv_if_ne (tgt := 58) hx hb dSe_isPassedBy_12 (by decide) (fun c12 => ?_) (fun c12 => ?_)
  · refine lv_iconst (v := 1) hx hb dSe_isPassedBy_58 (by decide) ?_
    refine lv_goto (tgt := 63) hx hb dSe_isPassedBy_59 (by decide) ?_
    exact wt_i (by rw [if_neg c12]) (j63 ls hl)
  · refine lv_aload_n hx hb dSe_isPassedBy_15 rfl (lv_at hl 0 rfl) ?_
    refine va_get (D := D) (ci := 6) (v := .ref (oa 3)) (C := RSe) (T := TSe) (N := 6) hx hb hts inSe_ hown hK hP 5 rfl hcl.2.2.2.2.2.1 1 (by decide) f29 (fun _ h9 => h9) rfl dSe_isPassedBy_16 ?_
    refine lv_aload_n hx hb dSe_isPassedBy_19 rfl (lv_at hl 0 rfl) ?_
    refine va_get (D := D) (ci := 6) (v := .ref (ca 14)) (C := RSe) (T := TSe) (N := 6) hx hb hts inSe_ hown hK hP 5 rfl hcl.2.2.2.2.2.1 2 (by decide) f9 (fun _ h9 => h9) rfl dSe_isPassedBy_20 ?_
    refine lv_iload_n hx hb dSe_isPassedBy_23 rfl (lv_at hl 2 rfl) ?_
    refine ro_callV (r := (.int (mr_Bo_limitsRow (G 2) (G 3) (G 4) (G 5) (G 6) (G 7) (G 8) (G 9) (G 14) st))) (As := [.ref (ca 14), .int (nI st)]) (rest := []) Sx (c_Bo_limitsRow l D cl hcl oa ca ck F G hP st mA mB mQ hst) (cwV 2 hts gSe_isPassedBy_Bo_limitsRow rfl rfl rfl (by decide +kernel) ⟨Nat.le_of_ble_eq_true rfl, Nat.le_of_ble_eq_true rfl⟩) hK (va_recv hK hP (ci := 4) (q0 := 3) hcl.2.2.2.1 rfl) rfl hl.1 rfl (Nat.le_of_ble_eq_true rfl) dSe_isPassedBy_24 ⟨Nat.zero_le _, Nat.zero_le _⟩ ?_
    refine lv_if_ne (tgt := 58) hx hb dSe_isPassedBy_27 (by decide) (fun c27 => ?_) (fun c27 => ?_)
    · refine lv_iconst (v := 1) hx hb dSe_isPassedBy_58 (by decide) ?_
      refine lv_goto (tgt := 63) hx hb dSe_isPassedBy_59 (by decide) ?_
      exact wt_i (by rw [if_pos c12, if_neg c27]) (j63 ls hl)
    · refine lv_aload_n hx hb dSe_isPassedBy_30 rfl (lv_at hl 0 rfl) ?_
      refine va_get (D := D) (ci := 6) (v := .int (F 7)) (C := RSe) (T := TSe) (N := 6) hx hb hts inSe_ hown hK hP 5 rfl hcl.2.2.2.2.2.1 4 (by decide) f19 (fun _ h9 => h9) rfl dSe_isPassedBy_31 ?_
      refine lv_iconst (v := (-1)) hx hb dSe_isPassedBy_34 (by decide) ?_
      refine lv_icmp_eq (tgt := 62) hx hb dSe_isPassedBy_35 (by decide) (fun c35 => ?_) (fun c35 => ?_)
      · refine lv_iconst (v := 0) hx hb dSe_isPassedBy_62 (by decide) ?_
        exact wt_i (by rw [if_pos c12, if_pos c27, if_pos c35]) (j63 ls hl)
      · refine lv_aload_n hx hb dSe_isPassedBy_38 rfl (lv_at hl 0 rfl) ?_
        refine va_get (D := D) (ci := 6) (v := .ref (oa 3)) (C := RSe) (T := TSe) (N := 6) hx hb hts inSe_ hown hK hP 5 rfl hcl.2.2.2.2.2.1 1 (by decide) f29 (fun _ h9 => h9) rfl dSe_isPassedBy_39 ?_
        refine lv_iload_n hx hb dSe_isPassedBy_42 rfl (lv_at hl 1 rfl) ?_
        refine lv_aload_n hx hb dSe_isPassedBy_43 rfl (lv_at hl 0 rfl) ?_
        refine va_get (D := D) (ci := 6) (v := .ref (ca 14)) (C := RSe) (T := TSe) (N := 6) hx hb hts inSe_ hown hK hP 5 rfl hcl.2.2.2.2.2.1 2 (by decide) f9 (fun _ h9 => h9) rfl dSe_isPassedBy_44 ?_
        refine lv_iload_n hx hb dSe_isPassedBy_47 rfl (lv_at hl 2 rfl) ?_
        refine ro_callV (r := (.int (mr_Bo_boundOf (G 2) (G 3) (G 4) (G 5) (G 6) (G 7) (G 14) nu st))) (As := [.int (nI nu), .ref (ca 14), .int (nI st)]) (rest := []) Sx (c_Bo_boundOf l D cl hcl oa ca ck F G hP nu st mA mB hnu hst (mQ nu hnu)) (cwV 3 hts gSe_isPassedBy_Bo_boundOf rfl rfl rfl (by decide +kernel) ⟨Nat.le_of_ble_eq_true rfl, Nat.le_of_ble_eq_true rfl⟩) hK (va_recv hK hP (ci := 4) (q0 := 3) hcl.2.2.2.1 rfl) rfl hl.1 rfl (Nat.le_of_ble_eq_true rfl) dSe_isPassedBy_48 ⟨Nat.zero_le _, Nat.zero_le _⟩ ?_
        refine lv_aload_n hx hb dSe_isPassedBy_51 rfl (lv_at hl 0 rfl) ?_
        refine va_get (D := D) (ci := 6) (v := .int (F 8)) (C := RSe) (T := TSe) (N := 6) hx hb hts inSe_ hown hK hP 5 rfl hcl.2.2.2.2.2.1 5 (by decide) f22 (fun _ h9 => h9) rfl dSe_isPassedBy_52 ?_
        refine lv_icmp_lt (tgt := 62) hx hb dSe_isPassedBy_55 (by decide) (fun c55 => ?_) (fun c55 => ?_)
        · refine lv_iconst (v := 0) hx hb dSe_isPassedBy_62 (by decide) ?_
          exact wt_i (by rw [if_pos c12, if_pos c27, if_neg c35, if_pos c55]) (j63 ls hl)
        · refine lv_iconst (v := 1) hx hb dSe_isPassedBy_58 (by decide) ?_
          refine lv_goto (tgt := 63) hx hb dSe_isPassedBy_59 (by decide) ?_
          exact wt_i (by rw [if_pos c12, if_pos c27, if_neg c35, if_neg c55]) (j63 ls hl)
def lf_Se_leastOf_9 (g0 : Nat → Int32) (g1 : Nat → Int32) (g2 : Nat → Int32) (g3 : Nat → Int32) (g4 : Nat → Int32) (g5 : Nat → Int32) (g6 : Nat → Int32) (g7 : Nat → Int32) (g8 : Nat → Int32) (g9 : Nat → Int32) (g10 : Nat → Int32) (nC : Nat) (nD : Nat) (nR : Nat) (nu : Nat) : Nat → Int32 → Nat → Int32 → Int32 → Int32 → (Nat → Int32) → Int32 × Nat × Int32 × Int32 × Int32 × (Nat → Int32)
  | 0, sx, sn, rs, be, le, r => (sx, sn, rs, be, le, r)
  | N + 1, sx, sn, rs, be, le, r => (if sx = (-1) then (sx, sn, rs, be, le, r) else (if 8192 < (nI sn) then (sx, sn, rs, be, le, r) else (if (mr_Se_isPassedBy be le g2 g3 g4 g5 g6 g7 g8 g9 r nR nu (sx.toNatClampNeg)) = 0 then (if (nI nC) ≤ (nI (sx.toNatClampNeg)) then lf_Se_leastOf_9 g0 g1 g2 g3 g4 g5 g6 g7 g8 g9 g10 nC nD nR nu N ((mr_Se_goBehind g0 r (sx.toNatClampNeg)).1) (sn + 1) (nI sn) ((mr_Se_keepRow g1 g10 r nC nu).1) ((mr_Se_keepRow g1 g10 r nC nu).2) ((mr_Se_goBehind g0 r (sx.toNatClampNeg)).2) else lf_Se_leastOf_9 g0 g1 g2 g3 g4 g5 g6 g7 g8 g9 g10 nC nD nR nu N (sx + 1) (sn + 1) (nI sn) be le (upd r (sx.toNatClampNeg) 0)) else lf_Se_leastOf_9 g0 g1 g2 g3 g4 g5 g6 g7 g8 g9 g10 nC nD nR nu N ((mr_Se_goBehind g0 r (sx.toNatClampNeg)).1) (sn + 1) (nI sn) be le ((mr_Se_goBehind g0 r (sx.toNatClampNeg)).2))))
def mr_Se_leastOf (f6 : Int32) (f8 : Int32) (g0 : Nat → Int32) (g1 : Nat → Int32) (g2 : Nat → Int32) (g3 : Nat → Int32) (g4 : Nat → Int32) (g5 : Nat → Int32) (g6 : Nat → Int32) (g7 : Nat → Int32) (g8 : Nat → Int32) (g9 : Nat → Int32) (g10 : Nat → Int32) (g14 : Nat → Int32) (nC : Nat) (nD : Nat) (nR : Nat) (nu : Nat) : Int32 × Int32 × Int32 × Int32 × (Nat → Int32) := ((lf_Se_leastOf_9 g0 g1 g2 g3 g4 g5 g6 g7 g8 g9 g10 nC nD nR nu 8193 0 1 f6 (-1) f8 g14).2.2.2.1, (lf_Se_leastOf_9 g0 g1 g2 g3 g4 g5 g6 g7 g8 g9 g10 nC nD nR nu 8193 0 1 f6 (-1) f8 g14).2.2.1, (lf_Se_leastOf_9 g0 g1 g2 g3 g4 g5 g6 g7 g8 g9 g10 nC nD nR nu 8193 0 1 f6 (-1) f8 g14).2.2.2.1, (lf_Se_leastOf_9 g0 g1 g2 g3 g4 g5 g6 g7 g8 g9 g10 nC nD nR nu 8193 0 1 f6 (-1) f8 g14).2.2.2.2.1, (lf_Se_leastOf_9 g0 g1 g2 g3 g4 g5 g6 g7 g8 g9 g10 nC nD nR nu 8193 0 1 f6 (-1) f8 g14).2.2.2.2.2)
theorem do_sem {g0 g1 r : Nat → Int32} {nC : Nat} {u : Nat → Nat} (s1 : ∀ c, c < nC → g1 c = nI (pc_ (zg g0) nC c)) (hr : ∀ c, c < nC → r c = nI (u c)) : ∀ k, k ≤ nC → lf_Sh_designOf_4 g1 r nC 0 k = nI (cn (zg g0) u k * mp (zg g0) k (nC - k)) := by
  intro k
  induction k with
  | zero => intro _; rw [lf_Sh_designOf_4, cn, Nat.zero_mul]; rfl
  | succ k ih =>
    intro hk
    have e1 : mp (zg g0) k (nC - k) = zg g0 k * pc_ (zg g0) nC k := by
      unfold pc_
      rw [show nC - k = (nC - (k + 1)) + 1 by omega, mp_first]
    have e2 : mp (zg g0) (k + 1) (nC - (k + 1)) = pc_ (zg g0) nC k := rfl
    rw [lf_Sh_designOf_4, ih (by omega), hr k (by omega), s1 k (by omega), pk_mul, nI_add, e1, e2, cn, Nat.add_mul, Nat.mul_assoc]
theorem do_num {g0 g1 r : Nat → Int32} {nC : Nat} {u : Nat → Nat} (s1 : ∀ c, c < nC → g1 c = nI (pc_ (zg g0) nC c)) (hr : ∀ c, c < nC → r c = nI (u c)) : mr_Sh_designOf g1 r nC = nI (cn (zg g0) u nC) := by
  unfold mr_Sh_designOf
  rw [do_sem (g0 := g0) s1 hr nC (Nat.le_refl _), Nat.sub_self, mp, Nat.mul_one]
theorem rn_ok {g0 r : Nat → Int32} {nC s : Nat} (s0 : ∀ c, c < nC → ∃ z : Nat, g0 c = nI z ∧ 2 ≤ z ∧ z ≤ 6) (hs : s ≤ nC) (hr : ∀ c, c < s → ∃ v : Nat, r c = nI v ∧ v < zg g0 c) : ∀ c, c < s → r c = nI (rn r c) ∧ rn r c < zg g0 c := fun c hc => by
  obtain ⟨v, ev, hv⟩ := hr c hc
  have := (zg_ok s0 (c := c) (by omega)).2.2
  have e : rn r c = v := by unfold rn; rw [ev]; exact nI_clamp (by omega)
  rw [e]; exact ⟨ev, hv⟩
theorem do_lt {g0 g1 r : Nat → Int32} {nC nD : Nat} (s0 : ∀ c, c < nC → ∃ z : Nat, g0 c = nI z ∧ 2 ≤ z ∧ z ≤ 6) (s1 : ∀ c, c < nC → g1 c = nI (pc_ (zg g0) nC c)) (hmp : mp (zg g0) 0 nC = nD) (hN : nD ≤ 4096) (hr : ∀ c, c < nC → ∃ v : Nat, r c = nI v ∧ v < zg g0 c) : ∃ j : Nat, j < 4096 ∧ mr_Sh_designOf g1 r nC = nI j := by
  have hr' := rn_ok s0 (Nat.le_refl _) hr
  refine ⟨cn (zg g0) (rn r) nC, ?_, do_num s1 (fun c hc => (hr' c hc).1)⟩
  have h := cn_lt (z := zg g0) (r := rn r) (n := nC) (fun c hc => (hr' c hc).2)
  omega
theorem gb_lf {g0 r : Nat → Int32} {nC st : Nat} (s0 : ∀ c, c < nC → ∃ z : Nat, g0 c = nI z ∧ 2 ≤ z ∧ z ≤ 6) (hC : nC ≤ 8) (hst : st ≤ nC) (hr : ∀ c, c < st → ∃ v : Nat, r c = nI v ∧ v < zg g0 c) : ∀ (N j : Nat), j < N → j ≤ st → bI g0 nC (lf_Se_goBehind_4 g0 r st N j).2 (lf_Se_goBehind_4 g0 r st N j).1 := by
  intro N
  induction N with
  | zero => intro j h; exact absurd h (Nat.not_lt_zero _)
  | succ N ih =>
    intro j hj hs
    rw [lf_Se_goBehind_4]
    by_cases c1 : nI j - 1 < 0
    · rw [if_pos c1]; exact Or.inl rfl
    · have h0 : ¬ j ≤ 0 := dn_nneg (n := j) (k := 0) c1 (by omega)
      rw [if_neg c1]
      obtain ⟨v, ev, hv⟩ := hr (j - 1) (by omega)
      obtain ⟨z1, z2, z3⟩ := zg_ok s0 (c := j - 1) (by omega)
      by_cases c2 : g0 (j - 1) - 1 ≤ r (j - 1)
      · rw [if_pos c2]; exact ih (j - 1) (by omega) (by omega)
      · rw [if_neg c2]
        have hv1 : v < zg g0 (j - 1) - 1 := by
          rw [zpred z1 (by omega), ev] at c2
          exact nI_nle2 c2 (by omega)
        refine Or.inr ⟨j, by omega, rfl, fun c hc => ?_⟩
        show ∃ v : Nat, upd r (j - 1) (r (j - 1) + 1) c = nI v ∧ v < zg g0 c
        by_cases h : c = j - 1
        · rw [h, pk_us, ev, nI_1]; exact ⟨v + 1, rfl, by omega⟩
        · rw [pk_un h]; exact hr c (by omega)
theorem gb_ok {g0 r : Nat → Int32} {nC st : Nat} (s0 : ∀ c, c < nC → ∃ z : Nat, g0 c = nI z ∧ 2 ≤ z ∧ z ≤ 6) (hC : nC ≤ 8) (hst : st ≤ nC) (hr : ∀ c, c < st → ∃ v : Nat, r c = nI v ∧ v < zg g0 c) : bI g0 nC (mr_Se_goBehind g0 r st).2 (mr_Se_goBehind g0 r st).1 := gb_lf s0 hC hst hr (st + 1) st (by omega) (Nat.le_refl _)
set_option maxHeartbeats 4000000 in
set_option maxRecDepth 100000 in
theorem c_Se_leastOf (l : Launch) (D : va_G) (cl : List vw_C) (hcl : cOK cl) (oa ca : Nat → Nat) (ck : Nat → ClassId) (F : Nat → Int32) (G : Nat → Nat → Int32) {H0 : Heap} (hP : va_P D cl (cW oa ca ck F G) H0) (hD : va_D (fun _ => True) (cW oa ca ck F G)) (nC : Nat) (nD : Nat) (nR : Nat) (nu : Nat) (k0 : F 0 = nI nC) (hC : nC ≤ 8) (s0 : ∀ c, c < nC → ∃ z : Nat, G 0 c = nI z ∧ 2 ≤ z ∧ z ≤ 6) (s1 : ∀ c, c < nC → G 1 c = nI (pc_ (zg (G 0)) nC c)) (hmp : mp (zg (G 0)) 0 nC = nD) (hN : nD ≤ 4096) (mA : ∀ s, s < 440 → ∃ x : Nat, x < 8 ∧ G 2 s = nI x) (mB : ∀ s, s < 440 → G 4 s = -1 ∨ ∃ x : Nat, x < 8 ∧ G 4 s = nI x) (mQ : ∀ n, n < 4 → ∃ t : Nat, t < 101 ∧ G 6 n = nI t) (k3 : F 3 = nI nR) (hR : nR ≤ 40) (hnu : nu < 4) : ww_Met l ySe_leastOf wsSe_leastOf ({ frames := 4, cells := 0, slots := 0, locals := 97 } : Room) D cl (cT ck) H0 [.ref (oa 5), .int (nI nu)] (cW oa ca ck F G) (some (.int ((mr_Se_leastOf (F 6) (F 8) (G 0) (G 1) (G 2) (G 3) (G 4) (G 5) (G 6) (G 7) (G 8) (G 9) (G 10) (G 14) nC nD nR nu).1))) (cW oa ca ck (upd (upd (upd F 6 ((mr_Se_leastOf (F 6) (F 8) (G 0) (G 1) (G 2) (G 3) (G 4) (G 5) (G 6) (G 7) (G 8) (G 9) (G 10) (G 14) nC nD nR nu).2.1)) 7 ((mr_Se_leastOf (F 6) (F 8) (G 0) (G 1) (G 2) (G 3) (G 4) (G 5) (G 6) (G 7) (G 8) (G 9) (G 10) (G 14) nC nD nR nu).2.2.1)) 8 ((mr_Se_leastOf (F 6) (F 8) (G 0) (G 1) (G 2) (G 3) (G 4) (G 5) (G 6) (G 7) (G 8) (G 9) (G 10) (G 14) nC nD nR nu).2.2.2.1)) (va_up G 14 ((mr_Se_leastOf (F 6) (F 8) (G 0) (G 1) (G 2) (G 3) (G 4) (G 5) (G 6) (G 7) (G 8) (G 9) (G 10) (G 14) nC nD nR nu).2.2.2.2))) := by
  refine ww_metI (by decide) rfl (Nat.le_of_ble_eq_true rfl) hP hD ?_
  intro p e s m args below meth c Q A Sx hK hP hD hS hA ls hl hret
  obtain ⟨hx, hb, hml, hown, hts⟩ := id Sx
  have hl : lv_has ls 5 [(0, .ref (oa 5)), (1, .int (nI nu))] := hl
  obtain ⟨H, eH⟩ : ∃ H : Heap, H = H0 := ⟨_, rfl⟩
  obtain ⟨locs, eL⟩ : ∃ L : List Loc, L = [] := ⟨_, rfl⟩
  have hP : va_P D cl (cW oa ca ck F G) H := by rw [eH]; exact hP
  have hS : va_S A H0 H locs := by rw [eH, eL]; exact hS
  rw [show W p l e ({ frames := 4, cells := 0, slots := 0, locals := 97 } : Room) s m args below meth c H0 [] 0 0 Q (F0 m 0 ls []) = W p l e ({ frames := 4, cells := 0, slots := 0, locals := 97 } : Room) s m args below meth c H locs 0 0 Q (F0 m 0 ls []) by rw [eH, eL]]
  clear eH eL
  have f19 := hts _ (List.mem_cons_of_mem _ mfSe_19)
  have inSe_ : ∀ w ∈ wsSe0, w ∈ wsSe_leastOf := fun w h => List.mem_cons_of_mem _ (inSe_all w h)
  have f15 := hts _ (List.mem_cons_of_mem _ mfSe_15)
  have f25 := hts _ (List.mem_cons_of_mem _ mfSe_25)
  have f37 := hts _ (List.mem_cons_of_mem _ mfSe_37)
  have inSh_ : ∀ w ∈ wsSh0, w ∈ wsSe_leastOf := fun w h => List.mem_cons_of_mem _ (inSh_all w h)
  have f9 := hts _ (List.mem_cons_of_mem _ mfSe_9)
  refine lv_aload_n hx hb dSe_leastOf_0 rfl (lv_at hl 0 rfl) ?_
  refine lv_iconst (v := (-1)) hx hb dSe_leastOf_1 (by decide) ?_
  refine va_put (D := D) (ci := 6) (fs := cWl5 oa ca F) (v := .int (-1)) (ty := .int) (C := RSe) (T := TSe) (N := 6) hx hb hts inSe_ tySe tySe_ok nmSe hown hK hP hD hS 5 rfl hcl.2.2.2.2.2.1 4 (by decide) f19 (fun _ h9 => h9) rfl (by decide +kernel) rfl rfl (Nat.le_of_ble_eq_true rfl) dSe_leastOf_2 (fun H locs hP hD hS => ?_)
  rw [cW_f7] at hP hD
  refine lv_iconst (v := 0) hx hb dSe_leastOf_5 (by decide) ?_
  refine lv_istore_n (lv' := [(2, .int 0), (0, .ref (oa 5)), (1, .int (nI nu))]) hx hb dSe_leastOf_6 rfl hl (by decide) rfl (fun ls hl => ?_)
  refine lv_iconst (v := 1) hx hb dSe_leastOf_7 (by decide) ?_
  refine lv_istore_n (lv' := [(3, .int 1), (2, .int 0), (0, .ref (oa 5)), (1, .int (nI nu))]) hx hb dSe_leastOf_8 rfl hl (by decide) rfl (fun ls hl => ?_)
  have ex9 : ∀ (H : Heap) (locs : List Loc), va_P D cl (cW oa ca ck (upd (upd (upd F 6 ((lf_Se_leastOf_9 (G 0) (G 1) (G 2) (G 3) (G 4) (G 5) (G 6) (G 7) (G 8) (G 9) (G 10) nC nD nR nu 8193 0 1 (F 6) (-1) (F 8) (G 14)).2.2.1)) 7 ((lf_Se_leastOf_9 (G 0) (G 1) (G 2) (G 3) (G 4) (G 5) (G 6) (G 7) (G 8) (G 9) (G 10) nC nD nR nu 8193 0 1 (F 6) (-1) (F 8) (G 14)).2.2.2.1)) 8 ((lf_Se_leastOf_9 (G 0) (G 1) (G 2) (G 3) (G 4) (G 5) (G 6) (G 7) (G 8) (G 9) (G 10) nC nD nR nu 8193 0 1 (F 6) (-1) (F 8) (G 14)).2.2.2.2.1)) (va_up G 14 ((lf_Se_leastOf_9 (G 0) (G 1) (G 2) (G 3) (G 4) (G 5) (G 6) (G 7) (G 8) (G 9) (G 10) nC nD nR nu 8193 0 1 (F 6) (-1) (F 8) (G 14)).2.2.2.2.2))) H → va_D A (cW oa ca ck (upd (upd (upd F 6 ((lf_Se_leastOf_9 (G 0) (G 1) (G 2) (G 3) (G 4) (G 5) (G 6) (G 7) (G 8) (G 9) (G 10) nC nD nR nu 8193 0 1 (F 6) (-1) (F 8) (G 14)).2.2.1)) 7 ((lf_Se_leastOf_9 (G 0) (G 1) (G 2) (G 3) (G 4) (G 5) (G 6) (G 7) (G 8) (G 9) (G 10) nC nD nR nu 8193 0 1 (F 6) (-1) (F 8) (G 14)).2.2.2.1)) 8 ((lf_Se_leastOf_9 (G 0) (G 1) (G 2) (G 3) (G 4) (G 5) (G 6) (G 7) (G 8) (G 9) (G 10) nC nD nR nu 8193 0 1 (F 6) (-1) (F 8) (G 14)).2.2.2.2.1)) (va_up G 14 ((lf_Se_leastOf_9 (G 0) (G 1) (G 2) (G 3) (G 4) (G 5) (G 6) (G 7) (G 8) (G 9) (G 10) nC nD nR nu 8193 0 1 (F 6) (-1) (F 8) (G 14)).2.2.2.2.2))) → va_S A H0 H locs → ∀ (ls : Array Slot), lv_has ls 5 [(3, .int (nI ((lf_Se_leastOf_9 (G 0) (G 1) (G 2) (G 3) (G 4) (G 5) (G 6) (G 7) (G 8) (G 9) (G 10) nC nD nR nu 8193 0 1 (F 6) (-1) (F 8) (G 14)).2.1))), (2, .int ((lf_Se_leastOf_9 (G 0) (G 1) (G 2) (G 3) (G 4) (G 5) (G 6) (G 7) (G 8) (G 9) (G 10) nC nD nR nu 8193 0 1 (F 6) (-1) (F 8) (G 14)).1)), (0, .ref (oa 5)), (1, .int (nI nu))] → W p l e ({ frames := 4, cells := 0, slots := 0, locals := 97 } : Room) s m args below meth c H locs 0 0 Q (F0 m 85 ls []) := by
    intro H locs hP hD hS ls hl
    refine lv_aload_n hx hb dSe_leastOf_85 rfl (lv_at hl 2 rfl) ?_
    have ef86 : (upd (upd (upd F 6 ((lf_Se_leastOf_9 (G 0) (G 1) (G 2) (G 3) (G 4) (G 5) (G 6) (G 7) (G 8) (G 9) (G 10) nC nD nR nu 8193 0 1 (F 6) (-1) (F 8) (G 14)).2.2.1)) 7 ((lf_Se_leastOf_9 (G 0) (G 1) (G 2) (G 3) (G 4) (G 5) (G 6) (G 7) (G 8) (G 9) (G 10) nC nD nR nu 8193 0 1 (F 6) (-1) (F 8) (G 14)).2.2.2.1)) 8 ((lf_Se_leastOf_9 (G 0) (G 1) (G 2) (G 3) (G 4) (G 5) (G 6) (G 7) (G 8) (G 9) (G 10) nC nD nR nu 8193 0 1 (F 6) (-1) (F 8) (G 14)).2.2.2.2.1)) 7 = (lf_Se_leastOf_9 (G 0) (G 1) (G 2) (G 3) (G 4) (G 5) (G 6) (G 7) (G 8) (G 9) (G 10) nC nD nR nu 8193 0 1 (F 6) (-1) (F 8) (G 14)).2.2.2.1 := by rw [pk_un (k := 8) (j := 7) (by decide), pk_us]
    refine va_get (D := D) (ci := 6) (v := .int ((lf_Se_leastOf_9 (G 0) (G 1) (G 2) (G 3) (G 4) (G 5) (G 6) (G 7) (G 8) (G 9) (G 10) nC nD nR nu 8193 0 1 (F 6) (-1) (F 8) (G 14)).2.2.2.1)) (C := RSe) (T := TSe) (N := 6) hx hb hts inSe_ hown hK hP 5 rfl hcl.2.2.2.2.2.1 4 (by decide) f19 (fun _ h9 => h9) (congrArg (fun z => some (Value.int z)) ef86) dSe_leastOf_86 ?_
    have em : mr_Se_leastOf (F 6) (F 8) (G 0) (G 1) (G 2) (G 3) (G 4) (G 5) (G 6) (G 7) (G 8) (G 9) (G 10) (G 14) nC nD nR nu = ((lf_Se_leastOf_9 (G 0) (G 1) (G 2) (G 3) (G 4) (G 5) (G 6) (G 7) (G 8) (G 9) (G 10) nC nD nR nu 8193 0 1 (F 6) (-1) (F 8) (G 14)).2.2.2.1, (lf_Se_leastOf_9 (G 0) (G 1) (G 2) (G 3) (G 4) (G 5) (G 6) (G 7) (G 8) (G 9) (G 10) nC nD nR nu 8193 0 1 (F 6) (-1) (F 8) (G 14)).2.2.1, (lf_Se_leastOf_9 (G 0) (G 1) (G 2) (G 3) (G 4) (G 5) (G 6) (G 7) (G 8) (G 9) (G 10) nC nD nR nu 8193 0 1 (F 6) (-1) (F 8) (G 14)).2.2.2.1, (lf_Se_leastOf_9 (G 0) (G 1) (G 2) (G 3) (G 4) (G 5) (G 6) (G 7) (G 8) (G 9) (G 10) nC nD nR nu 8193 0 1 (F 6) (-1) (F 8) (G 14)).2.2.2.2.1, (lf_Se_leastOf_9 (G 0) (G 1) (G 2) (G 3) (G 4) (G 5) (G 6) (G 7) (G 8) (G 9) (G 10) nC nD nR nu 8193 0 1 (F 6) (-1) (F 8) (G 14)).2.2.2.2.2) := by rw [mr_Se_leastOf]
    exact hret _ _ _ _ _ _ (by simp only [em]) (by simp only [em]) hP hD hS dSe_leastOf_89
  have loop9 : ∀ (N9 : Nat) (sx : Int32) (sn : Nat) (rs : Int32) (be : Int32) (le : Int32) (r : Nat → Int32), bI (G 0) nC r sx → 1 ≤ sn ∧ sn ≤ 8193 → 8193 - sn < N9 → lf_Se_leastOf_9 (G 0) (G 1) (G 2) (G 3) (G 4) (G 5) (G 6) (G 7) (G 8) (G 9) (G 10) nC nD nR nu 8193 0 1 (F 6) (-1) (F 8) (G 14) = lf_Se_leastOf_9 (G 0) (G 1) (G 2) (G 3) (G 4) (G 5) (G 6) (G 7) (G 8) (G 9) (G 10) nC nD nR nu N9 sx sn rs be le r → ∀ (H : Heap) (locs : List Loc), va_P D cl (cW oa ca ck (upd (upd (upd F 6 rs) 7 be) 8 le) (va_up G 14 r)) H → va_D A (cW oa ca ck (upd (upd (upd F 6 rs) 7 be) 8 le) (va_up G 14 r)) → va_S A H0 H locs → ∀ (ls : Array Slot), lv_has ls 5 [(3, .int (nI sn)), (2, .int sx), (0, .ref (oa 5)), (1, .int (nI nu))] → W p l e ({ frames := 4, cells := 0, slots := 0, locals := 97 } : Room) s m args below meth c H locs 0 0 Q (F0 m 9 ls []) := by
    intro N9
    induction N9 with
    | zero => intro sx sn rs be le r hI hsn hm9; exact absurd hm9 (Nat.not_lt_zero _)
    | succ N9 ih9 =>
      intro sx sn rs be le r hI hsn hm9 hR9 H locs hP hD hS ls hl
      refine lv_iload_n hx hb dSe_leastOf_9 rfl (lv_at hl 1 rfl) ?_
      refine lv_iconst (v := (-1)) hx hb dSe_leastOf_10 (by decide) ?_
      refine lv_icmp_eq (tgt := 85) hx hb dSe_leastOf_11 (by decide) (fun c11 => ?_) (fun c11 => ?_)
      · have er9 : lf_Se_leastOf_9 (G 0) (G 1) (G 2) (G 3) (G 4) (G 5) (G 6) (G 7) (G 8) (G 9) (G 10) nC nD nR nu (N9 + 1) sx sn rs be le r = (sx, sn, rs, be, le, r) := by rw [lf_Se_leastOf_9, if_pos c11]
        rw [er9] at hR9
        exact ex9 H locs (by rw [hR9]; exact hP) (by rw [hR9]; exact hD) hS ls (by rw [hR9]; exact lv_sub hl [0, 1, 2, 3] rfl)
      · obtain ⟨s9, hs9, es9, hr9⟩ := ix_ne hI c11
        have xs : sx = nI sx.toNatClampNeg ∧ sx.toNatClampNeg < nC + 1 := ix_cl ⟨s9, by omega, es9⟩ (by omega)
        have xt : s9 = sx.toNatClampNeg := by rw [es9]; exact (nI_clamp (by omega)).symm
        have xs2 := xs.2
        refine lv_iload_n hx hb dSe_leastOf_14 rfl (lv_at hl 0 rfl) ?_
        refine lv_sipush (v := 8192) hx hb dSe_leastOf_15 (by decide) ?_
        refine lv_icmp_gt (tgt := 85) hx hb dSe_leastOf_18 (by decide) (fun c18 => ?_) (fun c18 => ?_)
        · have n18 : 8192 < sn := (nI_ltI (a := 8192) (b := sn) (by omega) (by omega)).mp c18
          have er9 : lf_Se_leastOf_9 (G 0) (G 1) (G 2) (G 3) (G 4) (G 5) (G 6) (G 7) (G 8) (G 9) (G 10) nC nD nR nu (N9 + 1) sx sn rs be le r = (sx, sn, rs, be, le, r) := by rw [lf_Se_leastOf_9, if_neg c11, if_pos c18]
          rw [er9] at hR9
          exact ex9 H locs (by rw [hR9]; exact hP) (by rw [hR9]; exact hD) hS ls (by rw [hR9]; exact lv_sub hl [0, 1, 2, 3] rfl)
        · have n18 : ¬ 8192 < sn := fun h9 => c18 ((nI_ltI (a := 8192) (b := sn) (by omega) (by omega)).mpr h9)
          refine lv_aload_n hx hb dSe_leastOf_21 rfl (lv_at hl 2 rfl) ?_
          refine lv_iload_n hx hb dSe_leastOf_22 rfl (lv_at hl 0 rfl) ?_
          refine va_put (D := D) (ci := 6) (fs := cWl5 oa ca (upd (upd (upd F 6 rs) 7 be) 8 le)) (v := .int (nI sn)) (ty := .int) (C := RSe) (T := TSe) (N := 6) hx hb hts inSe_ tySe tySe_ok nmSe hown hK hP hD hS 5 rfl hcl.2.2.2.2.2.1 3 (by decide) f15 (fun _ h9 => h9) rfl (by decide +kernel) rfl rfl (Nat.le_of_ble_eq_true rfl) dSe_leastOf_23 (fun H locs hP hD hS => ?_)
          rw [cW_f6, upd_sw (i := 8) (j := 6) (by decide), upd_sw (i := 7) (j := 6) (by decide), upd_ow] at hP hD
          refine lv_aload_n hx hb dSe_leastOf_26 rfl (lv_at hl 2 rfl) ?_
          refine lv_iload_n hx hb dSe_leastOf_27 rfl (lv_at hl 3 rfl) ?_
          refine lv_iload_n hx hb dSe_leastOf_28 rfl (lv_at hl 1 rfl) ?_
          refine wt_i (r := nI (sx.toNatClampNeg)) (by exact xs.1) ?_
          refine ro_callV (r := (.int (mr_Se_isPassedBy be le (G 2) (G 3) (G 4) (G 5) (G 6) (G 7) (G 8) (G 9) r nR nu (sx.toNatClampNeg)))) (As := [.int (nI nu), .int (nI (sx.toNatClampNeg))]) (rest := []) Sx (c_Se_isPassedBy l D cl hcl oa ca ck (upd (upd (upd F 6 (nI sn)) 7 be) 8 le) (va_up G 14 r) hP nR nu (sx.toNatClampNeg) mA mB mQ k3 hR hnu (by omega)) (cwV 2 hts gSe_leastOf_Se_isPassedBy rfl rfl rfl (by decide +kernel) ⟨Nat.le_of_ble_eq_true rfl, Nat.le_of_ble_eq_true rfl⟩) hK (va_recv hK hP (ci := 6) (q0 := 5) hcl.2.2.2.2.2.1 rfl) rfl hl.1 rfl (Nat.le_of_ble_eq_true rfl) dSe_leastOf_29 ⟨Nat.zero_le _, Nat.zero_le _⟩ ?_
          refine lv_istore (lv' := [(4, .int (mr_Se_isPassedBy be le (G 2) (G 3) (G 4) (G 5) (G 6) (G 7) (G 8) (G 9) r nR nu (sx.toNatClampNeg))), (3, .int (nI sn)), (2, .int sx), (0, .ref (oa 5)), (1, .int (nI nu))]) hx hb dSe_leastOf_32 hl (by decide) rfl (fun ls hl => ?_)
          refine lv_iload hx hb dSe_leastOf_34 (lv_at hl 0 rfl) ?_
          refine lv_if_ne (tgt := 63) hx hb dSe_leastOf_36 (by decide) (fun c36 => ?_) (fun c36 => ?_)
          · refine lv_iload hx hb dSe_leastOf_63 (lv_at hl 0 rfl) ?_
            refine lv_if_ne (tgt := 73) hx hb dSe_leastOf_65 (by decide) (fun _ => ?_) (fun h9 => absurd h9 c36)
            refine lv_aload_n hx hb dSe_leastOf_73 rfl (lv_at hl 3 rfl) ?_
            refine lv_iload_n hx hb dSe_leastOf_74 rfl (lv_at hl 2 rfl) ?_
            refine wt_i (r := nI (sx.toNatClampNeg)) (by exact xs.1) ?_
            refine ww_callV (r := (some (.int ((mr_Se_goBehind (G 0) r (sx.toNatClampNeg)).1)))) (w' := cW oa ca ck (upd (upd (upd F 6 (nI sn)) 7 be) 8 le) (va_up (va_up G 14 r) 14 ((mr_Se_goBehind (G 0) r (sx.toNatClampNeg)).2))) (As := [.int (nI (sx.toNatClampNeg))]) (rest := []) Sx (c_Se_goBehind l D cl hcl oa ca ck (upd (upd (upd F 6 (nI sn)) 7 be) 8 le) (va_up G 14 r) hP (hD.weaken (fun _ _ _ _ => trivial)) (sx.toNatClampNeg) (by omega)) (cwV 1 hts gSe_leastOf_Se_goBehind rfl rfl rfl (by decide +kernel) ⟨Nat.le_of_ble_eq_true rfl, Nat.le_of_ble_eq_true rfl⟩) hK (va_recv hK hP (ci := 6) (q0 := 5) hcl.2.2.2.2.2.1 rfl) rfl hl.1 rfl (Nat.le_of_ble_eq_true rfl) dSe_leastOf_75 ⟨Nat.zero_le _, Nat.zero_le _⟩ hD hS hA (fun H locs hP hD hS => ?_)
            rw [vup_ow] at hP hD
            have xn : bI (G 0) nC ((mr_Se_goBehind (G 0) r (sx.toNatClampNeg)).2) ((mr_Se_goBehind (G 0) r (sx.toNatClampNeg)).1) := by have q := gb_ok s0 hC hs9 hr9; rw [xt] at q; exact q
            refine lv_istore_n (lv' := [(2, .int ((mr_Se_goBehind (G 0) r (sx.toNatClampNeg)).1)), (4, .int (mr_Se_isPassedBy be le (G 2) (G 3) (G 4) (G 5) (G 6) (G 7) (G 8) (G 9) r nR nu (sx.toNatClampNeg))), (3, .int (nI sn)), (0, .ref (oa 5)), (1, .int (nI nu))]) hx hb dSe_leastOf_78 rfl hl (by decide) rfl (fun ls hl => ?_)
            refine lv_iinc (v := nI (sn + 1)) (lv' := [(3, .int (nI (sn + 1))), (2, .int ((mr_Se_goBehind (G 0) r (sx.toNatClampNeg)).1)), (4, .int (mr_Se_isPassedBy be le (G 2) (G 3) (G 4) (G 5) (G 6) (G 7) (G 8) (G 9) r nR nu (sx.toNatClampNeg))), (0, .ref (oa 5)), (1, .int (nI nu))]) hx hb dSe_leastOf_79 hl (k := 2) rfl (by exact ii_1 sn) (by decide) rfl (fun ls hl => ?_)
            refine lv_goto (tgt := 9) hx hb dSe_leastOf_82 (by decide) ?_
            have er9 : lf_Se_leastOf_9 (G 0) (G 1) (G 2) (G 3) (G 4) (G 5) (G 6) (G 7) (G 8) (G 9) (G 10) nC nD nR nu (N9 + 1) sx sn rs be le r = lf_Se_leastOf_9 (G 0) (G 1) (G 2) (G 3) (G 4) (G 5) (G 6) (G 7) (G 8) (G 9) (G 10) nC nD nR nu N9 ((mr_Se_goBehind (G 0) r (sx.toNatClampNeg)).1) (sn + 1) (nI sn) be le ((mr_Se_goBehind (G 0) r (sx.toNatClampNeg)).2) := by rw [lf_Se_leastOf_9, if_neg c11, if_neg c18, if_neg c36]
            exact ih9 ((mr_Se_goBehind (G 0) r (sx.toNatClampNeg)).1) (sn + 1) (nI sn) be le ((mr_Se_goBehind (G 0) r (sx.toNatClampNeg)).2) (by first | exact xd | exact xn) (by omega) (by omega) (hR9.trans er9) H locs hP hD hS ls (lv_sub hl [0, 1, 3, 4] rfl)
          · refine lv_iload_n hx hb dSe_leastOf_39 rfl (lv_at hl 2 rfl) ?_
            refine wt_i (r := nI (sx.toNatClampNeg)) (by exact xs.1) ?_
            refine lv_aload_n hx hb dSe_leastOf_40 rfl (lv_at hl 3 rfl) ?_
            refine va_get (D := D) (ci := 6) (v := .ref (oa 1)) (C := RSe) (T := TSe) (N := 6) hx hb hts inSe_ hown hK hP 5 rfl hcl.2.2.2.2.2.1 0 (by decide) f25 (fun _ h9 => h9) rfl dSe_leastOf_41 ?_
            refine va_get (D := D) (ci := 2) (v := .int (F 0)) (C := RSh) (T := TSh) (N := 4) hx hb hts inSh_ hown hK hP 1 rfl hcl.2.1 2 (by decide) f37 (fun _ h9 => h9) rfl dSe_leastOf_44 ?_
            refine wt_i k0 ?_
            refine lv_icmp_ge (tgt := 63) hx hb dSe_leastOf_47 (by decide) (fun c47 => ?_) (fun c47 => ?_)
            · have n47 : nC ≤ (sx.toNatClampNeg) := (nI_leI (a := nC) (b := (sx.toNatClampNeg)) (by omega) (by omega)).mp c47
              refine lv_iload hx hb dSe_leastOf_63 (lv_at hl 0 rfl) ?_
              refine lv_if_ne (tgt := 73) hx hb dSe_leastOf_65 (by decide) (fun h9 => absurd c36 h9) (fun _ => ?_)
              refine lv_aload_n hx hb dSe_leastOf_68 rfl (lv_at hl 3 rfl) ?_
              refine lv_iload_n hx hb dSe_leastOf_69 rfl (lv_at hl 4 rfl) ?_
              refine ww_callV (r := none) (w' := cW oa ca ck (upd (upd (upd (upd (upd F 6 (nI sn)) 7 be) 8 le) 7 ((mr_Se_keepRow (G 1) (G 10) r nC nu).1)) 8 ((mr_Se_keepRow (G 1) (G 10) r nC nu).2)) (va_up G 14 r)) (As := [.int (nI nu)]) (rest := []) Sx (c_Se_keepRow l D cl hcl oa ca ck (upd (upd (upd F 6 (nI sn)) 7 be) 8 le) (va_up G 14 r) hP (hD.weaken (fun _ _ _ _ => trivial)) nC nu k0 hC hnu (do_lt s0 s1 hmp hN (fun c hc => hr9 c (by omega)))) (cwV 1 hts gSe_leastOf_Se_keepRow rfl rfl rfl (by decide +kernel) ⟨Nat.le_of_ble_eq_true rfl, Nat.le_of_ble_eq_true rfl⟩) hK (va_recv hK hP (ci := 6) (q0 := 5) hcl.2.2.2.2.2.1 rfl) rfl hl.1 rfl (Nat.le_of_ble_eq_true rfl) dSe_leastOf_70 ⟨Nat.zero_le _, Nat.zero_le _⟩ hD hS hA (fun H locs hP hD hS => ?_)
              rw [upd_sw (i := 8) (j := 7) (by decide), upd_ow, upd_ow] at hP hD
              refine lv_aload_n hx hb dSe_leastOf_73 rfl (lv_at hl 3 rfl) ?_
              refine lv_iload_n hx hb dSe_leastOf_74 rfl (lv_at hl 2 rfl) ?_
              refine wt_i (r := nI (sx.toNatClampNeg)) (by exact xs.1) ?_
              refine ww_callV (r := (some (.int ((mr_Se_goBehind (G 0) r (sx.toNatClampNeg)).1)))) (w' := cW oa ca ck (upd (upd (upd F 6 (nI sn)) 7 ((mr_Se_keepRow (G 1) (G 10) r nC nu).1)) 8 ((mr_Se_keepRow (G 1) (G 10) r nC nu).2)) (va_up (va_up G 14 r) 14 ((mr_Se_goBehind (G 0) r (sx.toNatClampNeg)).2))) (As := [.int (nI (sx.toNatClampNeg))]) (rest := []) Sx (c_Se_goBehind l D cl hcl oa ca ck (upd (upd (upd F 6 (nI sn)) 7 ((mr_Se_keepRow (G 1) (G 10) r nC nu).1)) 8 ((mr_Se_keepRow (G 1) (G 10) r nC nu).2)) (va_up G 14 r) hP (hD.weaken (fun _ _ _ _ => trivial)) (sx.toNatClampNeg) (by omega)) (cwV 1 hts gSe_leastOf_Se_goBehind rfl rfl rfl (by decide +kernel) ⟨Nat.le_of_ble_eq_true rfl, Nat.le_of_ble_eq_true rfl⟩) hK (va_recv hK hP (ci := 6) (q0 := 5) hcl.2.2.2.2.2.1 rfl) rfl hl.1 rfl (Nat.le_of_ble_eq_true rfl) dSe_leastOf_75 ⟨Nat.zero_le _, Nat.zero_le _⟩ hD hS hA (fun H locs hP hD hS => ?_)
              rw [vup_ow] at hP hD
              have xn : bI (G 0) nC ((mr_Se_goBehind (G 0) r (sx.toNatClampNeg)).2) ((mr_Se_goBehind (G 0) r (sx.toNatClampNeg)).1) := by have q := gb_ok s0 hC hs9 hr9; rw [xt] at q; exact q
              refine lv_istore_n (lv' := [(2, .int ((mr_Se_goBehind (G 0) r (sx.toNatClampNeg)).1)), (4, .int (mr_Se_isPassedBy be le (G 2) (G 3) (G 4) (G 5) (G 6) (G 7) (G 8) (G 9) r nR nu (sx.toNatClampNeg))), (3, .int (nI sn)), (0, .ref (oa 5)), (1, .int (nI nu))]) hx hb dSe_leastOf_78 rfl hl (by decide) rfl (fun ls hl => ?_)
              refine lv_iinc (v := nI (sn + 1)) (lv' := [(3, .int (nI (sn + 1))), (2, .int ((mr_Se_goBehind (G 0) r (sx.toNatClampNeg)).1)), (4, .int (mr_Se_isPassedBy be le (G 2) (G 3) (G 4) (G 5) (G 6) (G 7) (G 8) (G 9) r nR nu (sx.toNatClampNeg))), (0, .ref (oa 5)), (1, .int (nI nu))]) hx hb dSe_leastOf_79 hl (k := 2) rfl (by exact ii_1 sn) (by decide) rfl (fun ls hl => ?_)
              refine lv_goto (tgt := 9) hx hb dSe_leastOf_82 (by decide) ?_
              have er9 : lf_Se_leastOf_9 (G 0) (G 1) (G 2) (G 3) (G 4) (G 5) (G 6) (G 7) (G 8) (G 9) (G 10) nC nD nR nu (N9 + 1) sx sn rs be le r = lf_Se_leastOf_9 (G 0) (G 1) (G 2) (G 3) (G 4) (G 5) (G 6) (G 7) (G 8) (G 9) (G 10) nC nD nR nu N9 ((mr_Se_goBehind (G 0) r (sx.toNatClampNeg)).1) (sn + 1) (nI sn) ((mr_Se_keepRow (G 1) (G 10) r nC nu).1) ((mr_Se_keepRow (G 1) (G 10) r nC nu).2) ((mr_Se_goBehind (G 0) r (sx.toNatClampNeg)).2) := by rw [lf_Se_leastOf_9, if_neg c11, if_neg c18, if_pos c36, if_pos c47]
              exact ih9 ((mr_Se_goBehind (G 0) r (sx.toNatClampNeg)).1) (sn + 1) (nI sn) ((mr_Se_keepRow (G 1) (G 10) r nC nu).1) ((mr_Se_keepRow (G 1) (G 10) r nC nu).2) ((mr_Se_goBehind (G 0) r (sx.toNatClampNeg)).2) (by first | exact xd | exact xn) (by omega) (by omega) (hR9.trans er9) H locs hP hD hS ls (lv_sub hl [0, 1, 3, 4] rfl)
            · have n47 : ¬ nC ≤ (sx.toNatClampNeg) := fun h9 => c47 ((nI_leI (a := nC) (b := (sx.toNatClampNeg)) (by omega) (by omega)).mpr h9)
              have xd : bI (G 0) nC (upd r sx.toNatClampNeg 0) (sx + 1) := by have q := (b_down hC s0 (s := s9) (by omega) hr9).1; rw [← es9, xt] at q; exact q
              refine lv_aload_n hx hb dSe_leastOf_50 rfl (lv_at hl 3 rfl) ?_
              refine va_get (D := D) (ci := 6) (v := .ref (ca 14)) (C := RSe) (T := TSe) (N := 6) hx hb hts inSe_ hown hK hP 5 rfl hcl.2.2.2.2.2.1 2 (by decide) f9 (fun _ h9 => h9) rfl dSe_leastOf_51 ?_
              refine lv_iload_n hx hb dSe_leastOf_54 rfl (lv_at hl 2 rfl) ?_
              refine wt_i (r := nI (sx.toNatClampNeg)) (by exact xs.1) ?_
              refine lv_iconst (v := 0) hx hb dSe_leastOf_55 (by decide) ?_
              have sd56 : (sx.toNatClampNeg) < 8 := by omega
              have eg56 : (va_up G 14 r) 14 = r := by rw [vup_us]
              refine wn_iast (f := r) hx hb hK hP hD hS 22 14 (congrArg (fun z : Nat → Int32 => (some ((ca 14), (.inl ((ck 14), 8, .inl z) : va_E)) : Option (Nat × va_E))) eg56) rfl (sx.toNatClampNeg) rfl sd56 (by decide) dSe_leastOf_56 (fun H locs hP hD hS => ?_)
              rw [cW_g14, vup_ow] at hP hD
              refine lv_iinc (v := sx + 1) (lv' := [(2, .int (sx + 1)), (4, .int (mr_Se_isPassedBy be le (G 2) (G 3) (G 4) (G 5) (G 6) (G 7) (G 8) (G 9) r nR nu (sx.toNatClampNeg))), (3, .int (nI sn)), (0, .ref (oa 5)), (1, .int (nI nu))]) hx hb dSe_leastOf_57 hl (k := 2) rfl (by exact ii_x _) (by decide) rfl (fun ls hl => ?_)
              refine lv_goto (tgt := 79) hx hb dSe_leastOf_60 (by decide) ?_
              refine lv_iinc (v := nI (sn + 1)) (lv' := [(3, .int (nI (sn + 1))), (2, .int (sx + 1)), (4, .int (mr_Se_isPassedBy be le (G 2) (G 3) (G 4) (G 5) (G 6) (G 7) (G 8) (G 9) r nR nu (sx.toNatClampNeg))), (0, .ref (oa 5)), (1, .int (nI nu))]) hx hb dSe_leastOf_79 hl (k := 2) rfl (by exact ii_1 sn) (by decide) rfl (fun ls hl => ?_)
              refine lv_goto (tgt := 9) hx hb dSe_leastOf_82 (by decide) ?_
              have er9 : lf_Se_leastOf_9 (G 0) (G 1) (G 2) (G 3) (G 4) (G 5) (G 6) (G 7) (G 8) (G 9) (G 10) nC nD nR nu (N9 + 1) sx sn rs be le r = lf_Se_leastOf_9 (G 0) (G 1) (G 2) (G 3) (G 4) (G 5) (G 6) (G 7) (G 8) (G 9) (G 10) nC nD nR nu N9 (sx + 1) (sn + 1) (nI sn) be le (upd r (sx.toNatClampNeg) 0) := by rw [lf_Se_leastOf_9, if_neg c11, if_neg c18, if_pos c36, if_neg c47]
              exact ih9 (sx + 1) (sn + 1) (nI sn) be le (upd r (sx.toNatClampNeg) 0) (by first | exact xd | exact xn) (by omega) (by omega) (hR9.trans er9) H locs hP hD hS ls (lv_sub hl [0, 1, 3, 4] rfl)
  exact loop9 8193 0 1 (F 6) (-1) (F 8) (G 14) (by exact Or.inr ⟨0, Nat.zero_le _, rfl, fun c h => absurd h (Nat.not_lt_zero _)⟩) (by omega) (by omega) rfl H locs hP hD hS ls (lv_sub hl [0, 1, 2, 3] rfl)
def lf_Se_boundFor_3 (g0 : Nat → Int32) (g1 : Nat → Int32) (nu : Nat) (st : Nat) (d : Int32) (i0 : (Nat → Int32)) : Nat → (Nat → Int32)
  | 0 => i0
  | k3 + 1 => (upd (lf_Se_boundFor_3 g0 g1 nu st d i0 k3) k3 (mr_Sh_digit g0 g1 d k3))
def mr_Se_boundFor (g0 : Nat → Int32) (g1 : Nat → Int32) (g2 : Nat → Int32) (g3 : Nat → Int32) (g4 : Nat → Int32) (g5 : Nat → Int32) (g6 : Nat → Int32) (g7 : Nat → Int32) (g14 : Nat → Int32) (nu : Nat) (st : Nat) (d : Int32) : Int32 × (Nat → Int32) := (mr_Bo_boundOf g2 g3 g4 g5 g6 g7 (lf_Se_boundFor_3 g0 g1 nu st d g14 st) nu st, lf_Se_boundFor_3 g0 g1 nu st d g14 st)
set_option maxHeartbeats 4000000 in
set_option maxRecDepth 100000 in
theorem c_Se_boundFor (l : Launch) (D : va_G) (cl : List vw_C) (hcl : cOK cl) (oa ca : Nat → Nat) (ck : Nat → ClassId) (F : Nat → Int32) (G : Nat → Nat → Int32) {H0 : Heap} (hP : va_P D cl (cW oa ca ck F G) H0) (hD : va_D (fun _ => True) (cW oa ca ck F G)) (nu : Nat) (st : Nat) (d : Int32) (mA : ∀ s, s < 440 → ∃ x : Nat, x < 8 ∧ G 2 s = nI x) (mB : ∀ s, s < 440 → G 4 s = -1 ∨ ∃ x : Nat, x < 8 ∧ G 4 s = nI x) (hnu : nu < 4) (hst : st ≤ 8) (hq : ∃ t : Nat, t < 101 ∧ G 6 nu = nI t) : ww_Met l ySe_boundFor wsSe_boundFor ({ frames := 2, cells := 0, slots := 0, locals := 52 } : Room) D cl (cT ck) H0 [.ref (oa 5), .int (nI nu), .int d, .int (nI st)] (cW oa ca ck F G) (some (.int ((mr_Se_boundFor (G 0) (G 1) (G 2) (G 3) (G 4) (G 5) (G 6) (G 7) (G 14) nu st d).1))) (cW oa ca ck F (va_up G 14 ((mr_Se_boundFor (G 0) (G 1) (G 2) (G 3) (G 4) (G 5) (G 6) (G 7) (G 14) nu st d).2))) := by
  refine ww_metI (by decide) rfl (Nat.le_of_ble_eq_true rfl) hP hD ?_
  intro p e s m args below meth c Q A Sx hK hP hD hS hA ls hl hret
  obtain ⟨hx, hb, hml, hown, hts⟩ := id Sx
  have hl : lv_has ls 5 [(0, .ref (oa 5)), (1, .int (nI nu)), (2, .int d), (3, .int (nI st))] := hl
  obtain ⟨H, eH⟩ : ∃ H : Heap, H = H0 := ⟨_, rfl⟩
  obtain ⟨locs, eL⟩ : ∃ L : List Loc, L = [] := ⟨_, rfl⟩
  have hP : va_P D cl (cW oa ca ck F G) H := by rw [eH]; exact hP
  have hS : va_S A H0 H locs := by rw [eH, eL]; exact hS
  rw [show W p l e ({ frames := 2, cells := 0, slots := 0, locals := 52 } : Room) s m args below meth c H0 [] 0 0 Q (F0 m 0 ls []) = W p l e ({ frames := 2, cells := 0, slots := 0, locals := 52 } : Room) s m args below meth c H locs 0 0 Q (F0 m 0 ls []) by rw [eH, eL]]
  clear eH eL
  have f29 := hts _ (List.mem_cons_of_mem _ mfSe_29)
  have inSe_ : ∀ w ∈ wsSe0, w ∈ wsSe_boundFor := fun w h => List.mem_cons_of_mem _ (inSe_all w h)
  have f9 := hts _ (List.mem_cons_of_mem _ mfSe_9)
  have f25 := hts _ (List.mem_cons_of_mem _ mfSe_25)
  refine lv_iconst (v := 0) hx hb dSe_boundFor_0 (by decide) ?_
  refine lv_istore (lv' := [(4, .int 0), (0, .ref (oa 5)), (1, .int (nI nu)), (2, .int d), (3, .int (nI st))]) hx hb dSe_boundFor_1 hl (by decide) rfl (fun ls hl => ?_)
  have loop3 : ∀ (N3 k3 : Nat), k3 ≤ st → st - k3 < N3 → ∀ (H : Heap) (locs : List Loc), va_P D cl (cW oa ca ck F (va_up G 14 (lf_Se_boundFor_3 (G 0) (G 1) nu st d (G 14) k3))) H → va_D A (cW oa ca ck F (va_up G 14 (lf_Se_boundFor_3 (G 0) (G 1) nu st d (G 14) k3))) → va_S A H0 H locs → ∀ (ls : Array Slot), lv_has ls 5 [(4, .int (nI k3)), (0, .ref (oa 5)), (1, .int (nI nu)), (2, .int d), (3, .int (nI st))] → W p l e ({ frames := 2, cells := 0, slots := 0, locals := 52 } : Room) s m args below meth c H locs 0 0 Q (F0 m 3 ls []) := by
    intro N3
    induction N3 with
    | zero => intro k3 hk3 hm3; exact absurd hm3 (Nat.not_lt_zero _)
    | succ N3 ih3 =>
      intro k3 hk3 hm3  H locs hP hD hS ls hl
      refine lv_iload hx hb dSe_boundFor_3 (lv_at hl 0 rfl) ?_
      refine lv_iload_n hx hb dSe_boundFor_5 rfl (lv_at hl 4 rfl) ?_
      refine lv_icmp_ge (tgt := 32) hx hb dSe_boundFor_6 (by decide) (fun c6 => ?_) (fun c6 => ?_)
      · have n6 : st ≤ k3 := (nI_leI (a := st) (b := k3) (by omega) (by omega)).mp c6
        have hx3 : st = k3 := by omega
        subst hx3
        refine lv_aload_n hx hb dSe_boundFor_32 rfl (lv_at hl 1 rfl) ?_
        refine va_get (D := D) (ci := 6) (v := .ref (oa 3)) (C := RSe) (T := TSe) (N := 6) hx hb hts inSe_ hown hK hP 5 rfl hcl.2.2.2.2.2.1 1 (by decide) f29 (fun _ h9 => h9) rfl dSe_boundFor_33 ?_
        refine lv_iload_n hx hb dSe_boundFor_36 rfl (lv_at hl 2 rfl) ?_
        refine lv_aload_n hx hb dSe_boundFor_37 rfl (lv_at hl 1 rfl) ?_
        refine va_get (D := D) (ci := 6) (v := .ref (ca 14)) (C := RSe) (T := TSe) (N := 6) hx hb hts inSe_ hown hK hP 5 rfl hcl.2.2.2.2.2.1 2 (by decide) f9 (fun _ h9 => h9) rfl dSe_boundFor_38 ?_
        refine lv_iload_n hx hb dSe_boundFor_41 rfl (lv_at hl 4 rfl) ?_
        refine ro_callV (r := (.int (mr_Bo_boundOf (G 2) (G 3) (G 4) (G 5) (G 6) (G 7) (lf_Se_boundFor_3 (G 0) (G 1) nu st d (G 14) st) nu st))) (As := [.int (nI nu), .ref (ca 14), .int (nI st)]) (rest := []) Sx (c_Bo_boundOf l D cl hcl oa ca ck F (va_up G 14 (lf_Se_boundFor_3 (G 0) (G 1) nu st d (G 14) st)) hP nu st mA mB hnu hst hq) (cwV 3 hts gSe_boundFor_Bo_boundOf rfl rfl rfl (by decide +kernel) ⟨Nat.le_of_ble_eq_true rfl, Nat.le_of_ble_eq_true rfl⟩) hK (va_recv hK hP (ci := 4) (q0 := 3) hcl.2.2.2.1 rfl) rfl hl.1 rfl (Nat.le_of_ble_eq_true rfl) dSe_boundFor_42 ⟨Nat.zero_le _, Nat.zero_le _⟩ ?_
        have em : mr_Se_boundFor (G 0) (G 1) (G 2) (G 3) (G 4) (G 5) (G 6) (G 7) (G 14) nu st d = (mr_Bo_boundOf (G 2) (G 3) (G 4) (G 5) (G 6) (G 7) (lf_Se_boundFor_3 (G 0) (G 1) nu st d (G 14) st) nu st, lf_Se_boundFor_3 (G 0) (G 1) nu st d (G 14) st) := by rw [mr_Se_boundFor]
        exact hret _ _ _ _ _ _ (by simp only [em]) (by simp only [em]) hP hD hS dSe_boundFor_45
      · have n6 : ¬ st ≤ k3 := fun h9 => c6 ((nI_leI (a := st) (b := k3) (by omega) (by omega)).mpr h9)
        refine lv_aload_n hx hb dSe_boundFor_9 rfl (lv_at hl 1 rfl) ?_
        refine va_get (D := D) (ci := 6) (v := .ref (ca 14)) (C := RSe) (T := TSe) (N := 6) hx hb hts inSe_ hown hK hP 5 rfl hcl.2.2.2.2.2.1 2 (by decide) f9 (fun _ h9 => h9) rfl dSe_boundFor_10 ?_
        refine lv_iload hx hb dSe_boundFor_13 (lv_at hl 0 rfl) ?_
        refine lv_aload_n hx hb dSe_boundFor_15 rfl (lv_at hl 1 rfl) ?_
        refine va_get (D := D) (ci := 6) (v := .ref (oa 1)) (C := RSe) (T := TSe) (N := 6) hx hb hts inSe_ hown hK hP 5 rfl hcl.2.2.2.2.2.1 0 (by decide) f25 (fun _ h9 => h9) rfl dSe_boundFor_16 ?_
        refine lv_iload_n hx hb dSe_boundFor_19 rfl (lv_at hl 3 rfl) ?_
        refine lv_iload hx hb dSe_boundFor_20 (lv_at hl 0 rfl) ?_
        refine ro_callV (r := (.int (mr_Sh_digit (G 0) (G 1) d k3))) (As := [.int d, .int (nI k3)]) (rest := [.int (nI k3), .ref (ca 14)]) Sx (c_Sh_digit l D cl hcl oa ca ck F (va_up G 14 (lf_Se_boundFor_3 (G 0) (G 1) nu st d (G 14) k3)) hP d k3 (by omega)) (cwV 2 hts gSe_boundFor_Sh_digit rfl rfl rfl (by decide +kernel) ⟨Nat.le_of_ble_eq_true rfl, Nat.le_of_ble_eq_true rfl⟩) hK (va_recv hK hP (ci := 2) (q0 := 1) hcl.2.1 rfl) rfl hl.1 rfl (Nat.le_of_ble_eq_true rfl) dSe_boundFor_22 ⟨Nat.zero_le _, Nat.zero_le _⟩ ?_
        have sd25 : k3 < 8 := by omega
        have eg25 : (va_up G 14 (lf_Se_boundFor_3 (G 0) (G 1) nu st d (G 14) k3)) 14 = lf_Se_boundFor_3 (G 0) (G 1) nu st d (G 14) k3 := by rw [vup_us]
        refine wn_iast (f := lf_Se_boundFor_3 (G 0) (G 1) nu st d (G 14) k3) hx hb hK hP hD hS 22 14 (congrArg (fun z : Nat → Int32 => (some ((ca 14), (.inl ((ck 14), 8, .inl z) : va_E)) : Option (Nat × va_E))) eg25) rfl k3 rfl sd25 (by decide) dSe_boundFor_25 (fun H locs hP hD hS => ?_)
        rw [cW_g14, vup_ow] at hP hD
        refine lv_iinc (v := nI (k3 + 1)) (lv' := [(4, .int (nI (k3 + 1))), (0, .ref (oa 5)), (1, .int (nI nu)), (2, .int d), (3, .int (nI st))]) hx hb dSe_boundFor_26 hl (k := 0) rfl (by exact ii_1 k3) (by decide) rfl (fun ls hl => ?_)
        refine lv_goto (tgt := 3) hx hb dSe_boundFor_29 (by decide) ?_
        have eb3 : lf_Se_boundFor_3 (G 0) (G 1) nu st d (G 14) (k3 + 1) = upd (lf_Se_boundFor_3 (G 0) (G 1) nu st d (G 14) k3) k3 (mr_Sh_digit (G 0) (G 1) d k3) := by rw [lf_Se_boundFor_3]
        exact ih3 (k3 + 1) (by omega) (by omega)  H locs (by rw [eb3]; exact hP) (by rw [eb3]; exact hD) hS ls (by exact lv_sub hl [0, 1, 2, 3, 4] rfl)
  exact loop3 _ 0 (Nat.zero_le _) (Nat.lt_succ_self _)  H locs hP hD hS ls (lv_sub hl [0, 1, 2, 3, 4] rfl)
