def mr_X_choice (f0 : Int32) (f1 : Int32) (f5 : Int32) (f13 : Int32) (f14 : Int32) (g0 : Nat → Int32) (g1 : Nat → Int32) (g10 : Nat → Int32) (g11 : Nat → Int32) (nC : Nat) (nD : Nat) (v : Int32) : Int32 × Int32 × Int32 × Int32 × Int32 × Int32 × (Nat → Int32) × (Nat → Int32) × (Nat → Int32) × (Nat → Int32) := (if v < 2 then (0, f0, f1, f5, f13, f14, g0, g1, g10, g11) else (if v ≤ 6 then (if (mr_Sh_hasRoomFor nC nD v) = 0 then (0, f0, f1, f5, f13, f14, g0, g1, g10, g11) else (((mr_Sh_addChoice g0 g1 nC nD v.toNatClampNeg).1) - 1, (mr_Sh_addChoice g0 g1 nC nD v.toNatClampNeg).1, (mr_Sh_addChoice g0 g1 nC nD v.toNatClampNeg).2.1, mr_Fr_forget, (mr_Sw_beginAnew).1, (mr_Sw_beginAnew).2, (mr_Sh_addChoice g0 g1 nC nD v.toNatClampNeg).2.2.1, (mr_Sh_addChoice g0 g1 nC nD v.toNatClampNeg).2.2.2, (mr_Bo_splitDesigns g10 g11 nD v.toNatClampNeg).1, (mr_Bo_splitDesigns g10 g11 nD v.toNatClampNeg).2)) else (0, f0, f1, f5, f13, f14, g0, g1, g10, g11)))
def mrx_X_choice (nC : Nat) (nD : Nat) (v : Int32) : Int32 := (if v < 2 then 2 else (if v ≤ 6 then (if (mr_Sh_hasRoomFor nC nD v) = 0 then 3 else 0) else 2))
theorem z01n {x : Int32} (h : x = 0 ∨ x = 1) : narrow .boolean (.int x) = .int x := by
  rcases h with h | h <;> rw [h] <;> rfl
theorem num_ix {x : Int32} (h : ¬ mr_X_isNumber x = 0) : ∃ j : Nat, j < 4 ∧ x = nI j := by
  unfold mr_X_isNumber at h
  by_cases h1 : x < 0
  · rw [if_pos h1] at h; exact absurd rfl h
  · rw [if_neg h1] at h
    by_cases h2 : 4 ≤ x
    · rw [if_pos h2] at h; exact absurd rfl h
    · rcases pk_ix x (n := 4) (by omega) with q | q | q
      · exact absurd q h1
      · exact absurd q h2
      · exact q
theorem hv_ix {g0 : Nat → Int32} {nC : Nat} {ch v : Int32} (hC : nC ≤ 8) (h : ¬ mr_Sh_hasValue g0 nC ch v = 0) : ∃ j : Nat, j < nC ∧ ch = nI j := by
  refine hasChoice_ix (fun h9 => h ?_) (by omega)
  unfold mr_Sh_hasValue
  rw [if_pos h9]
theorem hv_8 {g0 : Nat → Int32} {nC : Nat} {ch v : Int32} (hC : nC ≤ 8) (h : ¬ mr_Sh_hasValue g0 nC ch v = 0) : ∃ j : Nat, j < 8 ∧ ch = nI j := by
  obtain ⟨j, hj, e⟩ := hv_ix hC h
  exact ⟨j, by omega, e⟩
theorem sg_1 {b : Int32} (h : ¬ ((if b = (-1) then 1 else 0) : Int32) = 0) : b = -1 := by
  by_cases e : b = -1
  · exact e
  · rw [if_neg e] at h; exact absurd rfl h
theorem int_in {v : Int32} {a b : Nat} (h1 : ¬ v < nI a) (h2 : v ≤ nI b) (ma : a < 2 ^ 31) (mb : b < 2 ^ 31) : ∃ j : Nat, a ≤ j ∧ j ≤ b ∧ v = nI j := by
  have h0 : ¬ v < 0 := fun h => h1 (Int32.lt_of_lt_of_le h (nI_pos' ma))
  obtain ⟨j, hj, rfl⟩ := nI_of h0
  refine ⟨j, ?_, (nI_leI hj mb).mp h2, rfl⟩
  rcases Nat.lt_or_ge j a with q | q
  · exact absurd (nI_lt q ma) h1
  · exact q
theorem lt_ix {k : Int32} {n : Nat} (h1 : ¬ k < 0) (h2 : k < nI n) (hn : n ≤ 65536) : ∃ j : Nat, j < n ∧ k = nI j := by
  obtain ⟨j, hj, rfl⟩ := nI_of h1
  exact ⟨j, (nI_ltI hj (by omega)).mp h2, rfl⟩
theorem le_ix {k : Int32} {n : Nat} (h1 : ¬ k < 0) (h2 : k ≤ nI n) (hn : n ≤ 65536) : ∃ j : Nat, j < n + 1 ∧ k = nI j := by
  obtain ⟨j, hj, rfl⟩ := nI_of h1
  exact ⟨j, by have := (nI_leI hj (by omega)).mp h2; omega, rfl⟩
theorem le_ix1 {k : Int32} {n : Nat} (h1 : ¬ k < 1) (h2 : k ≤ nI n) (hn : n ≤ 65536) : ∃ j : Nat, j < n + 1 ∧ k = nI j := by
  refine le_ix (fun h => h1 ?_) h2 hn
  have q := Int32.lt_iff_toInt_lt.mp h
  rw [i0_toInt] at q
  rw [Int32.lt_iff_toInt_lt, show (1 : Int32).toInt = 1 from rfl]
  omega
theorem room_ok {nC nD : Nat} {v : Int32} (hC : nC ≤ 8) (hN : nD ≤ 4096) (ev : v = nI v.toNatClampNeg) (hv : v.toNatClampNeg < 7) (h : ¬ mr_Sh_hasRoomFor nC nD v = 0) : nC < 8 ∧ nD * v.toNatClampNeg ≤ 4096 := by
  generalize v.toNatClampNeg = k at ev hv ⊢
  subst ev
  unfold mr_Sh_hasRoomFor at h
  have hk : nD * k ≤ 4096 * 6 := Nat.mul_le_mul hN (by omega)
  by_cases h1 : 8 ≤ nI nC
  · rw [if_pos h1] at h; exact absurd rfl h
  · rw [if_neg h1, pk_mul] at h
    by_cases h2 : 4096 < nI (nD * k)
    · rw [if_pos h2] at h; exact absurd rfl h
    · refine ⟨?_, ?_⟩
      · rcases Nat.lt_or_ge nC 8 with q | q
        · exact q
        · exact absurd (nI_le (a := 8) q (by omega)) h1
      · rcases Nat.lt_or_ge 4096 (nD * k) with q | q
        · exact absurd (nI_lt (a := 4096) q (by omega)) h2
        · exact q
theorem zb_allows {g8 g9 g10 g11 : Nat → Int32} {d : Nat} : narrow .boolean (.int (mr_Bo_allows g8 g9 g10 g11 d)) = .int (mr_Bo_allows g8 g9 g10 g11 d) := by
  unfold mr_Bo_allows
  exact zb_i (zb_Bo_allows_13 _ _ _ _ _ _) zb_0
theorem cm_lf {g13 : Nat → Int32} {nD : Nat} (hN : nD ≤ 4096) : ∀ (N i sz : Nat) (me : Nat → Int32), sz ≤ i → i ≤ nD → (lf_Fr_collectMembers_7 g13 nD N i sz me).2.1 ≤ nD := by
  intro N
  induction N with
  | zero => intro i sz me h1 h2; rw [lf_Fr_collectMembers_7]; show sz ≤ nD; omega
  | succ N ih =>
    intro i sz me h1 h2
    rw [lf_Fr_collectMembers_7]
    by_cases c1 : nI nD ≤ nI i
    · rw [if_pos c1]; show sz ≤ nD; omega
    · have n1 : i < nD := nI_nle2 c1 (by omega)
      rw [if_neg c1]
      by_cases c2 : g13 i = -1
      · rw [if_pos c2]; exact ih _ _ _ (by omega) (by omega)
      · rw [if_neg c2]
        by_cases c3 : g13 (g13 i).toNatClampNeg = -1
        · rw [if_pos c3]; exact ih _ _ _ (by omega) (by omega)
        · rw [if_neg c3]; exact ih _ _ _ (by omega) (by omega)
theorem rf_ok {f4 f5 : Int32} {g8 g9 g10 g11 g12 g13 : Nat → Int32} {nD sz : Nat} (k4 : f4 = nI sz) (hsz : sz ≤ nD) (hN : nD ≤ 4096) : ∃ j : Nat, j < nD + 1 ∧ (mr_Fr_refresh f4 f5 g8 g9 g10 g11 g12 g13 nD).1 = nI j := by
  unfold mr_Fr_refresh
  by_cases h : f5 = 0
  · rw [if_pos h]
    exact ⟨_, Nat.lt_succ_of_le (cm_lf hN _ 0 0 _ (Nat.le_refl _) (Nat.zero_le _)), rfl⟩
  · rw [if_neg h]
    exact ⟨sz, by omega, k4⟩
set_option maxHeartbeats 4000000 in
set_option maxRecDepth 100000 in
theorem c_X_choice (l : Launch) (D : va_G) (cl : List vw_C) (hcl : cOK cl) (oa ca : Nat → Nat) (ck : Nat → ClassId) (F : Nat → Int32) (G : Nat → Nat → Int32) {H0 : Heap} (hP : va_P D cl (cW oa ca ck F G) H0) (hD : va_D (fun _ => True) (cW oa ca ck F G)) (nC : Nat) (nD : Nat) (v : Int32) (k0 : F 0 = nI nC) (hC : nC ≤ 8) (k1 : F 1 = nI nD) (hN : nD ≤ 4096) (z11 : ∀ j, G 11 j = 0 ∨ G 11 j = 1) (hnx : mrx_X_choice nC nD v = 0) : ww_Met l yX_choice wsX_choice ({ frames := 2, cells := 0, slots := 0, locals := 46 } : Room) D cl (cT ck) H0 [.ref (oa 0), .int v] (cW oa ca ck F G) (some (.int ((mr_X_choice (F 0) (F 1) (F 5) (F 13) (F 14) (G 0) (G 1) (G 10) (G 11) nC nD v).1))) (cW oa ca ck (upd (upd (upd (upd (upd F 0 ((mr_X_choice (F 0) (F 1) (F 5) (F 13) (F 14) (G 0) (G 1) (G 10) (G 11) nC nD v).2.1)) 1 ((mr_X_choice (F 0) (F 1) (F 5) (F 13) (F 14) (G 0) (G 1) (G 10) (G 11) nC nD v).2.2.1)) 5 ((mr_X_choice (F 0) (F 1) (F 5) (F 13) (F 14) (G 0) (G 1) (G 10) (G 11) nC nD v).2.2.2.1)) 13 ((mr_X_choice (F 0) (F 1) (F 5) (F 13) (F 14) (G 0) (G 1) (G 10) (G 11) nC nD v).2.2.2.2.1)) 14 ((mr_X_choice (F 0) (F 1) (F 5) (F 13) (F 14) (G 0) (G 1) (G 10) (G 11) nC nD v).2.2.2.2.2.1)) (va_up (va_up (va_up (va_up G 0 ((mr_X_choice (F 0) (F 1) (F 5) (F 13) (F 14) (G 0) (G 1) (G 10) (G 11) nC nD v).2.2.2.2.2.2.1)) 1 ((mr_X_choice (F 0) (F 1) (F 5) (F 13) (F 14) (G 0) (G 1) (G 10) (G 11) nC nD v).2.2.2.2.2.2.2.1)) 10 ((mr_X_choice (F 0) (F 1) (F 5) (F 13) (F 14) (G 0) (G 1) (G 10) (G 11) nC nD v).2.2.2.2.2.2.2.2.1)) 11 ((mr_X_choice (F 0) (F 1) (F 5) (F 13) (F 14) (G 0) (G 1) (G 10) (G 11) nC nD v).2.2.2.2.2.2.2.2.2))) := by
  refine ww_metI (by decide) rfl (Nat.le_of_ble_eq_true rfl) hP hD ?_
  intro p e s m args below meth c Q A Sx hK hP hD hS hA ls hl hret
  obtain ⟨hx, hb, hml, hown, hts⟩ := id Sx
  have hl : lv_has ls 2 [(0, .ref (oa 0)), (1, .int v)] := hl
  obtain ⟨H, eH⟩ : ∃ H : Heap, H = H0 := ⟨_, rfl⟩
  obtain ⟨locs, eL⟩ : ∃ L : List Loc, L = [] := ⟨_, rfl⟩
  have hP : va_P D cl (cW oa ca ck F G) H := by rw [eH]; exact hP
  have hS : va_S A H0 H locs := by rw [eH, eL]; exact hS
  rw [show W p l e ({ frames := 2, cells := 0, slots := 0, locals := 46 } : Room) s m args below meth c H0 [] 0 0 Q (F0 m 0 ls []) = W p l e ({ frames := 2, cells := 0, slots := 0, locals := 46 } : Room) s m args below meth c H locs 0 0 Q (F0 m 0 ls []) by rw [eH, eL]]
  clear eH eL
  have f12 := hts _ (List.mem_cons_of_mem _ mfX_12)
  have inX_ : ∀ w ∈ wsX0, w ∈ wsX_choice := fun w h => List.mem_cons_of_mem _ (inX_all w h)
  have f21 := hts _ (List.mem_cons_of_mem _ mfX_21)
  have f54 := hts _ (List.mem_cons_of_mem _ mfX_54)
  have f30 := hts _ (List.mem_cons_of_mem _ mfX_30)
  have f87 := hts _ (List.mem_cons_of_mem _ mfX_87)
  have inSh_ : ∀ w ∈ wsSh0, w ∈ wsX_choice := fun w h => List.mem_cons_of_mem _ (inSh_all w h)
  refine lv_iload_n hx hb dX_choice_0 rfl (lv_at hl 1 rfl) ?_
  refine lv_iconst (v := 2) hx hb dX_choice_1 (by decide) ?_
  refine lv_icmp_lt (tgt := 11) hx hb dX_choice_2 (by decide) (fun c2 => ?_) (fun c2 => ?_)
  · exact absurd hnx (by rw [mrx_X_choice, if_pos c2]; decide)
  · refine lv_iload_n hx hb dX_choice_5 rfl (lv_at hl 1 rfl) ?_
    refine lv_bipush (v := 6) hx hb dX_choice_6 (by decide) ?_
    refine lv_icmp_le (tgt := 21) hx hb dX_choice_8 (by decide) (fun c8 => ?_) (fun c8 => ?_)
    · obtain ⟨v9, hv1, hv2, ev9⟩ := int_in (a := 2) (b := 6) c2 c8 (by decide) (by decide)
      have xv : v = nI v.toNatClampNeg ∧ v.toNatClampNeg < 7 := ix_cl ⟨v9, by omega, ev9⟩ (by omega)
      have xv2 := xv.2
      refine lv_aload_n hx hb dX_choice_21 rfl (lv_at hl 0 rfl) ?_
      refine va_get (D := D) (ci := 1) (v := .ref (oa 1)) (C := RX) (T := TX) (N := 6) hx hb hts inX_ hown hK hP 0 rfl hcl.1 0 (by decide) f12 (fun _ h9 => h9) rfl dX_choice_22 ?_
      refine lv_iload_n hx hb dX_choice_25 rfl (lv_at hl 1 rfl) ?_
      refine ro_callV (r := (.int (mr_Sh_hasRoomFor nC nD v))) (As := [.int v]) (rest := []) Sx (c_Sh_hasRoomFor l D cl hcl oa ca ck F G hP nC nD v k0 hC k1) (cwV 1 hts gX_choice_Sh_hasRoomFor rfl rfl rfl (by decide +kernel) ⟨Nat.le_of_ble_eq_true rfl, Nat.le_of_ble_eq_true rfl⟩) hK (va_recv hK hP (ci := 2) (q0 := 1) hcl.2.1 rfl) rfl hl.1 rfl (Nat.le_of_ble_eq_true rfl) dX_choice_26 ⟨Nat.zero_le _, Nat.zero_le _⟩ ?_
      refine lv_if_ne (tgt := 42) hx hb dX_choice_29 (by decide) (fun c29 => ?_) (fun c29 => ?_)
      · have xr := room_ok hC hN xv.1 xv.2 c29
        refine lv_aload_n hx hb dX_choice_42 rfl (lv_at hl 0 rfl) ?_
        refine va_get (D := D) (ci := 1) (v := .ref (oa 3)) (C := RX) (T := TX) (N := 6) hx hb hts inX_ hown hK hP 0 rfl hcl.1 1 (by decide) f21 (fun _ h9 => h9) rfl dX_choice_43 ?_
        refine lv_iload_n hx hb dX_choice_46 rfl (lv_at hl 1 rfl) ?_
        refine wt_i (r := nI (v.toNatClampNeg)) (by exact xv.1) ?_
        refine ww_callV (r := none) (w' := cW oa ca ck F (va_up (va_up G 10 ((mr_Bo_splitDesigns (G 10) (G 11) nD v.toNatClampNeg).1)) 11 ((mr_Bo_splitDesigns (G 10) (G 11) nD v.toNatClampNeg).2))) (As := [.int (nI (v.toNatClampNeg))]) (rest := []) Sx (c_Bo_splitDesigns l D cl hcl oa ca ck F G hP (hD.weaken (fun _ _ _ _ => trivial)) nD v.toNatClampNeg k1 (by omega) xr.2 hN z11) (cwV 1 hts gX_choice_Bo_splitDesigns rfl rfl rfl (by decide +kernel) ⟨Nat.le_of_ble_eq_true rfl, Nat.le_of_ble_eq_true rfl⟩) hK (va_recv hK hP (ci := 4) (q0 := 3) hcl.2.2.2.1 rfl) rfl hl.1 rfl (Nat.le_of_ble_eq_true rfl) dX_choice_47 ⟨Nat.zero_le _, Nat.zero_le _⟩ hD hS hA (fun H locs hP hD hS => ?_)
        refine lv_aload_n hx hb dX_choice_50 rfl (lv_at hl 0 rfl) ?_
        refine va_get (D := D) (ci := 1) (v := .ref (oa 1)) (C := RX) (T := TX) (N := 6) hx hb hts inX_ hown hK hP 0 rfl hcl.1 0 (by decide) f12 (fun _ h9 => h9) rfl dX_choice_51 ?_
        refine lv_iload_n hx hb dX_choice_54 rfl (lv_at hl 1 rfl) ?_
        refine wt_i (r := nI (v.toNatClampNeg)) (by exact xv.1) ?_
        refine ww_callV (r := none) (w' := cW oa ca ck (upd (upd F 0 ((mr_Sh_addChoice (G 0) (G 1) nC nD v.toNatClampNeg).1)) 1 ((mr_Sh_addChoice (G 0) (G 1) nC nD v.toNatClampNeg).2.1)) (va_up (va_up (va_up (va_up G 10 ((mr_Bo_splitDesigns (G 10) (G 11) nD v.toNatClampNeg).1)) 11 ((mr_Bo_splitDesigns (G 10) (G 11) nD v.toNatClampNeg).2)) 0 ((mr_Sh_addChoice (G 0) (G 1) nC nD v.toNatClampNeg).2.2.1)) 1 ((mr_Sh_addChoice (G 0) (G 1) nC nD v.toNatClampNeg).2.2.2))) (As := [.int (nI (v.toNatClampNeg))]) (rest := []) Sx (c_Sh_addChoice l D cl hcl oa ca ck F (va_up (va_up G 10 ((mr_Bo_splitDesigns (G 10) (G 11) nD v.toNatClampNeg).1)) 11 ((mr_Bo_splitDesigns (G 10) (G 11) nD v.toNatClampNeg).2)) hP (hD.weaken (fun _ _ _ _ => trivial)) nC nD v.toNatClampNeg k0 k1 xr.1) (cwV 1 hts gX_choice_Sh_addChoice rfl rfl rfl (by decide +kernel) ⟨Nat.le_of_ble_eq_true rfl, Nat.le_of_ble_eq_true rfl⟩) hK (va_recv hK hP (ci := 2) (q0 := 1) hcl.2.1 rfl) rfl hl.1 rfl (Nat.le_of_ble_eq_true rfl) dX_choice_55 ⟨Nat.zero_le _, Nat.zero_le _⟩ hD hS hA (fun H locs hP hD hS => ?_)
        rw [vup_sw (i := 11) (j := 0) (by decide), vup_sw (i := 10) (j := 0) (by decide), vup_sw (i := 11) (j := 1) (by decide), vup_sw (i := 10) (j := 1) (by decide)] at hP hD
        refine lv_aload_n hx hb dX_choice_58 rfl (lv_at hl 0 rfl) ?_
        refine va_get (D := D) (ci := 1) (v := .ref (oa 7)) (C := RX) (T := TX) (N := 6) hx hb hts inX_ hown hK hP 0 rfl hcl.1 5 (by decide) f54 (fun _ h9 => h9) rfl dX_choice_59 ?_
        refine ww_callV (r := none) (w' := cW oa ca ck (upd (upd (upd (upd F 0 ((mr_Sh_addChoice (G 0) (G 1) nC nD v.toNatClampNeg).1)) 1 ((mr_Sh_addChoice (G 0) (G 1) nC nD v.toNatClampNeg).2.1)) 13 ((mr_Sw_beginAnew).1)) 14 ((mr_Sw_beginAnew).2)) (va_up (va_up (va_up (va_up G 0 ((mr_Sh_addChoice (G 0) (G 1) nC nD v.toNatClampNeg).2.2.1)) 1 ((mr_Sh_addChoice (G 0) (G 1) nC nD v.toNatClampNeg).2.2.2)) 10 ((mr_Bo_splitDesigns (G 10) (G 11) nD v.toNatClampNeg).1)) 11 ((mr_Bo_splitDesigns (G 10) (G 11) nD v.toNatClampNeg).2))) (As := []) (rest := []) Sx (c_Sw_beginAnew l D cl hcl oa ca ck (upd (upd F 0 ((mr_Sh_addChoice (G 0) (G 1) nC nD v.toNatClampNeg).1)) 1 ((mr_Sh_addChoice (G 0) (G 1) nC nD v.toNatClampNeg).2.1)) (va_up (va_up (va_up (va_up G 0 ((mr_Sh_addChoice (G 0) (G 1) nC nD v.toNatClampNeg).2.2.1)) 1 ((mr_Sh_addChoice (G 0) (G 1) nC nD v.toNatClampNeg).2.2.2)) 10 ((mr_Bo_splitDesigns (G 10) (G 11) nD v.toNatClampNeg).1)) 11 ((mr_Bo_splitDesigns (G 10) (G 11) nD v.toNatClampNeg).2)) hP (hD.weaken (fun _ _ _ _ => trivial))) (cwV 0 hts gX_choice_Sw_beginAnew rfl rfl rfl (by decide +kernel) ⟨Nat.le_of_ble_eq_true rfl, Nat.le_of_ble_eq_true rfl⟩) hK (va_recv hK hP (ci := 8) (q0 := 7) hcl.2.2.2.2.2.2.2 rfl) rfl hl.1 rfl (Nat.le_of_ble_eq_true rfl) dX_choice_62 ⟨Nat.zero_le _, Nat.zero_le _⟩ hD hS hA (fun H locs hP hD hS => ?_)
        refine lv_aload_n hx hb dX_choice_65 rfl (lv_at hl 0 rfl) ?_
        refine va_get (D := D) (ci := 1) (v := .ref (oa 4)) (C := RX) (T := TX) (N := 6) hx hb hts inX_ hown hK hP 0 rfl hcl.1 2 (by decide) f30 (fun _ h9 => h9) rfl dX_choice_66 ?_
        refine ww_callV (r := none) (w' := cW oa ca ck (upd (upd (upd (upd (upd F 0 ((mr_Sh_addChoice (G 0) (G 1) nC nD v.toNatClampNeg).1)) 1 ((mr_Sh_addChoice (G 0) (G 1) nC nD v.toNatClampNeg).2.1)) 13 ((mr_Sw_beginAnew).1)) 14 ((mr_Sw_beginAnew).2)) 5 mr_Fr_forget) (va_up (va_up (va_up (va_up G 0 ((mr_Sh_addChoice (G 0) (G 1) nC nD v.toNatClampNeg).2.2.1)) 1 ((mr_Sh_addChoice (G 0) (G 1) nC nD v.toNatClampNeg).2.2.2)) 10 ((mr_Bo_splitDesigns (G 10) (G 11) nD v.toNatClampNeg).1)) 11 ((mr_Bo_splitDesigns (G 10) (G 11) nD v.toNatClampNeg).2))) (As := []) (rest := []) Sx (c_Fr_forget l D cl hcl oa ca ck (upd (upd (upd (upd F 0 ((mr_Sh_addChoice (G 0) (G 1) nC nD v.toNatClampNeg).1)) 1 ((mr_Sh_addChoice (G 0) (G 1) nC nD v.toNatClampNeg).2.1)) 13 ((mr_Sw_beginAnew).1)) 14 ((mr_Sw_beginAnew).2)) (va_up (va_up (va_up (va_up G 0 ((mr_Sh_addChoice (G 0) (G 1) nC nD v.toNatClampNeg).2.2.1)) 1 ((mr_Sh_addChoice (G 0) (G 1) nC nD v.toNatClampNeg).2.2.2)) 10 ((mr_Bo_splitDesigns (G 10) (G 11) nD v.toNatClampNeg).1)) 11 ((mr_Bo_splitDesigns (G 10) (G 11) nD v.toNatClampNeg).2)) hP (hD.weaken (fun _ _ _ _ => trivial))) (cwV 0 hts gX_choice_Fr_forget rfl rfl rfl (by decide +kernel) ⟨Nat.le_of_ble_eq_true rfl, Nat.le_of_ble_eq_true rfl⟩) hK (va_recv hK hP (ci := 5) (q0 := 4) hcl.2.2.2.2.1 rfl) rfl hl.1 rfl (Nat.le_of_ble_eq_true rfl) dX_choice_69 ⟨Nat.zero_le _, Nat.zero_le _⟩ hD hS hA (fun H locs hP hD hS => ?_)
        rw [upd_sw (i := 14) (j := 5) (by decide), upd_sw (i := 13) (j := 5) (by decide)] at hP hD
        refine lv_aload_n hx hb dX_choice_72 rfl (lv_at hl 0 rfl) ?_
        refine va_get (D := D) (ci := 1) (v := .ref (oa 1)) (C := RX) (T := TX) (N := 6) hx hb hts inX_ hown hK hP 0 rfl hcl.1 0 (by decide) f12 (fun _ h9 => h9) rfl dX_choice_73 ?_
        have ef76 : (upd (upd (upd (upd (upd F 0 ((mr_Sh_addChoice (G 0) (G 1) nC nD v.toNatClampNeg).1)) 1 ((mr_Sh_addChoice (G 0) (G 1) nC nD v.toNatClampNeg).2.1)) 5 mr_Fr_forget) 13 ((mr_Sw_beginAnew).1)) 14 ((mr_Sw_beginAnew).2)) 0 = (mr_Sh_addChoice (G 0) (G 1) nC nD v.toNatClampNeg).1 := by rw [pk_un (k := 14) (j := 0) (by decide), pk_un (k := 13) (j := 0) (by decide), pk_un (k := 5) (j := 0) (by decide), pk_un (k := 1) (j := 0) (by decide), pk_us]
        refine va_get (D := D) (ci := 2) (v := .int ((mr_Sh_addChoice (G 0) (G 1) nC nD v.toNatClampNeg).1)) (C := RSh) (T := TSh) (N := 4) hx hb hts inSh_ hown hK hP 1 rfl hcl.2.1 2 (by decide) f87 (fun _ h9 => h9) (congrArg (fun z => some (Value.int z)) ef76) dX_choice_76 ?_
        refine lv_iconst (v := 1) hx hb dX_choice_79 (by decide) ?_
        refine lv_isub hx hb dX_choice_80 ?_
        have em : mr_X_choice (F 0) (F 1) (F 5) (F 13) (F 14) (G 0) (G 1) (G 10) (G 11) nC nD v = (((mr_Sh_addChoice (G 0) (G 1) nC nD v.toNatClampNeg).1) - 1, (mr_Sh_addChoice (G 0) (G 1) nC nD v.toNatClampNeg).1, (mr_Sh_addChoice (G 0) (G 1) nC nD v.toNatClampNeg).2.1, mr_Fr_forget, (mr_Sw_beginAnew).1, (mr_Sw_beginAnew).2, (mr_Sh_addChoice (G 0) (G 1) nC nD v.toNatClampNeg).2.2.1, (mr_Sh_addChoice (G 0) (G 1) nC nD v.toNatClampNeg).2.2.2, (mr_Bo_splitDesigns (G 10) (G 11) nD v.toNatClampNeg).1, (mr_Bo_splitDesigns (G 10) (G 11) nD v.toNatClampNeg).2) := by rw [mr_X_choice, if_neg c2, if_pos c8, if_neg c29]
        exact hret _ _ _ _ _ _ (by simp only [em]) (by simp only [em]) hP hD hS dX_choice_81
      · exact absurd hnx (by rw [mrx_X_choice, if_neg c2, if_pos c8, if_pos c29]; decide)
    · exact absurd hnx (by rw [mrx_X_choice, if_neg c2, if_neg c8]; decide)
set_option maxHeartbeats 4000000 in
set_option maxRecDepth 100000 in
theorem t_X_choice (l : Launch) (hlt : l.stackTraces = false) (Z : State) (hZ : ∀ w ∈ xws ++ sALL, w.before #[] Z = true) (D : va_G) (cl : List vw_C) (hcl : cOK cl) (oa ca : Nat → Nat) (ck : Nat → ClassId) (F : Nat → Int32) (G : Nat → Nat → Int32) {H0 : Heap} (hP : va_P D cl (cW oa ca ck F G) H0) (hD : va_D (fun _ => True) (cW oa ca ck F G)) (hZ0 : Z.heap.size ≤ H0.size) (hZH : ∀ q : Nat, q < Z.heap.size → H0[q]? = Z.heap[q]?) (hZA : ∀ q : Nat, q < Z.heap.size → ¬ va_A (cW oa ca ck F G) H0.size q) (nC : Nat) (nD : Nat) (v : Int32) (k0 : F 0 = nI nC) (hC : nC ≤ 8) (k1 : F 1 = nI nD) (hN : nD ≤ 4096) (z11 : ∀ j, G 11 j = 0 ∨ G 11 j = 1) (hnx : ¬ mrx_X_choice nC nD v = 0) : tx_Met l yX_choice wsX_choice ({ frames := 6, cells := 1, slots := 6, locals := 82 } : Room) (tx_P Z D cl (cT ck) H0 [.ref (oa 0), .int v]) (exn (mrx_X_choice nC nD v)) 1 6 (va_A (cW oa ca ck F G) H0.size) (fun H1 => va_P D cl (cW oa ca ck (upd (upd (upd (upd (upd F 0 ((mr_X_choice (F 0) (F 1) (F 5) (F 13) (F 14) (G 0) (G 1) (G 10) (G 11) nC nD v).2.1)) 1 ((mr_X_choice (F 0) (F 1) (F 5) (F 13) (F 14) (G 0) (G 1) (G 10) (G 11) nC nD v).2.2.1)) 5 ((mr_X_choice (F 0) (F 1) (F 5) (F 13) (F 14) (G 0) (G 1) (G 10) (G 11) nC nD v).2.2.2.1)) 13 ((mr_X_choice (F 0) (F 1) (F 5) (F 13) (F 14) (G 0) (G 1) (G 10) (G 11) nC nD v).2.2.2.2.1)) 14 ((mr_X_choice (F 0) (F 1) (F 5) (F 13) (F 14) (G 0) (G 1) (G 10) (G 11) nC nD v).2.2.2.2.2.1)) (va_up (va_up (va_up (va_up G 0 ((mr_X_choice (F 0) (F 1) (F 5) (F 13) (F 14) (G 0) (G 1) (G 10) (G 11) nC nD v).2.2.2.2.2.2.1)) 1 ((mr_X_choice (F 0) (F 1) (F 5) (F 13) (F 14) (G 0) (G 1) (G 10) (G 11) nC nD v).2.2.2.2.2.2.2.1)) 10 ((mr_X_choice (F 0) (F 1) (F 5) (F 13) (F 14) (G 0) (G 1) (G 10) (G 11) nC nD v).2.2.2.2.2.2.2.2.1)) 11 ((mr_X_choice (F 0) (F 1) (F 5) (F 13) (F 14) (G 0) (G 1) (G 10) (G 11) nC nD v).2.2.2.2.2.2.2.2.2))) H1 ∧ va_D (va_A (cW oa ca ck F G) H0.size) (cW oa ca ck (upd (upd (upd (upd (upd F 0 ((mr_X_choice (F 0) (F 1) (F 5) (F 13) (F 14) (G 0) (G 1) (G 10) (G 11) nC nD v).2.1)) 1 ((mr_X_choice (F 0) (F 1) (F 5) (F 13) (F 14) (G 0) (G 1) (G 10) (G 11) nC nD v).2.2.1)) 5 ((mr_X_choice (F 0) (F 1) (F 5) (F 13) (F 14) (G 0) (G 1) (G 10) (G 11) nC nD v).2.2.2.1)) 13 ((mr_X_choice (F 0) (F 1) (F 5) (F 13) (F 14) (G 0) (G 1) (G 10) (G 11) nC nD v).2.2.2.2.1)) 14 ((mr_X_choice (F 0) (F 1) (F 5) (F 13) (F 14) (G 0) (G 1) (G 10) (G 11) nC nD v).2.2.2.2.2.1)) (va_up (va_up (va_up (va_up G 0 ((mr_X_choice (F 0) (F 1) (F 5) (F 13) (F 14) (G 0) (G 1) (G 10) (G 11) nC nD v).2.2.2.2.2.2.1)) 1 ((mr_X_choice (F 0) (F 1) (F 5) (F 13) (F 14) (G 0) (G 1) (G 10) (G 11) nC nD v).2.2.2.2.2.2.2.1)) 10 ((mr_X_choice (F 0) (F 1) (F 5) (F 13) (F 14) (G 0) (G 1) (G 10) (G 11) nC nD v).2.2.2.2.2.2.2.2.1)) 11 ((mr_X_choice (F 0) (F 1) (F 5) (F 13) (F 14) (G 0) (G 1) (G 10) (G 11) nC nD v).2.2.2.2.2.2.2.2.2)))) := by
  refine tx_met (by decide) rfl (Nat.le_of_ble_eq_true rfl) hP hD ?_
  intro p e s m args below meth c Q A hAe hQ Sx hK hZw hlk hno hP hD hS hA ls hl
  obtain ⟨hx, hb, hml, hown, hts⟩ := id Sx
  have hl : lv_has ls 2 [(0, .ref (oa 0)), (1, .int v)] := hl
  obtain ⟨H, eH⟩ : ∃ H : Heap, H = H0 := ⟨_, rfl⟩
  obtain ⟨locs, eL⟩ : ∃ L : List Loc, L = [] := ⟨_, rfl⟩
  have hP : va_P D cl (cW oa ca ck F G) H := by rw [eH]; exact hP
  have hS : va_S A H0 H locs := by rw [eH, eL]; exact hS
  rw [show W p l e ({ frames := 6, cells := 1, slots := 6, locals := 82 } : Room) s m args below meth c H0 [] 0 0 Q (F0 m 0 ls []) = W p l e ({ frames := 6, cells := 1, slots := 6, locals := 82 } : Room) s m args below meth c H locs 0 0 Q (F0 m 0 ls []) by rw [eH, eL]]
  clear eH eL
  have wx58 := hts _ (List.mem_cons_of_mem _ mxX_58)
  have wn2 := hts _ (List.mem_cons_of_mem _ mnE_2)
  have wt2 := hts _ (List.mem_cons_of_mem _ mtE_2)
  have f12 := hts _ (List.mem_cons_of_mem _ mfX_12)
  have inX_ : ∀ w ∈ wsX0, w ∈ wsX_choice := fun w h => List.mem_cons_of_mem _ (inX_all w h)
  have wx69 := hts _ (List.mem_cons_of_mem _ mxX_69)
  have wn3 := hts _ (List.mem_cons_of_mem _ mnE_3)
  have wt3 := hts _ (List.mem_cons_of_mem _ mtE_3)
  refine lv_iload_n hx hb dX_choice_0 rfl (lv_at hl 1 rfl) ?_
  refine lv_iconst (v := 2) hx hb dX_choice_1 (by decide) ?_
  refine lv_icmp_lt (tgt := 11) hx hb dX_choice_2 (by decide) (fun c2 => ?_) (fun c2 => ?_)
  · have ex : mrx_X_choice nC nD v = 2 := by rw [mrx_X_choice, if_pos c2]
    rw [hQ, ex, exn_2]
    have em : mr_X_choice (F 0) (F 1) (F 5) (F 13) (F 14) (G 0) (G 1) (G 10) (G 11) nC nD v = (0, F 0, F 1, F 5, F 13, F 14, G 0, G 1, G 10, G 11) := by rw [mr_X_choice, if_pos c2]
    have hP9 : va_P D cl (cW oa ca ck (upd (upd (upd (upd (upd F 0 ((mr_X_choice (F 0) (F 1) (F 5) (F 13) (F 14) (G 0) (G 1) (G 10) (G 11) nC nD v).2.1)) 1 ((mr_X_choice (F 0) (F 1) (F 5) (F 13) (F 14) (G 0) (G 1) (G 10) (G 11) nC nD v).2.2.1)) 5 ((mr_X_choice (F 0) (F 1) (F 5) (F 13) (F 14) (G 0) (G 1) (G 10) (G 11) nC nD v).2.2.2.1)) 13 ((mr_X_choice (F 0) (F 1) (F 5) (F 13) (F 14) (G 0) (G 1) (G 10) (G 11) nC nD v).2.2.2.2.1)) 14 ((mr_X_choice (F 0) (F 1) (F 5) (F 13) (F 14) (G 0) (G 1) (G 10) (G 11) nC nD v).2.2.2.2.2.1)) (va_up (va_up (va_up (va_up G 0 ((mr_X_choice (F 0) (F 1) (F 5) (F 13) (F 14) (G 0) (G 1) (G 10) (G 11) nC nD v).2.2.2.2.2.2.1)) 1 ((mr_X_choice (F 0) (F 1) (F 5) (F 13) (F 14) (G 0) (G 1) (G 10) (G 11) nC nD v).2.2.2.2.2.2.2.1)) 10 ((mr_X_choice (F 0) (F 1) (F 5) (F 13) (F 14) (G 0) (G 1) (G 10) (G 11) nC nD v).2.2.2.2.2.2.2.2.1)) 11 ((mr_X_choice (F 0) (F 1) (F 5) (F 13) (F 14) (G 0) (G 1) (G 10) (G 11) nC nD v).2.2.2.2.2.2.2.2.2))) H := by simp only [em]; rw [upd_keep (f := F) (j := 0) (x := F 0) rfl, upd_keep (f := F) (j := 1) (x := F 1) rfl, upd_keep (f := F) (j := 5) (x := F 5) rfl, upd_keep (f := F) (j := 13) (x := F 13) rfl, upd_keep (f := F) (j := 14) (x := F 14) rfl, vup_keep (f := G) (j := 0) (x := G 0) rfl, vup_keep (f := G) (j := 1) (x := G 1) rfl, vup_keep (f := G) (j := 10) (x := G 10) rfl, vup_keep (f := G) (j := 11) (x := G 11) rfl]; exact hP
    have hD9 : va_D A (cW oa ca ck (upd (upd (upd (upd (upd F 0 ((mr_X_choice (F 0) (F 1) (F 5) (F 13) (F 14) (G 0) (G 1) (G 10) (G 11) nC nD v).2.1)) 1 ((mr_X_choice (F 0) (F 1) (F 5) (F 13) (F 14) (G 0) (G 1) (G 10) (G 11) nC nD v).2.2.1)) 5 ((mr_X_choice (F 0) (F 1) (F 5) (F 13) (F 14) (G 0) (G 1) (G 10) (G 11) nC nD v).2.2.2.1)) 13 ((mr_X_choice (F 0) (F 1) (F 5) (F 13) (F 14) (G 0) (G 1) (G 10) (G 11) nC nD v).2.2.2.2.1)) 14 ((mr_X_choice (F 0) (F 1) (F 5) (F 13) (F 14) (G 0) (G 1) (G 10) (G 11) nC nD v).2.2.2.2.2.1)) (va_up (va_up (va_up (va_up G 0 ((mr_X_choice (F 0) (F 1) (F 5) (F 13) (F 14) (G 0) (G 1) (G 10) (G 11) nC nD v).2.2.2.2.2.2.1)) 1 ((mr_X_choice (F 0) (F 1) (F 5) (F 13) (F 14) (G 0) (G 1) (G 10) (G 11) nC nD v).2.2.2.2.2.2.2.1)) 10 ((mr_X_choice (F 0) (F 1) (F 5) (F 13) (F 14) (G 0) (G 1) (G 10) (G 11) nC nD v).2.2.2.2.2.2.2.2.1)) 11 ((mr_X_choice (F 0) (F 1) (F 5) (F 13) (F 14) (G 0) (G 1) (G 10) (G 11) nC nD v).2.2.2.2.2.2.2.2.2))) := by simp only [em]; rw [upd_keep (f := F) (j := 0) (x := F 0) rfl, upd_keep (f := F) (j := 1) (x := F 1) rfl, upd_keep (f := F) (j := 5) (x := F 5) rfl, upd_keep (f := F) (j := 13) (x := F 13) rfl, upd_keep (f := F) (j := 14) (x := F 14) rfl, vup_keep (f := G) (j := 0) (x := G 0) rfl, vup_keep (f := G) (j := 1) (x := G 1) rfl, vup_keep (f := G) (j := 10) (x := G 10) rfl, vup_keep (f := G) (j := 11) (x := G 11) rfl]; exact hD
    exact tx_new (A := A) (i1 := 58) (i2 := 60) (i3 := 62) (own := RX) (up := xup) (tx := strsX_60) hlt hx hb (hml.trans hl.1.symm) hlk (hno _) hown (by decide +kernel) (by decide +kernel) (xo_use xo_2 hts) wt2 wx58 wn2 hZw (fun w9 h9 => hZ w9 (List.mem_append_left _ h9)) (hZ _ (List.mem_append_right _ mrX_60)) (fun q hq => (hS.2.1 q (Nat.lt_of_lt_of_le hq hZ0) (by rw [hAe]; exact hZA q hq)).trans (hZH q hq)) hS.2.2 dX_choice_11 dX_choice_14 dX_choice_15 dX_choice_17 dX_choice_20 (Nat.le_refl _) (Nat.le_refl _) (by decide) (by decide) rfl rfl (fun H1 h1 h2 => ⟨va_old hP9 h2, by rw [← hAe]; exact hD9⟩)
  · refine lv_iload_n hx hb dX_choice_5 rfl (lv_at hl 1 rfl) ?_
    refine lv_bipush (v := 6) hx hb dX_choice_6 (by decide) ?_
    refine lv_icmp_le (tgt := 21) hx hb dX_choice_8 (by decide) (fun c8 => ?_) (fun c8 => ?_)
    · obtain ⟨v9, hv1, hv2, ev9⟩ := int_in (a := 2) (b := 6) c2 c8 (by decide) (by decide)
      have xv : v = nI v.toNatClampNeg ∧ v.toNatClampNeg < 7 := ix_cl ⟨v9, by omega, ev9⟩ (by omega)
      have xv2 := xv.2
      refine lv_aload_n hx hb dX_choice_21 rfl (lv_at hl 0 rfl) ?_
      refine va_get (D := D) (ci := 1) (v := .ref (oa 1)) (C := RX) (T := TX) (N := 6) hx hb hts inX_ hown hK hP 0 rfl hcl.1 0 (by decide) f12 (fun _ h9 => h9) rfl dX_choice_22 ?_
      refine lv_iload_n hx hb dX_choice_25 rfl (lv_at hl 1 rfl) ?_
      refine ro_callV (r := (.int (mr_Sh_hasRoomFor nC nD v))) (As := [.int v]) (rest := []) Sx (c_Sh_hasRoomFor l D cl hcl oa ca ck F G hP nC nD v k0 hC k1) (cwV 1 hts gX_choice_Sh_hasRoomFor rfl rfl rfl (by decide +kernel) ⟨Nat.le_of_ble_eq_true rfl, Nat.le_of_ble_eq_true rfl⟩) hK (va_recv hK hP (ci := 2) (q0 := 1) hcl.2.1 rfl) rfl hl.1 rfl (Nat.le_of_ble_eq_true rfl) dX_choice_26 ⟨Nat.zero_le _, Nat.zero_le _⟩ ?_
      refine lv_if_ne (tgt := 42) hx hb dX_choice_29 (by decide) (fun c29 => ?_) (fun c29 => ?_)
      · have xr := room_ok hC hN xv.1 xv.2 c29
        exact absurd (by rw [mrx_X_choice, if_neg c2, if_pos c8, if_neg c29]) hnx
      · have ex : mrx_X_choice nC nD v = 3 := by rw [mrx_X_choice, if_neg c2, if_pos c8, if_pos c29]
        rw [hQ, ex, exn_3]
        have em : mr_X_choice (F 0) (F 1) (F 5) (F 13) (F 14) (G 0) (G 1) (G 10) (G 11) nC nD v = (0, F 0, F 1, F 5, F 13, F 14, G 0, G 1, G 10, G 11) := by rw [mr_X_choice, if_neg c2, if_pos c8, if_pos c29]
        have hP9 : va_P D cl (cW oa ca ck (upd (upd (upd (upd (upd F 0 ((mr_X_choice (F 0) (F 1) (F 5) (F 13) (F 14) (G 0) (G 1) (G 10) (G 11) nC nD v).2.1)) 1 ((mr_X_choice (F 0) (F 1) (F 5) (F 13) (F 14) (G 0) (G 1) (G 10) (G 11) nC nD v).2.2.1)) 5 ((mr_X_choice (F 0) (F 1) (F 5) (F 13) (F 14) (G 0) (G 1) (G 10) (G 11) nC nD v).2.2.2.1)) 13 ((mr_X_choice (F 0) (F 1) (F 5) (F 13) (F 14) (G 0) (G 1) (G 10) (G 11) nC nD v).2.2.2.2.1)) 14 ((mr_X_choice (F 0) (F 1) (F 5) (F 13) (F 14) (G 0) (G 1) (G 10) (G 11) nC nD v).2.2.2.2.2.1)) (va_up (va_up (va_up (va_up G 0 ((mr_X_choice (F 0) (F 1) (F 5) (F 13) (F 14) (G 0) (G 1) (G 10) (G 11) nC nD v).2.2.2.2.2.2.1)) 1 ((mr_X_choice (F 0) (F 1) (F 5) (F 13) (F 14) (G 0) (G 1) (G 10) (G 11) nC nD v).2.2.2.2.2.2.2.1)) 10 ((mr_X_choice (F 0) (F 1) (F 5) (F 13) (F 14) (G 0) (G 1) (G 10) (G 11) nC nD v).2.2.2.2.2.2.2.2.1)) 11 ((mr_X_choice (F 0) (F 1) (F 5) (F 13) (F 14) (G 0) (G 1) (G 10) (G 11) nC nD v).2.2.2.2.2.2.2.2.2))) H := by simp only [em]; rw [upd_keep (f := F) (j := 0) (x := F 0) rfl, upd_keep (f := F) (j := 1) (x := F 1) rfl, upd_keep (f := F) (j := 5) (x := F 5) rfl, upd_keep (f := F) (j := 13) (x := F 13) rfl, upd_keep (f := F) (j := 14) (x := F 14) rfl, vup_keep (f := G) (j := 0) (x := G 0) rfl, vup_keep (f := G) (j := 1) (x := G 1) rfl, vup_keep (f := G) (j := 10) (x := G 10) rfl, vup_keep (f := G) (j := 11) (x := G 11) rfl]; exact hP
        have hD9 : va_D A (cW oa ca ck (upd (upd (upd (upd (upd F 0 ((mr_X_choice (F 0) (F 1) (F 5) (F 13) (F 14) (G 0) (G 1) (G 10) (G 11) nC nD v).2.1)) 1 ((mr_X_choice (F 0) (F 1) (F 5) (F 13) (F 14) (G 0) (G 1) (G 10) (G 11) nC nD v).2.2.1)) 5 ((mr_X_choice (F 0) (F 1) (F 5) (F 13) (F 14) (G 0) (G 1) (G 10) (G 11) nC nD v).2.2.2.1)) 13 ((mr_X_choice (F 0) (F 1) (F 5) (F 13) (F 14) (G 0) (G 1) (G 10) (G 11) nC nD v).2.2.2.2.1)) 14 ((mr_X_choice (F 0) (F 1) (F 5) (F 13) (F 14) (G 0) (G 1) (G 10) (G 11) nC nD v).2.2.2.2.2.1)) (va_up (va_up (va_up (va_up G 0 ((mr_X_choice (F 0) (F 1) (F 5) (F 13) (F 14) (G 0) (G 1) (G 10) (G 11) nC nD v).2.2.2.2.2.2.1)) 1 ((mr_X_choice (F 0) (F 1) (F 5) (F 13) (F 14) (G 0) (G 1) (G 10) (G 11) nC nD v).2.2.2.2.2.2.2.1)) 10 ((mr_X_choice (F 0) (F 1) (F 5) (F 13) (F 14) (G 0) (G 1) (G 10) (G 11) nC nD v).2.2.2.2.2.2.2.2.1)) 11 ((mr_X_choice (F 0) (F 1) (F 5) (F 13) (F 14) (G 0) (G 1) (G 10) (G 11) nC nD v).2.2.2.2.2.2.2.2.2))) := by simp only [em]; rw [upd_keep (f := F) (j := 0) (x := F 0) rfl, upd_keep (f := F) (j := 1) (x := F 1) rfl, upd_keep (f := F) (j := 5) (x := F 5) rfl, upd_keep (f := F) (j := 13) (x := F 13) rfl, upd_keep (f := F) (j := 14) (x := F 14) rfl, vup_keep (f := G) (j := 0) (x := G 0) rfl, vup_keep (f := G) (j := 1) (x := G 1) rfl, vup_keep (f := G) (j := 10) (x := G 10) rfl, vup_keep (f := G) (j := 11) (x := G 11) rfl]; exact hD
        exact tx_new (A := A) (i1 := 69) (i2 := 71) (i3 := 73) (own := RX) (up := xup) (tx := strsX_71) hlt hx hb (hml.trans hl.1.symm) hlk (hno _) hown (by decide +kernel) (by decide +kernel) (xo_use xo_3 hts) wt3 wx69 wn3 hZw (fun w9 h9 => hZ w9 (List.mem_append_left _ h9)) (hZ _ (List.mem_append_right _ mrX_71)) (fun q hq => (hS.2.1 q (Nat.lt_of_lt_of_le hq hZ0) (by rw [hAe]; exact hZA q hq)).trans (hZH q hq)) hS.2.2 dX_choice_32 dX_choice_35 dX_choice_36 dX_choice_38 dX_choice_41 (Nat.le_refl _) (Nat.le_refl _) (by decide) (by decide) rfl rfl (fun H1 h1 h2 => ⟨va_old hP9 h2, by rw [← hAe]; exact hD9⟩)
    · have ex : mrx_X_choice nC nD v = 2 := by rw [mrx_X_choice, if_neg c2, if_neg c8]
      rw [hQ, ex, exn_2]
      have em : mr_X_choice (F 0) (F 1) (F 5) (F 13) (F 14) (G 0) (G 1) (G 10) (G 11) nC nD v = (0, F 0, F 1, F 5, F 13, F 14, G 0, G 1, G 10, G 11) := by rw [mr_X_choice, if_neg c2, if_neg c8]
      have hP9 : va_P D cl (cW oa ca ck (upd (upd (upd (upd (upd F 0 ((mr_X_choice (F 0) (F 1) (F 5) (F 13) (F 14) (G 0) (G 1) (G 10) (G 11) nC nD v).2.1)) 1 ((mr_X_choice (F 0) (F 1) (F 5) (F 13) (F 14) (G 0) (G 1) (G 10) (G 11) nC nD v).2.2.1)) 5 ((mr_X_choice (F 0) (F 1) (F 5) (F 13) (F 14) (G 0) (G 1) (G 10) (G 11) nC nD v).2.2.2.1)) 13 ((mr_X_choice (F 0) (F 1) (F 5) (F 13) (F 14) (G 0) (G 1) (G 10) (G 11) nC nD v).2.2.2.2.1)) 14 ((mr_X_choice (F 0) (F 1) (F 5) (F 13) (F 14) (G 0) (G 1) (G 10) (G 11) nC nD v).2.2.2.2.2.1)) (va_up (va_up (va_up (va_up G 0 ((mr_X_choice (F 0) (F 1) (F 5) (F 13) (F 14) (G 0) (G 1) (G 10) (G 11) nC nD v).2.2.2.2.2.2.1)) 1 ((mr_X_choice (F 0) (F 1) (F 5) (F 13) (F 14) (G 0) (G 1) (G 10) (G 11) nC nD v).2.2.2.2.2.2.2.1)) 10 ((mr_X_choice (F 0) (F 1) (F 5) (F 13) (F 14) (G 0) (G 1) (G 10) (G 11) nC nD v).2.2.2.2.2.2.2.2.1)) 11 ((mr_X_choice (F 0) (F 1) (F 5) (F 13) (F 14) (G 0) (G 1) (G 10) (G 11) nC nD v).2.2.2.2.2.2.2.2.2))) H := by simp only [em]; rw [upd_keep (f := F) (j := 0) (x := F 0) rfl, upd_keep (f := F) (j := 1) (x := F 1) rfl, upd_keep (f := F) (j := 5) (x := F 5) rfl, upd_keep (f := F) (j := 13) (x := F 13) rfl, upd_keep (f := F) (j := 14) (x := F 14) rfl, vup_keep (f := G) (j := 0) (x := G 0) rfl, vup_keep (f := G) (j := 1) (x := G 1) rfl, vup_keep (f := G) (j := 10) (x := G 10) rfl, vup_keep (f := G) (j := 11) (x := G 11) rfl]; exact hP
      have hD9 : va_D A (cW oa ca ck (upd (upd (upd (upd (upd F 0 ((mr_X_choice (F 0) (F 1) (F 5) (F 13) (F 14) (G 0) (G 1) (G 10) (G 11) nC nD v).2.1)) 1 ((mr_X_choice (F 0) (F 1) (F 5) (F 13) (F 14) (G 0) (G 1) (G 10) (G 11) nC nD v).2.2.1)) 5 ((mr_X_choice (F 0) (F 1) (F 5) (F 13) (F 14) (G 0) (G 1) (G 10) (G 11) nC nD v).2.2.2.1)) 13 ((mr_X_choice (F 0) (F 1) (F 5) (F 13) (F 14) (G 0) (G 1) (G 10) (G 11) nC nD v).2.2.2.2.1)) 14 ((mr_X_choice (F 0) (F 1) (F 5) (F 13) (F 14) (G 0) (G 1) (G 10) (G 11) nC nD v).2.2.2.2.2.1)) (va_up (va_up (va_up (va_up G 0 ((mr_X_choice (F 0) (F 1) (F 5) (F 13) (F 14) (G 0) (G 1) (G 10) (G 11) nC nD v).2.2.2.2.2.2.1)) 1 ((mr_X_choice (F 0) (F 1) (F 5) (F 13) (F 14) (G 0) (G 1) (G 10) (G 11) nC nD v).2.2.2.2.2.2.2.1)) 10 ((mr_X_choice (F 0) (F 1) (F 5) (F 13) (F 14) (G 0) (G 1) (G 10) (G 11) nC nD v).2.2.2.2.2.2.2.2.1)) 11 ((mr_X_choice (F 0) (F 1) (F 5) (F 13) (F 14) (G 0) (G 1) (G 10) (G 11) nC nD v).2.2.2.2.2.2.2.2.2))) := by simp only [em]; rw [upd_keep (f := F) (j := 0) (x := F 0) rfl, upd_keep (f := F) (j := 1) (x := F 1) rfl, upd_keep (f := F) (j := 5) (x := F 5) rfl, upd_keep (f := F) (j := 13) (x := F 13) rfl, upd_keep (f := F) (j := 14) (x := F 14) rfl, vup_keep (f := G) (j := 0) (x := G 0) rfl, vup_keep (f := G) (j := 1) (x := G 1) rfl, vup_keep (f := G) (j := 10) (x := G 10) rfl, vup_keep (f := G) (j := 11) (x := G 11) rfl]; exact hD
      exact tx_new (A := A) (i1 := 58) (i2 := 60) (i3 := 62) (own := RX) (up := xup) (tx := strsX_60) hlt hx hb (hml.trans hl.1.symm) hlk (hno _) hown (by decide +kernel) (by decide +kernel) (xo_use xo_2 hts) wt2 wx58 wn2 hZw (fun w9 h9 => hZ w9 (List.mem_append_left _ h9)) (hZ _ (List.mem_append_right _ mrX_60)) (fun q hq => (hS.2.1 q (Nat.lt_of_lt_of_le hq hZ0) (by rw [hAe]; exact hZA q hq)).trans (hZH q hq)) hS.2.2 dX_choice_11 dX_choice_14 dX_choice_15 dX_choice_17 dX_choice_20 (Nat.le_refl _) (Nat.le_refl _) (by decide) (by decide) rfl rfl (fun H1 h1 h2 => ⟨va_old hP9 h2, by rw [← hAe]; exact hD9⟩)
def mr_X_term (f2 : Int32) (f5 : Int32) (g0 : Nat → Int32) (g1 : Nat → Int32) (g2 : Nat → Int32) (g3 : Nat → Int32) (g4 : Nat → Int32) (g5 : Nat → Int32) (g6 : Nat → Int32) (g7 : Nat → Int32) (g10 : Nat → Int32) (nC : Nat) (nD : Nat) (nT : Nat) (nu : Int32) (a : Int32) (va : Int32) (b : Int32) (vb : Int32) (w : Int32) : Int32 × Int32 × Int32 × (Nat → Int32) × (Nat → Int32) × (Nat → Int32) × (Nat → Int32) × (Nat → Int32) × (Nat → Int32) × (Nat → Int32) := (if (mr_X_isNumber nu) = 0 then (0, f2, f5, g2, g3, g4, g5, g6, g7, g10) else (if (mr_Sh_hasValue g0 nC a va) = 0 then (0, f2, f5, g2, g3, g4, g5, g6, g7, g10) else (if ((if b = (-1) then 1 else 0) : Int32) = 0 then (if (mr_Sh_hasValue g0 nC b vb) = 0 then (0, f2, f5, g2, g3, g4, g5, g6, g7, g10) else (if a = b then (0, f2, f5, g2, g3, g4, g5, g6, g7, g10) else (if w < (-1000000) then (0, f2, f5, g2, g3, g4, g5, g6, g7, g10) else (if w ≤ 1000000 then (if (nI nT) < 100 then ((mr_Bo_addTerm g0 g1 g2 g3 g4 g5 g6 g7 g10 nD nT nu.toNatClampNeg ((g6 nu.toNatClampNeg).toNatClampNeg) a.toNatClampNeg va b vb w).1, (mr_Bo_addTerm g0 g1 g2 g3 g4 g5 g6 g7 g10 nD nT nu.toNatClampNeg ((g6 nu.toNatClampNeg).toNatClampNeg) a.toNatClampNeg va b vb w).1, mr_Fr_forget, (mr_Bo_addTerm g0 g1 g2 g3 g4 g5 g6 g7 g10 nD nT nu.toNatClampNeg ((g6 nu.toNatClampNeg).toNatClampNeg) a.toNatClampNeg va b vb w).2.1, (mr_Bo_addTerm g0 g1 g2 g3 g4 g5 g6 g7 g10 nD nT nu.toNatClampNeg ((g6 nu.toNatClampNeg).toNatClampNeg) a.toNatClampNeg va b vb w).2.2.1, (mr_Bo_addTerm g0 g1 g2 g3 g4 g5 g6 g7 g10 nD nT nu.toNatClampNeg ((g6 nu.toNatClampNeg).toNatClampNeg) a.toNatClampNeg va b vb w).2.2.2.1, (mr_Bo_addTerm g0 g1 g2 g3 g4 g5 g6 g7 g10 nD nT nu.toNatClampNeg ((g6 nu.toNatClampNeg).toNatClampNeg) a.toNatClampNeg va b vb w).2.2.2.2.1, (mr_Bo_addTerm g0 g1 g2 g3 g4 g5 g6 g7 g10 nD nT nu.toNatClampNeg ((g6 nu.toNatClampNeg).toNatClampNeg) a.toNatClampNeg va b vb w).2.2.2.2.2.1, (mr_Bo_addTerm g0 g1 g2 g3 g4 g5 g6 g7 g10 nD nT nu.toNatClampNeg ((g6 nu.toNatClampNeg).toNatClampNeg) a.toNatClampNeg va b vb w).2.2.2.2.2.2.1, (mr_Bo_addTerm g0 g1 g2 g3 g4 g5 g6 g7 g10 nD nT nu.toNatClampNeg ((g6 nu.toNatClampNeg).toNatClampNeg) a.toNatClampNeg va b vb w).2.2.2.2.2.2.2) else (0, f2, f5, g2, g3, g4, g5, g6, g7, g10)) else (0, f2, f5, g2, g3, g4, g5, g6, g7, g10))))) else (if a = b then (0, f2, f5, g2, g3, g4, g5, g6, g7, g10) else (if w < (-1000000) then (0, f2, f5, g2, g3, g4, g5, g6, g7, g10) else (if w ≤ 1000000 then (if (nI nT) < 100 then ((mr_Bo_addTerm g0 g1 g2 g3 g4 g5 g6 g7 g10 nD nT nu.toNatClampNeg ((g6 nu.toNatClampNeg).toNatClampNeg) a.toNatClampNeg va b vb w).1, (mr_Bo_addTerm g0 g1 g2 g3 g4 g5 g6 g7 g10 nD nT nu.toNatClampNeg ((g6 nu.toNatClampNeg).toNatClampNeg) a.toNatClampNeg va b vb w).1, mr_Fr_forget, (mr_Bo_addTerm g0 g1 g2 g3 g4 g5 g6 g7 g10 nD nT nu.toNatClampNeg ((g6 nu.toNatClampNeg).toNatClampNeg) a.toNatClampNeg va b vb w).2.1, (mr_Bo_addTerm g0 g1 g2 g3 g4 g5 g6 g7 g10 nD nT nu.toNatClampNeg ((g6 nu.toNatClampNeg).toNatClampNeg) a.toNatClampNeg va b vb w).2.2.1, (mr_Bo_addTerm g0 g1 g2 g3 g4 g5 g6 g7 g10 nD nT nu.toNatClampNeg ((g6 nu.toNatClampNeg).toNatClampNeg) a.toNatClampNeg va b vb w).2.2.2.1, (mr_Bo_addTerm g0 g1 g2 g3 g4 g5 g6 g7 g10 nD nT nu.toNatClampNeg ((g6 nu.toNatClampNeg).toNatClampNeg) a.toNatClampNeg va b vb w).2.2.2.2.1, (mr_Bo_addTerm g0 g1 g2 g3 g4 g5 g6 g7 g10 nD nT nu.toNatClampNeg ((g6 nu.toNatClampNeg).toNatClampNeg) a.toNatClampNeg va b vb w).2.2.2.2.2.1, (mr_Bo_addTerm g0 g1 g2 g3 g4 g5 g6 g7 g10 nD nT nu.toNatClampNeg ((g6 nu.toNatClampNeg).toNatClampNeg) a.toNatClampNeg va b vb w).2.2.2.2.2.2.1, (mr_Bo_addTerm g0 g1 g2 g3 g4 g5 g6 g7 g10 nD nT nu.toNatClampNeg ((g6 nu.toNatClampNeg).toNatClampNeg) a.toNatClampNeg va b vb w).2.2.2.2.2.2.2) else (0, f2, f5, g2, g3, g4, g5, g6, g7, g10)) else (0, f2, f5, g2, g3, g4, g5, g6, g7, g10)))))))
def mrx_X_term (g0 : Nat → Int32) (nC : Nat) (nD : Nat) (nT : Nat) (nu : Int32) (a : Int32) (va : Int32) (b : Int32) (vb : Int32) (w : Int32) : Int32 := (if (mr_X_isNumber nu) = 0 then 1 else (if (mr_Sh_hasValue g0 nC a va) = 0 then 1 else (if ((if b = (-1) then 1 else 0) : Int32) = 0 then (if (mr_Sh_hasValue g0 nC b vb) = 0 then 1 else (if a = b then 2 else (if w < (-1000000) then 2 else (if w ≤ 1000000 then (if (nI nT) < 100 then 0 else 3) else 2)))) else (if a = b then 2 else (if w < (-1000000) then 2 else (if w ≤ 1000000 then (if (nI nT) < 100 then 0 else 3) else 2))))))
set_option maxHeartbeats 4000000 in
set_option maxRecDepth 100000 in
theorem c_X_term (l : Launch) (D : va_G) (cl : List vw_C) (hcl : cOK cl) (oa ca : Nat → Nat) (ck : Nat → ClassId) (F : Nat → Int32) (G : Nat → Nat → Int32) {H0 : Heap} (hP : va_P D cl (cW oa ca ck F G) H0) (hD : va_D (fun _ => True) (cW oa ca ck F G)) (nC : Nat) (nD : Nat) (nT : Nat) (nu : Int32) (a : Int32) (va : Int32) (b : Int32) (vb : Int32) (w : Int32) (k0 : F 0 = nI nC) (hC : nC ≤ 8) (k1 : F 1 = nI nD) (hN : nD ≤ 4096) (k2 : F 2 = nI nT) (hT : nT ≤ 100) (mQT : ∀ n, n < 4 → ∃ t : Nat, t < nT + 1 ∧ G 6 n = nI t) (hnx : mrx_X_term (G 0) nC nD nT nu a va b vb w = 0) : ww_Met l yX_term wsX_term ({ frames := 3, cells := 0, slots := 0, locals := 74 } : Room) D cl (cT ck) H0 [.ref (oa 0), .int nu, .int a, .int va, .int b, .int vb, .int w] (cW oa ca ck F G) (some (.int ((mr_X_term (F 2) (F 5) (G 0) (G 1) (G 2) (G 3) (G 4) (G 5) (G 6) (G 7) (G 10) nC nD nT nu a va b vb w).1))) (cW oa ca ck (upd (upd F 2 ((mr_X_term (F 2) (F 5) (G 0) (G 1) (G 2) (G 3) (G 4) (G 5) (G 6) (G 7) (G 10) nC nD nT nu a va b vb w).2.1)) 5 ((mr_X_term (F 2) (F 5) (G 0) (G 1) (G 2) (G 3) (G 4) (G 5) (G 6) (G 7) (G 10) nC nD nT nu a va b vb w).2.2.1)) (va_up (va_up (va_up (va_up (va_up (va_up (va_up G 2 ((mr_X_term (F 2) (F 5) (G 0) (G 1) (G 2) (G 3) (G 4) (G 5) (G 6) (G 7) (G 10) nC nD nT nu a va b vb w).2.2.2.1)) 3 ((mr_X_term (F 2) (F 5) (G 0) (G 1) (G 2) (G 3) (G 4) (G 5) (G 6) (G 7) (G 10) nC nD nT nu a va b vb w).2.2.2.2.1)) 4 ((mr_X_term (F 2) (F 5) (G 0) (G 1) (G 2) (G 3) (G 4) (G 5) (G 6) (G 7) (G 10) nC nD nT nu a va b vb w).2.2.2.2.2.1)) 5 ((mr_X_term (F 2) (F 5) (G 0) (G 1) (G 2) (G 3) (G 4) (G 5) (G 6) (G 7) (G 10) nC nD nT nu a va b vb w).2.2.2.2.2.2.1)) 6 ((mr_X_term (F 2) (F 5) (G 0) (G 1) (G 2) (G 3) (G 4) (G 5) (G 6) (G 7) (G 10) nC nD nT nu a va b vb w).2.2.2.2.2.2.2.1)) 7 ((mr_X_term (F 2) (F 5) (G 0) (G 1) (G 2) (G 3) (G 4) (G 5) (G 6) (G 7) (G 10) nC nD nT nu a va b vb w).2.2.2.2.2.2.2.2.1)) 10 ((mr_X_term (F 2) (F 5) (G 0) (G 1) (G 2) (G 3) (G 4) (G 5) (G 6) (G 7) (G 10) nC nD nT nu a va b vb w).2.2.2.2.2.2.2.2.2))) := by
  refine ww_metI (by decide) rfl (Nat.le_of_ble_eq_true rfl) hP hD ?_
  intro p e s m args below meth c Q A Sx hK hP hD hS hA ls hl hret
  obtain ⟨hx, hb, hml, hown, hts⟩ := id Sx
  have hl : lv_has ls 8 [(0, .ref (oa 0)), (1, .int nu), (2, .int a), (3, .int va), (4, .int b), (5, .int vb), (6, .int w)] := hl
  obtain ⟨H, eH⟩ : ∃ H : Heap, H = H0 := ⟨_, rfl⟩
  obtain ⟨locs, eL⟩ : ∃ L : List Loc, L = [] := ⟨_, rfl⟩
  have hP : va_P D cl (cW oa ca ck F G) H := by rw [eH]; exact hP
  have hS : va_S A H0 H locs := by rw [eH, eL]; exact hS
  rw [show W p l e ({ frames := 3, cells := 0, slots := 0, locals := 74 } : Room) s m args below meth c H0 [] 0 0 Q (F0 m 0 ls []) = W p l e ({ frames := 3, cells := 0, slots := 0, locals := 74 } : Room) s m args below meth c H locs 0 0 Q (F0 m 0 ls []) by rw [eH, eL]]
  clear eH eL
  have f12 := hts _ (List.mem_cons_of_mem _ mfX_12)
  have inX_ : ∀ w ∈ wsX0, w ∈ wsX_term := fun w h => List.mem_cons_of_mem _ (inX_all w h)
  have k103 := hts _ (List.mem_cons_of_mem _ mkX_103)
  have k104 := hts _ (List.mem_cons_of_mem _ mkX_104)
  have f21 := hts _ (List.mem_cons_of_mem _ mfX_21)
  have f107 := hts _ (List.mem_cons_of_mem _ mfX_107)
  have inBo_ : ∀ w ∈ wsBo0, w ∈ wsX_term := fun w h => List.mem_cons_of_mem _ (inBo_all w h)
  have f30 := hts _ (List.mem_cons_of_mem _ mfX_30)
  refine lv_iload hx hb dX_term_0 (lv_at hl 4 rfl) ?_
  refine lv_iconst (v := (-1)) hx hb dX_term_2 (by decide) ?_
  have j11 : ∀ (ls : Array Slot), lv_has ls 8 [(0, .ref (oa 0)), (1, .int nu), (2, .int a), (3, .int va), (4, .int b), (5, .int vb), (6, .int w)] → W p l e ({ frames := 3, cells := 0, slots := 0, locals := 74 } : Room) s m args below meth c H locs 0 0 Q (F0 m 11 ls [.int ((if b = (-1) then 1 else 0) : Int32)]) := by
    intro ls hl
    refine lv_istore (lv' := [(7, .int ((if b = (-1) then 1 else 0) : Int32)), (0, .ref (oa 0)), (1, .int nu), (2, .int a), (3, .int va), (4, .int b), (5, .int vb), (6, .int w)]) hx hb dX_term_11 hl (by decide) rfl (fun ls hl => ?_)
    refine lv_iload_n hx hb dX_term_13 rfl (lv_at hl 2 rfl) ?_
    refine ro_callS (r := (.int (mr_X_isNumber nu))) (As := [.int nu]) (rest := []) Sx (c_X_isNumber l D cl hcl oa ca ck F G hP nu) (va_cwS 1 hts gX_term_X_isNumber rfl rfl rfl (by decide +kernel) ⟨Nat.le_of_ble_eq_true rfl, Nat.le_of_ble_eq_true rfl⟩) hK rfl hl.1 rfl (Nat.le_of_ble_eq_true rfl) dX_term_14 ⟨Nat.zero_le _, Nat.zero_le _⟩ ?_
    refine lv_if_eq (tgt := 51) hx hb dX_term_17 (by decide) (fun c17 => ?_) (fun c17 => ?_)
    · exact absurd hnx (by rw [mrx_X_term, if_pos c17]; decide)
    · have xn := ix_cl (num_ix c17) (by omega)
      have xn2 := xn.2
      refine lv_aload_n hx hb dX_term_20 rfl (lv_at hl 1 rfl) ?_
      refine va_get (D := D) (ci := 1) (v := .ref (oa 1)) (C := RX) (T := TX) (N := 6) hx hb hts inX_ hown hK hP 0 rfl hcl.1 0 (by decide) f12 (fun _ h9 => h9) rfl dX_term_21 ?_
      refine lv_iload_n hx hb dX_term_24 rfl (lv_at hl 3 rfl) ?_
      refine lv_iload_n hx hb dX_term_25 rfl (lv_at hl 4 rfl) ?_
      refine ro_callV (r := (.int (mr_Sh_hasValue (G 0) nC a va))) (As := [.int a, .int va]) (rest := []) Sx (c_Sh_hasValue l D cl hcl oa ca ck F G hP nC a va k0 hC) (cwV 2 hts gX_term_Sh_hasValue rfl rfl rfl (by decide +kernel) ⟨Nat.le_of_ble_eq_true rfl, Nat.le_of_ble_eq_true rfl⟩) hK (va_recv hK hP (ci := 2) (q0 := 1) hcl.2.1 rfl) rfl hl.1 rfl (Nat.le_of_ble_eq_true rfl) dX_term_26 ⟨Nat.zero_le _, Nat.zero_le _⟩ ?_
      refine lv_if_eq (tgt := 51) hx hb dX_term_29 (by decide) (fun c29 => ?_) (fun c29 => ?_)
      · exact absurd hnx (by rw [mrx_X_term, if_neg c17, if_pos c29]; decide)
      · have xa := ix_cl (hv_ix hC c29) (by omega)
        have xa2 := xa.2
        refine lv_iload hx hb dX_term_32 (lv_at hl 0 rfl) ?_
        refine lv_if_ne (tgt := 61) hx hb dX_term_34 (by decide) (fun c34 => ?_) (fun c34 => ?_)
        · refine lv_iload_n hx hb dX_term_61 rfl (lv_at hl 3 rfl) ?_
          refine lv_iload hx hb dX_term_62 (lv_at hl 5 rfl) ?_
          refine lv_icmp_eq (tgt := 81) hx hb dX_term_64 (by decide) (fun c64 => ?_) (fun c64 => ?_)
          · exact absurd hnx (by rw [mrx_X_term, if_neg c17, if_neg c29, if_neg c34, if_pos c64]; decide)
          · refine lv_iload hx hb dX_term_67 (lv_at hl 7 rfl) ?_
            refine lv_ldc hx hb hown k103 dX_term_69 ?_
            refine lv_icmp_lt (tgt := 81) hx hb dX_term_71 (by decide) (fun c71 => ?_) (fun c71 => ?_)
            · exact absurd hnx (by rw [mrx_X_term, if_neg c17, if_neg c29, if_neg c34, if_neg c64, if_pos c71]; decide)
            · refine lv_iload hx hb dX_term_74 (lv_at hl 7 rfl) ?_
              refine lv_ldc hx hb hown k104 dX_term_76 ?_
              refine lv_icmp_le (tgt := 91) hx hb dX_term_78 (by decide) (fun c78 => ?_) (fun c78 => ?_)
              · refine lv_aload_n hx hb dX_term_91 rfl (lv_at hl 1 rfl) ?_
                refine va_get (D := D) (ci := 1) (v := .ref (oa 3)) (C := RX) (T := TX) (N := 6) hx hb hts inX_ hown hK hP 0 rfl hcl.1 1 (by decide) f21 (fun _ h9 => h9) rfl dX_term_92 ?_
                refine va_get (D := D) (ci := 4) (v := .int (F 2)) (C := RBo) (T := TBo) (N := 10) hx hb hts inBo_ hown hK hP 3 rfl hcl.2.2.2.1 4 (by decide) f107 (fun _ h9 => h9) rfl dX_term_95 ?_
                refine wt_i k2 ?_
                refine lv_bipush (v := 100) hx hb dX_term_98 (by decide) ?_
                refine lv_icmp_lt (tgt := 113) hx hb dX_term_100 (by decide) (fun c100 => ?_) (fun c100 => ?_)
                · have n100 : nT < 100 := (nI_ltI (a := nT) (b := 100) (by omega) (by omega)).mp c100
                  have xt := ix_cl (mQT nu.toNatClampNeg xn.2) (by omega)
                  have xt2 := xt.2
                  refine lv_aload_n hx hb dX_term_113 rfl (lv_at hl 1 rfl) ?_
                  refine va_get (D := D) (ci := 1) (v := .ref (oa 3)) (C := RX) (T := TX) (N := 6) hx hb hts inX_ hown hK hP 0 rfl hcl.1 1 (by decide) f21 (fun _ h9 => h9) rfl dX_term_114 ?_
                  refine lv_iload_n hx hb dX_term_117 rfl (lv_at hl 2 rfl) ?_
                  refine wt_i (r := nI (nu.toNatClampNeg)) (by exact xn.1) ?_
                  refine lv_iload_n hx hb dX_term_118 rfl (lv_at hl 3 rfl) ?_
                  refine wt_i (r := nI (a.toNatClampNeg)) (by exact xa.1) ?_
                  refine lv_iload_n hx hb dX_term_119 rfl (lv_at hl 4 rfl) ?_
                  refine lv_iload hx hb dX_term_120 (lv_at hl 5 rfl) ?_
                  refine lv_iload hx hb dX_term_122 (lv_at hl 6 rfl) ?_
                  refine lv_iload hx hb dX_term_124 (lv_at hl 7 rfl) ?_
                  refine ww_callV (r := none) (w' := cW oa ca ck (upd F 2 ((mr_Bo_addTerm (G 0) (G 1) (G 2) (G 3) (G 4) (G 5) (G 6) (G 7) (G 10) nD nT nu.toNatClampNeg ((G 6 nu.toNatClampNeg).toNatClampNeg) a.toNatClampNeg va b vb w).1)) (va_up (va_up (va_up (va_up (va_up (va_up (va_up G 2 ((mr_Bo_addTerm (G 0) (G 1) (G 2) (G 3) (G 4) (G 5) (G 6) (G 7) (G 10) nD nT nu.toNatClampNeg ((G 6 nu.toNatClampNeg).toNatClampNeg) a.toNatClampNeg va b vb w).2.1)) 3 ((mr_Bo_addTerm (G 0) (G 1) (G 2) (G 3) (G 4) (G 5) (G 6) (G 7) (G 10) nD nT nu.toNatClampNeg ((G 6 nu.toNatClampNeg).toNatClampNeg) a.toNatClampNeg va b vb w).2.2.1)) 4 ((mr_Bo_addTerm (G 0) (G 1) (G 2) (G 3) (G 4) (G 5) (G 6) (G 7) (G 10) nD nT nu.toNatClampNeg ((G 6 nu.toNatClampNeg).toNatClampNeg) a.toNatClampNeg va b vb w).2.2.2.1)) 5 ((mr_Bo_addTerm (G 0) (G 1) (G 2) (G 3) (G 4) (G 5) (G 6) (G 7) (G 10) nD nT nu.toNatClampNeg ((G 6 nu.toNatClampNeg).toNatClampNeg) a.toNatClampNeg va b vb w).2.2.2.2.1)) 6 ((mr_Bo_addTerm (G 0) (G 1) (G 2) (G 3) (G 4) (G 5) (G 6) (G 7) (G 10) nD nT nu.toNatClampNeg ((G 6 nu.toNatClampNeg).toNatClampNeg) a.toNatClampNeg va b vb w).2.2.2.2.2.1)) 7 ((mr_Bo_addTerm (G 0) (G 1) (G 2) (G 3) (G 4) (G 5) (G 6) (G 7) (G 10) nD nT nu.toNatClampNeg ((G 6 nu.toNatClampNeg).toNatClampNeg) a.toNatClampNeg va b vb w).2.2.2.2.2.2.1)) 10 ((mr_Bo_addTerm (G 0) (G 1) (G 2) (G 3) (G 4) (G 5) (G 6) (G 7) (G 10) nD nT nu.toNatClampNeg ((G 6 nu.toNatClampNeg).toNatClampNeg) a.toNatClampNeg va b vb w).2.2.2.2.2.2.2))) (As := [.int (nI (nu.toNatClampNeg)), .int (nI (a.toNatClampNeg)), .int va, .int b, .int vb, .int w]) (rest := []) Sx (c_Bo_addTerm l D cl hcl oa ca ck F G hP (hD.weaken (fun _ _ _ _ => trivial)) nD nT nu.toNatClampNeg ((G 6 nu.toNatClampNeg).toNatClampNeg) a.toNatClampNeg va b vb w k1 hN k2 xn.2 xt.1 (by omega) (by omega) (by first | exact Or.inl (sg_1 c34) | exact Or.inr (hv_8 hC c48))) (cwV 6 hts gX_term_Bo_addTerm rfl rfl rfl (by decide +kernel) ⟨Nat.le_of_ble_eq_true rfl, Nat.le_of_ble_eq_true rfl⟩) hK (va_recv hK hP (ci := 4) (q0 := 3) hcl.2.2.2.1 rfl) rfl hl.1 rfl (Nat.le_of_ble_eq_true rfl) dX_term_126 ⟨Nat.zero_le _, Nat.zero_le _⟩ hD hS hA (fun H locs hP hD hS => ?_)
                  refine lv_aload_n hx hb dX_term_129 rfl (lv_at hl 1 rfl) ?_
                  refine va_get (D := D) (ci := 1) (v := .ref (oa 4)) (C := RX) (T := TX) (N := 6) hx hb hts inX_ hown hK hP 0 rfl hcl.1 2 (by decide) f30 (fun _ h9 => h9) rfl dX_term_130 ?_
                  refine ww_callV (r := none) (w' := cW oa ca ck (upd (upd F 2 ((mr_Bo_addTerm (G 0) (G 1) (G 2) (G 3) (G 4) (G 5) (G 6) (G 7) (G 10) nD nT nu.toNatClampNeg ((G 6 nu.toNatClampNeg).toNatClampNeg) a.toNatClampNeg va b vb w).1)) 5 mr_Fr_forget) (va_up (va_up (va_up (va_up (va_up (va_up (va_up G 2 ((mr_Bo_addTerm (G 0) (G 1) (G 2) (G 3) (G 4) (G 5) (G 6) (G 7) (G 10) nD nT nu.toNatClampNeg ((G 6 nu.toNatClampNeg).toNatClampNeg) a.toNatClampNeg va b vb w).2.1)) 3 ((mr_Bo_addTerm (G 0) (G 1) (G 2) (G 3) (G 4) (G 5) (G 6) (G 7) (G 10) nD nT nu.toNatClampNeg ((G 6 nu.toNatClampNeg).toNatClampNeg) a.toNatClampNeg va b vb w).2.2.1)) 4 ((mr_Bo_addTerm (G 0) (G 1) (G 2) (G 3) (G 4) (G 5) (G 6) (G 7) (G 10) nD nT nu.toNatClampNeg ((G 6 nu.toNatClampNeg).toNatClampNeg) a.toNatClampNeg va b vb w).2.2.2.1)) 5 ((mr_Bo_addTerm (G 0) (G 1) (G 2) (G 3) (G 4) (G 5) (G 6) (G 7) (G 10) nD nT nu.toNatClampNeg ((G 6 nu.toNatClampNeg).toNatClampNeg) a.toNatClampNeg va b vb w).2.2.2.2.1)) 6 ((mr_Bo_addTerm (G 0) (G 1) (G 2) (G 3) (G 4) (G 5) (G 6) (G 7) (G 10) nD nT nu.toNatClampNeg ((G 6 nu.toNatClampNeg).toNatClampNeg) a.toNatClampNeg va b vb w).2.2.2.2.2.1)) 7 ((mr_Bo_addTerm (G 0) (G 1) (G 2) (G 3) (G 4) (G 5) (G 6) (G 7) (G 10) nD nT nu.toNatClampNeg ((G 6 nu.toNatClampNeg).toNatClampNeg) a.toNatClampNeg va b vb w).2.2.2.2.2.2.1)) 10 ((mr_Bo_addTerm (G 0) (G 1) (G 2) (G 3) (G 4) (G 5) (G 6) (G 7) (G 10) nD nT nu.toNatClampNeg ((G 6 nu.toNatClampNeg).toNatClampNeg) a.toNatClampNeg va b vb w).2.2.2.2.2.2.2))) (As := []) (rest := []) Sx (c_Fr_forget l D cl hcl oa ca ck (upd F 2 ((mr_Bo_addTerm (G 0) (G 1) (G 2) (G 3) (G 4) (G 5) (G 6) (G 7) (G 10) nD nT nu.toNatClampNeg ((G 6 nu.toNatClampNeg).toNatClampNeg) a.toNatClampNeg va b vb w).1)) (va_up (va_up (va_up (va_up (va_up (va_up (va_up G 2 ((mr_Bo_addTerm (G 0) (G 1) (G 2) (G 3) (G 4) (G 5) (G 6) (G 7) (G 10) nD nT nu.toNatClampNeg ((G 6 nu.toNatClampNeg).toNatClampNeg) a.toNatClampNeg va b vb w).2.1)) 3 ((mr_Bo_addTerm (G 0) (G 1) (G 2) (G 3) (G 4) (G 5) (G 6) (G 7) (G 10) nD nT nu.toNatClampNeg ((G 6 nu.toNatClampNeg).toNatClampNeg) a.toNatClampNeg va b vb w).2.2.1)) 4 ((mr_Bo_addTerm (G 0) (G 1) (G 2) (G 3) (G 4) (G 5) (G 6) (G 7) (G 10) nD nT nu.toNatClampNeg ((G 6 nu.toNatClampNeg).toNatClampNeg) a.toNatClampNeg va b vb w).2.2.2.1)) 5 ((mr_Bo_addTerm (G 0) (G 1) (G 2) (G 3) (G 4) (G 5) (G 6) (G 7) (G 10) nD nT nu.toNatClampNeg ((G 6 nu.toNatClampNeg).toNatClampNeg) a.toNatClampNeg va b vb w).2.2.2.2.1)) 6 ((mr_Bo_addTerm (G 0) (G 1) (G 2) (G 3) (G 4) (G 5) (G 6) (G 7) (G 10) nD nT nu.toNatClampNeg ((G 6 nu.toNatClampNeg).toNatClampNeg) a.toNatClampNeg va b vb w).2.2.2.2.2.1)) 7 ((mr_Bo_addTerm (G 0) (G 1) (G 2) (G 3) (G 4) (G 5) (G 6) (G 7) (G 10) nD nT nu.toNatClampNeg ((G 6 nu.toNatClampNeg).toNatClampNeg) a.toNatClampNeg va b vb w).2.2.2.2.2.2.1)) 10 ((mr_Bo_addTerm (G 0) (G 1) (G 2) (G 3) (G 4) (G 5) (G 6) (G 7) (G 10) nD nT nu.toNatClampNeg ((G 6 nu.toNatClampNeg).toNatClampNeg) a.toNatClampNeg va b vb w).2.2.2.2.2.2.2)) hP (hD.weaken (fun _ _ _ _ => trivial))) (cwV 0 hts gX_term_Fr_forget rfl rfl rfl (by decide +kernel) ⟨Nat.le_of_ble_eq_true rfl, Nat.le_of_ble_eq_true rfl⟩) hK (va_recv hK hP (ci := 5) (q0 := 4) hcl.2.2.2.2.1 rfl) rfl hl.1 rfl (Nat.le_of_ble_eq_true rfl) dX_term_133 ⟨Nat.zero_le _, Nat.zero_le _⟩ hD hS hA (fun H locs hP hD hS => ?_)
                  refine lv_aload_n hx hb dX_term_136 rfl (lv_at hl 1 rfl) ?_
                  refine va_get (D := D) (ci := 1) (v := .ref (oa 3)) (C := RX) (T := TX) (N := 6) hx hb hts inX_ hown hK hP 0 rfl hcl.1 1 (by decide) f21 (fun _ h9 => h9) rfl dX_term_137 ?_
                  have ef140 : (upd (upd F 2 ((mr_Bo_addTerm (G 0) (G 1) (G 2) (G 3) (G 4) (G 5) (G 6) (G 7) (G 10) nD nT nu.toNatClampNeg ((G 6 nu.toNatClampNeg).toNatClampNeg) a.toNatClampNeg va b vb w).1)) 5 mr_Fr_forget) 2 = (mr_Bo_addTerm (G 0) (G 1) (G 2) (G 3) (G 4) (G 5) (G 6) (G 7) (G 10) nD nT nu.toNatClampNeg ((G 6 nu.toNatClampNeg).toNatClampNeg) a.toNatClampNeg va b vb w).1 := by rw [pk_un (k := 5) (j := 2) (by decide), pk_us]
                  refine va_get (D := D) (ci := 4) (v := .int ((mr_Bo_addTerm (G 0) (G 1) (G 2) (G 3) (G 4) (G 5) (G 6) (G 7) (G 10) nD nT nu.toNatClampNeg ((G 6 nu.toNatClampNeg).toNatClampNeg) a.toNatClampNeg va b vb w).1)) (C := RBo) (T := TBo) (N := 10) hx hb hts inBo_ hown hK hP 3 rfl hcl.2.2.2.1 4 (by decide) f107 (fun _ h9 => h9) (congrArg (fun z => some (Value.int z)) ef140) dX_term_140 ?_
                  have em : mr_X_term (F 2) (F 5) (G 0) (G 1) (G 2) (G 3) (G 4) (G 5) (G 6) (G 7) (G 10) nC nD nT nu a va b vb w = ((mr_Bo_addTerm (G 0) (G 1) (G 2) (G 3) (G 4) (G 5) (G 6) (G 7) (G 10) nD nT nu.toNatClampNeg ((G 6 nu.toNatClampNeg).toNatClampNeg) a.toNatClampNeg va b vb w).1, (mr_Bo_addTerm (G 0) (G 1) (G 2) (G 3) (G 4) (G 5) (G 6) (G 7) (G 10) nD nT nu.toNatClampNeg ((G 6 nu.toNatClampNeg).toNatClampNeg) a.toNatClampNeg va b vb w).1, mr_Fr_forget, (mr_Bo_addTerm (G 0) (G 1) (G 2) (G 3) (G 4) (G 5) (G 6) (G 7) (G 10) nD nT nu.toNatClampNeg ((G 6 nu.toNatClampNeg).toNatClampNeg) a.toNatClampNeg va b vb w).2.1, (mr_Bo_addTerm (G 0) (G 1) (G 2) (G 3) (G 4) (G 5) (G 6) (G 7) (G 10) nD nT nu.toNatClampNeg ((G 6 nu.toNatClampNeg).toNatClampNeg) a.toNatClampNeg va b vb w).2.2.1, (mr_Bo_addTerm (G 0) (G 1) (G 2) (G 3) (G 4) (G 5) (G 6) (G 7) (G 10) nD nT nu.toNatClampNeg ((G 6 nu.toNatClampNeg).toNatClampNeg) a.toNatClampNeg va b vb w).2.2.2.1, (mr_Bo_addTerm (G 0) (G 1) (G 2) (G 3) (G 4) (G 5) (G 6) (G 7) (G 10) nD nT nu.toNatClampNeg ((G 6 nu.toNatClampNeg).toNatClampNeg) a.toNatClampNeg va b vb w).2.2.2.2.1, (mr_Bo_addTerm (G 0) (G 1) (G 2) (G 3) (G 4) (G 5) (G 6) (G 7) (G 10) nD nT nu.toNatClampNeg ((G 6 nu.toNatClampNeg).toNatClampNeg) a.toNatClampNeg va b vb w).2.2.2.2.2.1, (mr_Bo_addTerm (G 0) (G 1) (G 2) (G 3) (G 4) (G 5) (G 6) (G 7) (G 10) nD nT nu.toNatClampNeg ((G 6 nu.toNatClampNeg).toNatClampNeg) a.toNatClampNeg va b vb w).2.2.2.2.2.2.1, (mr_Bo_addTerm (G 0) (G 1) (G 2) (G 3) (G 4) (G 5) (G 6) (G 7) (G 10) nD nT nu.toNatClampNeg ((G 6 nu.toNatClampNeg).toNatClampNeg) a.toNatClampNeg va b vb w).2.2.2.2.2.2.2) := by rw [mr_X_term, if_neg c17, if_neg c29, if_neg c34, if_neg c64, if_neg c71, if_pos c78, if_pos c100]
                  exact hret _ _ _ _ _ _ (by simp only [em]) (by simp only [em]) hP hD hS dX_term_143
                · have n100 : ¬ nT < 100 := fun h9 => c100 ((nI_ltI (a := nT) (b := 100) (by omega) (by omega)).mpr h9)
                  exact absurd hnx (by rw [mrx_X_term, if_neg c17, if_neg c29, if_neg c34, if_neg c64, if_neg c71, if_pos c78, if_neg c100]; decide)
              · exact absurd hnx (by rw [mrx_X_term, if_neg c17, if_neg c29, if_neg c34, if_neg c64, if_neg c71, if_neg c78]; decide)
        · refine lv_aload_n hx hb dX_term_37 rfl (lv_at hl 1 rfl) ?_
          refine va_get (D := D) (ci := 1) (v := .ref (oa 1)) (C := RX) (T := TX) (N := 6) hx hb hts inX_ hown hK hP 0 rfl hcl.1 0 (by decide) f12 (fun _ h9 => h9) rfl dX_term_38 ?_
          refine lv_iload hx hb dX_term_41 (lv_at hl 5 rfl) ?_
          refine lv_iload hx hb dX_term_43 (lv_at hl 6 rfl) ?_
          refine ro_callV (r := (.int (mr_Sh_hasValue (G 0) nC b vb))) (As := [.int b, .int vb]) (rest := []) Sx (c_Sh_hasValue l D cl hcl oa ca ck F G hP nC b vb k0 hC) (cwV 2 hts gX_term_Sh_hasValue rfl rfl rfl (by decide +kernel) ⟨Nat.le_of_ble_eq_true rfl, Nat.le_of_ble_eq_true rfl⟩) hK (va_recv hK hP (ci := 2) (q0 := 1) hcl.2.1 rfl) rfl hl.1 rfl (Nat.le_of_ble_eq_true rfl) dX_term_45 ⟨Nat.zero_le _, Nat.zero_le _⟩ ?_
          refine lv_if_ne (tgt := 61) hx hb dX_term_48 (by decide) (fun c48 => ?_) (fun c48 => ?_)
          · refine lv_iload_n hx hb dX_term_61 rfl (lv_at hl 3 rfl) ?_
            refine lv_iload hx hb dX_term_62 (lv_at hl 5 rfl) ?_
            refine lv_icmp_eq (tgt := 81) hx hb dX_term_64 (by decide) (fun c64 => ?_) (fun c64 => ?_)
            · exact absurd hnx (by rw [mrx_X_term, if_neg c17, if_neg c29, if_pos c34, if_neg c48, if_pos c64]; decide)
            · refine lv_iload hx hb dX_term_67 (lv_at hl 7 rfl) ?_
              refine lv_ldc hx hb hown k103 dX_term_69 ?_
              refine lv_icmp_lt (tgt := 81) hx hb dX_term_71 (by decide) (fun c71 => ?_) (fun c71 => ?_)
              · exact absurd hnx (by rw [mrx_X_term, if_neg c17, if_neg c29, if_pos c34, if_neg c48, if_neg c64, if_pos c71]; decide)
              · refine lv_iload hx hb dX_term_74 (lv_at hl 7 rfl) ?_
                refine lv_ldc hx hb hown k104 dX_term_76 ?_
                refine lv_icmp_le (tgt := 91) hx hb dX_term_78 (by decide) (fun c78 => ?_) (fun c78 => ?_)
                · refine lv_aload_n hx hb dX_term_91 rfl (lv_at hl 1 rfl) ?_
                  refine va_get (D := D) (ci := 1) (v := .ref (oa 3)) (C := RX) (T := TX) (N := 6) hx hb hts inX_ hown hK hP 0 rfl hcl.1 1 (by decide) f21 (fun _ h9 => h9) rfl dX_term_92 ?_
                  refine va_get (D := D) (ci := 4) (v := .int (F 2)) (C := RBo) (T := TBo) (N := 10) hx hb hts inBo_ hown hK hP 3 rfl hcl.2.2.2.1 4 (by decide) f107 (fun _ h9 => h9) rfl dX_term_95 ?_
                  refine wt_i k2 ?_
                  refine lv_bipush (v := 100) hx hb dX_term_98 (by decide) ?_
                  refine lv_icmp_lt (tgt := 113) hx hb dX_term_100 (by decide) (fun c100 => ?_) (fun c100 => ?_)
                  · have n100 : nT < 100 := (nI_ltI (a := nT) (b := 100) (by omega) (by omega)).mp c100
                    have xt := ix_cl (mQT nu.toNatClampNeg xn.2) (by omega)
                    have xt2 := xt.2
                    refine lv_aload_n hx hb dX_term_113 rfl (lv_at hl 1 rfl) ?_
                    refine va_get (D := D) (ci := 1) (v := .ref (oa 3)) (C := RX) (T := TX) (N := 6) hx hb hts inX_ hown hK hP 0 rfl hcl.1 1 (by decide) f21 (fun _ h9 => h9) rfl dX_term_114 ?_
                    refine lv_iload_n hx hb dX_term_117 rfl (lv_at hl 2 rfl) ?_
                    refine wt_i (r := nI (nu.toNatClampNeg)) (by exact xn.1) ?_
                    refine lv_iload_n hx hb dX_term_118 rfl (lv_at hl 3 rfl) ?_
                    refine wt_i (r := nI (a.toNatClampNeg)) (by exact xa.1) ?_
                    refine lv_iload_n hx hb dX_term_119 rfl (lv_at hl 4 rfl) ?_
                    refine lv_iload hx hb dX_term_120 (lv_at hl 5 rfl) ?_
                    refine lv_iload hx hb dX_term_122 (lv_at hl 6 rfl) ?_
                    refine lv_iload hx hb dX_term_124 (lv_at hl 7 rfl) ?_
                    refine ww_callV (r := none) (w' := cW oa ca ck (upd F 2 ((mr_Bo_addTerm (G 0) (G 1) (G 2) (G 3) (G 4) (G 5) (G 6) (G 7) (G 10) nD nT nu.toNatClampNeg ((G 6 nu.toNatClampNeg).toNatClampNeg) a.toNatClampNeg va b vb w).1)) (va_up (va_up (va_up (va_up (va_up (va_up (va_up G 2 ((mr_Bo_addTerm (G 0) (G 1) (G 2) (G 3) (G 4) (G 5) (G 6) (G 7) (G 10) nD nT nu.toNatClampNeg ((G 6 nu.toNatClampNeg).toNatClampNeg) a.toNatClampNeg va b vb w).2.1)) 3 ((mr_Bo_addTerm (G 0) (G 1) (G 2) (G 3) (G 4) (G 5) (G 6) (G 7) (G 10) nD nT nu.toNatClampNeg ((G 6 nu.toNatClampNeg).toNatClampNeg) a.toNatClampNeg va b vb w).2.2.1)) 4 ((mr_Bo_addTerm (G 0) (G 1) (G 2) (G 3) (G 4) (G 5) (G 6) (G 7) (G 10) nD nT nu.toNatClampNeg ((G 6 nu.toNatClampNeg).toNatClampNeg) a.toNatClampNeg va b vb w).2.2.2.1)) 5 ((mr_Bo_addTerm (G 0) (G 1) (G 2) (G 3) (G 4) (G 5) (G 6) (G 7) (G 10) nD nT nu.toNatClampNeg ((G 6 nu.toNatClampNeg).toNatClampNeg) a.toNatClampNeg va b vb w).2.2.2.2.1)) 6 ((mr_Bo_addTerm (G 0) (G 1) (G 2) (G 3) (G 4) (G 5) (G 6) (G 7) (G 10) nD nT nu.toNatClampNeg ((G 6 nu.toNatClampNeg).toNatClampNeg) a.toNatClampNeg va b vb w).2.2.2.2.2.1)) 7 ((mr_Bo_addTerm (G 0) (G 1) (G 2) (G 3) (G 4) (G 5) (G 6) (G 7) (G 10) nD nT nu.toNatClampNeg ((G 6 nu.toNatClampNeg).toNatClampNeg) a.toNatClampNeg va b vb w).2.2.2.2.2.2.1)) 10 ((mr_Bo_addTerm (G 0) (G 1) (G 2) (G 3) (G 4) (G 5) (G 6) (G 7) (G 10) nD nT nu.toNatClampNeg ((G 6 nu.toNatClampNeg).toNatClampNeg) a.toNatClampNeg va b vb w).2.2.2.2.2.2.2))) (As := [.int (nI (nu.toNatClampNeg)), .int (nI (a.toNatClampNeg)), .int va, .int b, .int vb, .int w]) (rest := []) Sx (c_Bo_addTerm l D cl hcl oa ca ck F G hP (hD.weaken (fun _ _ _ _ => trivial)) nD nT nu.toNatClampNeg ((G 6 nu.toNatClampNeg).toNatClampNeg) a.toNatClampNeg va b vb w k1 hN k2 xn.2 xt.1 (by omega) (by omega) (by first | exact Or.inl (sg_1 c34) | exact Or.inr (hv_8 hC c48))) (cwV 6 hts gX_term_Bo_addTerm rfl rfl rfl (by decide +kernel) ⟨Nat.le_of_ble_eq_true rfl, Nat.le_of_ble_eq_true rfl⟩) hK (va_recv hK hP (ci := 4) (q0 := 3) hcl.2.2.2.1 rfl) rfl hl.1 rfl (Nat.le_of_ble_eq_true rfl) dX_term_126 ⟨Nat.zero_le _, Nat.zero_le _⟩ hD hS hA (fun H locs hP hD hS => ?_)
                    refine lv_aload_n hx hb dX_term_129 rfl (lv_at hl 1 rfl) ?_
                    refine va_get (D := D) (ci := 1) (v := .ref (oa 4)) (C := RX) (T := TX) (N := 6) hx hb hts inX_ hown hK hP 0 rfl hcl.1 2 (by decide) f30 (fun _ h9 => h9) rfl dX_term_130 ?_
                    refine ww_callV (r := none) (w' := cW oa ca ck (upd (upd F 2 ((mr_Bo_addTerm (G 0) (G 1) (G 2) (G 3) (G 4) (G 5) (G 6) (G 7) (G 10) nD nT nu.toNatClampNeg ((G 6 nu.toNatClampNeg).toNatClampNeg) a.toNatClampNeg va b vb w).1)) 5 mr_Fr_forget) (va_up (va_up (va_up (va_up (va_up (va_up (va_up G 2 ((mr_Bo_addTerm (G 0) (G 1) (G 2) (G 3) (G 4) (G 5) (G 6) (G 7) (G 10) nD nT nu.toNatClampNeg ((G 6 nu.toNatClampNeg).toNatClampNeg) a.toNatClampNeg va b vb w).2.1)) 3 ((mr_Bo_addTerm (G 0) (G 1) (G 2) (G 3) (G 4) (G 5) (G 6) (G 7) (G 10) nD nT nu.toNatClampNeg ((G 6 nu.toNatClampNeg).toNatClampNeg) a.toNatClampNeg va b vb w).2.2.1)) 4 ((mr_Bo_addTerm (G 0) (G 1) (G 2) (G 3) (G 4) (G 5) (G 6) (G 7) (G 10) nD nT nu.toNatClampNeg ((G 6 nu.toNatClampNeg).toNatClampNeg) a.toNatClampNeg va b vb w).2.2.2.1)) 5 ((mr_Bo_addTerm (G 0) (G 1) (G 2) (G 3) (G 4) (G 5) (G 6) (G 7) (G 10) nD nT nu.toNatClampNeg ((G 6 nu.toNatClampNeg).toNatClampNeg) a.toNatClampNeg va b vb w).2.2.2.2.1)) 6 ((mr_Bo_addTerm (G 0) (G 1) (G 2) (G 3) (G 4) (G 5) (G 6) (G 7) (G 10) nD nT nu.toNatClampNeg ((G 6 nu.toNatClampNeg).toNatClampNeg) a.toNatClampNeg va b vb w).2.2.2.2.2.1)) 7 ((mr_Bo_addTerm (G 0) (G 1) (G 2) (G 3) (G 4) (G 5) (G 6) (G 7) (G 10) nD nT nu.toNatClampNeg ((G 6 nu.toNatClampNeg).toNatClampNeg) a.toNatClampNeg va b vb w).2.2.2.2.2.2.1)) 10 ((mr_Bo_addTerm (G 0) (G 1) (G 2) (G 3) (G 4) (G 5) (G 6) (G 7) (G 10) nD nT nu.toNatClampNeg ((G 6 nu.toNatClampNeg).toNatClampNeg) a.toNatClampNeg va b vb w).2.2.2.2.2.2.2))) (As := []) (rest := []) Sx (c_Fr_forget l D cl hcl oa ca ck (upd F 2 ((mr_Bo_addTerm (G 0) (G 1) (G 2) (G 3) (G 4) (G 5) (G 6) (G 7) (G 10) nD nT nu.toNatClampNeg ((G 6 nu.toNatClampNeg).toNatClampNeg) a.toNatClampNeg va b vb w).1)) (va_up (va_up (va_up (va_up (va_up (va_up (va_up G 2 ((mr_Bo_addTerm (G 0) (G 1) (G 2) (G 3) (G 4) (G 5) (G 6) (G 7) (G 10) nD nT nu.toNatClampNeg ((G 6 nu.toNatClampNeg).toNatClampNeg) a.toNatClampNeg va b vb w).2.1)) 3 ((mr_Bo_addTerm (G 0) (G 1) (G 2) (G 3) (G 4) (G 5) (G 6) (G 7) (G 10) nD nT nu.toNatClampNeg ((G 6 nu.toNatClampNeg).toNatClampNeg) a.toNatClampNeg va b vb w).2.2.1)) 4 ((mr_Bo_addTerm (G 0) (G 1) (G 2) (G 3) (G 4) (G 5) (G 6) (G 7) (G 10) nD nT nu.toNatClampNeg ((G 6 nu.toNatClampNeg).toNatClampNeg) a.toNatClampNeg va b vb w).2.2.2.1)) 5 ((mr_Bo_addTerm (G 0) (G 1) (G 2) (G 3) (G 4) (G 5) (G 6) (G 7) (G 10) nD nT nu.toNatClampNeg ((G 6 nu.toNatClampNeg).toNatClampNeg) a.toNatClampNeg va b vb w).2.2.2.2.1)) 6 ((mr_Bo_addTerm (G 0) (G 1) (G 2) (G 3) (G 4) (G 5) (G 6) (G 7) (G 10) nD nT nu.toNatClampNeg ((G 6 nu.toNatClampNeg).toNatClampNeg) a.toNatClampNeg va b vb w).2.2.2.2.2.1)) 7 ((mr_Bo_addTerm (G 0) (G 1) (G 2) (G 3) (G 4) (G 5) (G 6) (G 7) (G 10) nD nT nu.toNatClampNeg ((G 6 nu.toNatClampNeg).toNatClampNeg) a.toNatClampNeg va b vb w).2.2.2.2.2.2.1)) 10 ((mr_Bo_addTerm (G 0) (G 1) (G 2) (G 3) (G 4) (G 5) (G 6) (G 7) (G 10) nD nT nu.toNatClampNeg ((G 6 nu.toNatClampNeg).toNatClampNeg) a.toNatClampNeg va b vb w).2.2.2.2.2.2.2)) hP (hD.weaken (fun _ _ _ _ => trivial))) (cwV 0 hts gX_term_Fr_forget rfl rfl rfl (by decide +kernel) ⟨Nat.le_of_ble_eq_true rfl, Nat.le_of_ble_eq_true rfl⟩) hK (va_recv hK hP (ci := 5) (q0 := 4) hcl.2.2.2.2.1 rfl) rfl hl.1 rfl (Nat.le_of_ble_eq_true rfl) dX_term_133 ⟨Nat.zero_le _, Nat.zero_le _⟩ hD hS hA (fun H locs hP hD hS => ?_)
                    refine lv_aload_n hx hb dX_term_136 rfl (lv_at hl 1 rfl) ?_
                    refine va_get (D := D) (ci := 1) (v := .ref (oa 3)) (C := RX) (T := TX) (N := 6) hx hb hts inX_ hown hK hP 0 rfl hcl.1 1 (by decide) f21 (fun _ h9 => h9) rfl dX_term_137 ?_
                    have ef140 : (upd (upd F 2 ((mr_Bo_addTerm (G 0) (G 1) (G 2) (G 3) (G 4) (G 5) (G 6) (G 7) (G 10) nD nT nu.toNatClampNeg ((G 6 nu.toNatClampNeg).toNatClampNeg) a.toNatClampNeg va b vb w).1)) 5 mr_Fr_forget) 2 = (mr_Bo_addTerm (G 0) (G 1) (G 2) (G 3) (G 4) (G 5) (G 6) (G 7) (G 10) nD nT nu.toNatClampNeg ((G 6 nu.toNatClampNeg).toNatClampNeg) a.toNatClampNeg va b vb w).1 := by rw [pk_un (k := 5) (j := 2) (by decide), pk_us]
                    refine va_get (D := D) (ci := 4) (v := .int ((mr_Bo_addTerm (G 0) (G 1) (G 2) (G 3) (G 4) (G 5) (G 6) (G 7) (G 10) nD nT nu.toNatClampNeg ((G 6 nu.toNatClampNeg).toNatClampNeg) a.toNatClampNeg va b vb w).1)) (C := RBo) (T := TBo) (N := 10) hx hb hts inBo_ hown hK hP 3 rfl hcl.2.2.2.1 4 (by decide) f107 (fun _ h9 => h9) (congrArg (fun z => some (Value.int z)) ef140) dX_term_140 ?_
                    have em : mr_X_term (F 2) (F 5) (G 0) (G 1) (G 2) (G 3) (G 4) (G 5) (G 6) (G 7) (G 10) nC nD nT nu a va b vb w = ((mr_Bo_addTerm (G 0) (G 1) (G 2) (G 3) (G 4) (G 5) (G 6) (G 7) (G 10) nD nT nu.toNatClampNeg ((G 6 nu.toNatClampNeg).toNatClampNeg) a.toNatClampNeg va b vb w).1, (mr_Bo_addTerm (G 0) (G 1) (G 2) (G 3) (G 4) (G 5) (G 6) (G 7) (G 10) nD nT nu.toNatClampNeg ((G 6 nu.toNatClampNeg).toNatClampNeg) a.toNatClampNeg va b vb w).1, mr_Fr_forget, (mr_Bo_addTerm (G 0) (G 1) (G 2) (G 3) (G 4) (G 5) (G 6) (G 7) (G 10) nD nT nu.toNatClampNeg ((G 6 nu.toNatClampNeg).toNatClampNeg) a.toNatClampNeg va b vb w).2.1, (mr_Bo_addTerm (G 0) (G 1) (G 2) (G 3) (G 4) (G 5) (G 6) (G 7) (G 10) nD nT nu.toNatClampNeg ((G 6 nu.toNatClampNeg).toNatClampNeg) a.toNatClampNeg va b vb w).2.2.1, (mr_Bo_addTerm (G 0) (G 1) (G 2) (G 3) (G 4) (G 5) (G 6) (G 7) (G 10) nD nT nu.toNatClampNeg ((G 6 nu.toNatClampNeg).toNatClampNeg) a.toNatClampNeg va b vb w).2.2.2.1, (mr_Bo_addTerm (G 0) (G 1) (G 2) (G 3) (G 4) (G 5) (G 6) (G 7) (G 10) nD nT nu.toNatClampNeg ((G 6 nu.toNatClampNeg).toNatClampNeg) a.toNatClampNeg va b vb w).2.2.2.2.1, (mr_Bo_addTerm (G 0) (G 1) (G 2) (G 3) (G 4) (G 5) (G 6) (G 7) (G 10) nD nT nu.toNatClampNeg ((G 6 nu.toNatClampNeg).toNatClampNeg) a.toNatClampNeg va b vb w).2.2.2.2.2.1, (mr_Bo_addTerm (G 0) (G 1) (G 2) (G 3) (G 4) (G 5) (G 6) (G 7) (G 10) nD nT nu.toNatClampNeg ((G 6 nu.toNatClampNeg).toNatClampNeg) a.toNatClampNeg va b vb w).2.2.2.2.2.2.1, (mr_Bo_addTerm (G 0) (G 1) (G 2) (G 3) (G 4) (G 5) (G 6) (G 7) (G 10) nD nT nu.toNatClampNeg ((G 6 nu.toNatClampNeg).toNatClampNeg) a.toNatClampNeg va b vb w).2.2.2.2.2.2.2) := by rw [mr_X_term, if_neg c17, if_neg c29, if_pos c34, if_neg c48, if_neg c64, if_neg c71, if_pos c78, if_pos c100]
                    exact hret _ _ _ _ _ _ (by simp only [em]) (by simp only [em]) hP hD hS dX_term_143
                  · have n100 : ¬ nT < 100 := fun h9 => c100 ((nI_ltI (a := nT) (b := 100) (by omega) (by omega)).mpr h9)
                    exact absurd hnx (by rw [mrx_X_term, if_neg c17, if_neg c29, if_pos c34, if_neg c48, if_neg c64, if_neg c71, if_pos c78, if_neg c100]; decide)
                · exact absurd hnx (by rw [mrx_X_term, if_neg c17, if_neg c29, if_pos c34, if_neg c48, if_neg c64, if_neg c71, if_neg c78]; decide)
          · exact absurd hnx (by rw [mrx_X_term, if_neg c17, if_neg c29, if_pos c34, if_pos c48]; decide)
  refine lv_icmp_ne (tgt := 10) hx hb dX_term_3 (by decide) (fun c3 => ?_) (fun c3 => ?_)
  · refine lv_iconst (v := 0) hx hb dX_term_10 (by decide) ?_
    exact wt_i (by rw [if_neg c3]) (j11 ls hl)
  · refine lv_iconst (v := 1) hx hb dX_term_6 (by decide) ?_
    refine lv_goto (tgt := 11) hx hb dX_term_7 (by decide) ?_
    exact wt_i (by rw [if_pos c3]) (j11 ls hl)
set_option maxHeartbeats 4000000 in
set_option maxRecDepth 100000 in
theorem t_X_term (l : Launch) (hlt : l.stackTraces = false) (Z : State) (hZ : ∀ w ∈ xws ++ sALL, w.before #[] Z = true) (D : va_G) (cl : List vw_C) (hcl : cOK cl) (oa ca : Nat → Nat) (ck : Nat → ClassId) (F : Nat → Int32) (G : Nat → Nat → Int32) {H0 : Heap} (hP : va_P D cl (cW oa ca ck F G) H0) (hD : va_D (fun _ => True) (cW oa ca ck F G)) (hZ0 : Z.heap.size ≤ H0.size) (hZH : ∀ q : Nat, q < Z.heap.size → H0[q]? = Z.heap[q]?) (hZA : ∀ q : Nat, q < Z.heap.size → ¬ va_A (cW oa ca ck F G) H0.size q) (nC : Nat) (nD : Nat) (nT : Nat) (nu : Int32) (a : Int32) (va : Int32) (b : Int32) (vb : Int32) (w : Int32) (k0 : F 0 = nI nC) (hC : nC ≤ 8) (k1 : F 1 = nI nD) (hN : nD ≤ 4096) (k2 : F 2 = nI nT) (hT : nT ≤ 100) (mQT : ∀ n, n < 4 → ∃ t : Nat, t < nT + 1 ∧ G 6 n = nI t) (hnx : ¬ mrx_X_term (G 0) nC nD nT nu a va b vb w = 0) : tx_Met l yX_term wsX_term ({ frames := 6, cells := 1, slots := 6, locals := 82 } : Room) (tx_P Z D cl (cT ck) H0 [.ref (oa 0), .int nu, .int a, .int va, .int b, .int vb, .int w]) (exn (mrx_X_term (G 0) nC nD nT nu a va b vb w)) 1 6 (va_A (cW oa ca ck F G) H0.size) (fun H1 => va_P D cl (cW oa ca ck (upd (upd F 2 ((mr_X_term (F 2) (F 5) (G 0) (G 1) (G 2) (G 3) (G 4) (G 5) (G 6) (G 7) (G 10) nC nD nT nu a va b vb w).2.1)) 5 ((mr_X_term (F 2) (F 5) (G 0) (G 1) (G 2) (G 3) (G 4) (G 5) (G 6) (G 7) (G 10) nC nD nT nu a va b vb w).2.2.1)) (va_up (va_up (va_up (va_up (va_up (va_up (va_up G 2 ((mr_X_term (F 2) (F 5) (G 0) (G 1) (G 2) (G 3) (G 4) (G 5) (G 6) (G 7) (G 10) nC nD nT nu a va b vb w).2.2.2.1)) 3 ((mr_X_term (F 2) (F 5) (G 0) (G 1) (G 2) (G 3) (G 4) (G 5) (G 6) (G 7) (G 10) nC nD nT nu a va b vb w).2.2.2.2.1)) 4 ((mr_X_term (F 2) (F 5) (G 0) (G 1) (G 2) (G 3) (G 4) (G 5) (G 6) (G 7) (G 10) nC nD nT nu a va b vb w).2.2.2.2.2.1)) 5 ((mr_X_term (F 2) (F 5) (G 0) (G 1) (G 2) (G 3) (G 4) (G 5) (G 6) (G 7) (G 10) nC nD nT nu a va b vb w).2.2.2.2.2.2.1)) 6 ((mr_X_term (F 2) (F 5) (G 0) (G 1) (G 2) (G 3) (G 4) (G 5) (G 6) (G 7) (G 10) nC nD nT nu a va b vb w).2.2.2.2.2.2.2.1)) 7 ((mr_X_term (F 2) (F 5) (G 0) (G 1) (G 2) (G 3) (G 4) (G 5) (G 6) (G 7) (G 10) nC nD nT nu a va b vb w).2.2.2.2.2.2.2.2.1)) 10 ((mr_X_term (F 2) (F 5) (G 0) (G 1) (G 2) (G 3) (G 4) (G 5) (G 6) (G 7) (G 10) nC nD nT nu a va b vb w).2.2.2.2.2.2.2.2.2))) H1 ∧ va_D (va_A (cW oa ca ck F G) H0.size) (cW oa ca ck (upd (upd F 2 ((mr_X_term (F 2) (F 5) (G 0) (G 1) (G 2) (G 3) (G 4) (G 5) (G 6) (G 7) (G 10) nC nD nT nu a va b vb w).2.1)) 5 ((mr_X_term (F 2) (F 5) (G 0) (G 1) (G 2) (G 3) (G 4) (G 5) (G 6) (G 7) (G 10) nC nD nT nu a va b vb w).2.2.1)) (va_up (va_up (va_up (va_up (va_up (va_up (va_up G 2 ((mr_X_term (F 2) (F 5) (G 0) (G 1) (G 2) (G 3) (G 4) (G 5) (G 6) (G 7) (G 10) nC nD nT nu a va b vb w).2.2.2.1)) 3 ((mr_X_term (F 2) (F 5) (G 0) (G 1) (G 2) (G 3) (G 4) (G 5) (G 6) (G 7) (G 10) nC nD nT nu a va b vb w).2.2.2.2.1)) 4 ((mr_X_term (F 2) (F 5) (G 0) (G 1) (G 2) (G 3) (G 4) (G 5) (G 6) (G 7) (G 10) nC nD nT nu a va b vb w).2.2.2.2.2.1)) 5 ((mr_X_term (F 2) (F 5) (G 0) (G 1) (G 2) (G 3) (G 4) (G 5) (G 6) (G 7) (G 10) nC nD nT nu a va b vb w).2.2.2.2.2.2.1)) 6 ((mr_X_term (F 2) (F 5) (G 0) (G 1) (G 2) (G 3) (G 4) (G 5) (G 6) (G 7) (G 10) nC nD nT nu a va b vb w).2.2.2.2.2.2.2.1)) 7 ((mr_X_term (F 2) (F 5) (G 0) (G 1) (G 2) (G 3) (G 4) (G 5) (G 6) (G 7) (G 10) nC nD nT nu a va b vb w).2.2.2.2.2.2.2.2.1)) 10 ((mr_X_term (F 2) (F 5) (G 0) (G 1) (G 2) (G 3) (G 4) (G 5) (G 6) (G 7) (G 10) nC nD nT nu a va b vb w).2.2.2.2.2.2.2.2.2)))) := by
  refine tx_met (by decide) rfl (Nat.le_of_ble_eq_true rfl) hP hD ?_
  intro p e s m args below meth c Q A hAe hQ Sx hK hZw hlk hno hP hD hS hA ls hl
  obtain ⟨hx, hb, hml, hown, hts⟩ := id Sx
  have hl : lv_has ls 8 [(0, .ref (oa 0)), (1, .int nu), (2, .int a), (3, .int va), (4, .int b), (5, .int vb), (6, .int w)] := hl
  obtain ⟨H, eH⟩ : ∃ H : Heap, H = H0 := ⟨_, rfl⟩
  obtain ⟨locs, eL⟩ : ∃ L : List Loc, L = [] := ⟨_, rfl⟩
  have hP : va_P D cl (cW oa ca ck F G) H := by rw [eH]; exact hP
  have hS : va_S A H0 H locs := by rw [eH, eL]; exact hS
  rw [show W p l e ({ frames := 6, cells := 1, slots := 6, locals := 82 } : Room) s m args below meth c H0 [] 0 0 Q (F0 m 0 ls []) = W p l e ({ frames := 6, cells := 1, slots := 6, locals := 82 } : Room) s m args below meth c H locs 0 0 Q (F0 m 0 ls []) by rw [eH, eL]]
  clear eH eL
  have wx98 := hts _ (List.mem_cons_of_mem _ mxX_98)
  have wn1 := hts _ (List.mem_cons_of_mem _ mnE_1)
  have wt1 := hts _ (List.mem_cons_of_mem _ mtE_1)
  have f12 := hts _ (List.mem_cons_of_mem _ mfX_12)
  have inX_ : ∀ w ∈ wsX0, w ∈ wsX_term := fun w h => List.mem_cons_of_mem _ (inX_all w h)
  have wx58 := hts _ (List.mem_cons_of_mem _ mxX_58)
  have wn2 := hts _ (List.mem_cons_of_mem _ mnE_2)
  have wt2 := hts _ (List.mem_cons_of_mem _ mtE_2)
  have k103 := hts _ (List.mem_cons_of_mem _ mkX_103)
  have k104 := hts _ (List.mem_cons_of_mem _ mkX_104)
  have f21 := hts _ (List.mem_cons_of_mem _ mfX_21)
  have f107 := hts _ (List.mem_cons_of_mem _ mfX_107)
  have inBo_ : ∀ w ∈ wsBo0, w ∈ wsX_term := fun w h => List.mem_cons_of_mem _ (inBo_all w h)
  have wx69 := hts _ (List.mem_cons_of_mem _ mxX_69)
  have wn3 := hts _ (List.mem_cons_of_mem _ mnE_3)
  have wt3 := hts _ (List.mem_cons_of_mem _ mtE_3)
  refine lv_iload hx hb dX_term_0 (lv_at hl 4 rfl) ?_
  refine lv_iconst (v := (-1)) hx hb dX_term_2 (by decide) ?_
  have j11 : ∀ (ls : Array Slot), lv_has ls 8 [(0, .ref (oa 0)), (1, .int nu), (2, .int a), (3, .int va), (4, .int b), (5, .int vb), (6, .int w)] → W p l e ({ frames := 6, cells := 1, slots := 6, locals := 82 } : Room) s m args below meth c H locs 0 0 Q (F0 m 11 ls [.int ((if b = (-1) then 1 else 0) : Int32)]) := by
    intro ls hl
    refine lv_istore (lv' := [(7, .int ((if b = (-1) then 1 else 0) : Int32)), (0, .ref (oa 0)), (1, .int nu), (2, .int a), (3, .int va), (4, .int b), (5, .int vb), (6, .int w)]) hx hb dX_term_11 hl (by decide) rfl (fun ls hl => ?_)
    refine lv_iload_n hx hb dX_term_13 rfl (lv_at hl 2 rfl) ?_
    refine ro_callS (r := (.int (mr_X_isNumber nu))) (As := [.int nu]) (rest := []) Sx (c_X_isNumber l D cl hcl oa ca ck F G hP nu) (va_cwS 1 hts gX_term_X_isNumber rfl rfl rfl (by decide +kernel) ⟨Nat.le_of_ble_eq_true rfl, Nat.le_of_ble_eq_true rfl⟩) hK rfl hl.1 rfl (Nat.le_of_ble_eq_true rfl) dX_term_14 ⟨Nat.zero_le _, Nat.zero_le _⟩ ?_
    refine lv_if_eq (tgt := 51) hx hb dX_term_17 (by decide) (fun c17 => ?_) (fun c17 => ?_)
    · have ex : mrx_X_term (G 0) nC nD nT nu a va b vb w = 1 := by rw [mrx_X_term, if_pos c17]
      rw [hQ, ex, exn_1]
      have em : mr_X_term (F 2) (F 5) (G 0) (G 1) (G 2) (G 3) (G 4) (G 5) (G 6) (G 7) (G 10) nC nD nT nu a va b vb w = (0, F 2, F 5, G 2, G 3, G 4, G 5, G 6, G 7, G 10) := by rw [mr_X_term, if_pos c17]
      have hP9 : va_P D cl (cW oa ca ck (upd (upd F 2 ((mr_X_term (F 2) (F 5) (G 0) (G 1) (G 2) (G 3) (G 4) (G 5) (G 6) (G 7) (G 10) nC nD nT nu a va b vb w).2.1)) 5 ((mr_X_term (F 2) (F 5) (G 0) (G 1) (G 2) (G 3) (G 4) (G 5) (G 6) (G 7) (G 10) nC nD nT nu a va b vb w).2.2.1)) (va_up (va_up (va_up (va_up (va_up (va_up (va_up G 2 ((mr_X_term (F 2) (F 5) (G 0) (G 1) (G 2) (G 3) (G 4) (G 5) (G 6) (G 7) (G 10) nC nD nT nu a va b vb w).2.2.2.1)) 3 ((mr_X_term (F 2) (F 5) (G 0) (G 1) (G 2) (G 3) (G 4) (G 5) (G 6) (G 7) (G 10) nC nD nT nu a va b vb w).2.2.2.2.1)) 4 ((mr_X_term (F 2) (F 5) (G 0) (G 1) (G 2) (G 3) (G 4) (G 5) (G 6) (G 7) (G 10) nC nD nT nu a va b vb w).2.2.2.2.2.1)) 5 ((mr_X_term (F 2) (F 5) (G 0) (G 1) (G 2) (G 3) (G 4) (G 5) (G 6) (G 7) (G 10) nC nD nT nu a va b vb w).2.2.2.2.2.2.1)) 6 ((mr_X_term (F 2) (F 5) (G 0) (G 1) (G 2) (G 3) (G 4) (G 5) (G 6) (G 7) (G 10) nC nD nT nu a va b vb w).2.2.2.2.2.2.2.1)) 7 ((mr_X_term (F 2) (F 5) (G 0) (G 1) (G 2) (G 3) (G 4) (G 5) (G 6) (G 7) (G 10) nC nD nT nu a va b vb w).2.2.2.2.2.2.2.2.1)) 10 ((mr_X_term (F 2) (F 5) (G 0) (G 1) (G 2) (G 3) (G 4) (G 5) (G 6) (G 7) (G 10) nC nD nT nu a va b vb w).2.2.2.2.2.2.2.2.2))) H := by simp only [em]; rw [upd_keep (f := F) (j := 2) (x := F 2) rfl, upd_keep (f := F) (j := 5) (x := F 5) rfl, vup_keep (f := G) (j := 2) (x := G 2) rfl, vup_keep (f := G) (j := 3) (x := G 3) rfl, vup_keep (f := G) (j := 4) (x := G 4) rfl, vup_keep (f := G) (j := 5) (x := G 5) rfl, vup_keep (f := G) (j := 6) (x := G 6) rfl, vup_keep (f := G) (j := 7) (x := G 7) rfl, vup_keep (f := G) (j := 10) (x := G 10) rfl]; exact hP
      have hD9 : va_D A (cW oa ca ck (upd (upd F 2 ((mr_X_term (F 2) (F 5) (G 0) (G 1) (G 2) (G 3) (G 4) (G 5) (G 6) (G 7) (G 10) nC nD nT nu a va b vb w).2.1)) 5 ((mr_X_term (F 2) (F 5) (G 0) (G 1) (G 2) (G 3) (G 4) (G 5) (G 6) (G 7) (G 10) nC nD nT nu a va b vb w).2.2.1)) (va_up (va_up (va_up (va_up (va_up (va_up (va_up G 2 ((mr_X_term (F 2) (F 5) (G 0) (G 1) (G 2) (G 3) (G 4) (G 5) (G 6) (G 7) (G 10) nC nD nT nu a va b vb w).2.2.2.1)) 3 ((mr_X_term (F 2) (F 5) (G 0) (G 1) (G 2) (G 3) (G 4) (G 5) (G 6) (G 7) (G 10) nC nD nT nu a va b vb w).2.2.2.2.1)) 4 ((mr_X_term (F 2) (F 5) (G 0) (G 1) (G 2) (G 3) (G 4) (G 5) (G 6) (G 7) (G 10) nC nD nT nu a va b vb w).2.2.2.2.2.1)) 5 ((mr_X_term (F 2) (F 5) (G 0) (G 1) (G 2) (G 3) (G 4) (G 5) (G 6) (G 7) (G 10) nC nD nT nu a va b vb w).2.2.2.2.2.2.1)) 6 ((mr_X_term (F 2) (F 5) (G 0) (G 1) (G 2) (G 3) (G 4) (G 5) (G 6) (G 7) (G 10) nC nD nT nu a va b vb w).2.2.2.2.2.2.2.1)) 7 ((mr_X_term (F 2) (F 5) (G 0) (G 1) (G 2) (G 3) (G 4) (G 5) (G 6) (G 7) (G 10) nC nD nT nu a va b vb w).2.2.2.2.2.2.2.2.1)) 10 ((mr_X_term (F 2) (F 5) (G 0) (G 1) (G 2) (G 3) (G 4) (G 5) (G 6) (G 7) (G 10) nC nD nT nu a va b vb w).2.2.2.2.2.2.2.2.2))) := by simp only [em]; rw [upd_keep (f := F) (j := 2) (x := F 2) rfl, upd_keep (f := F) (j := 5) (x := F 5) rfl, vup_keep (f := G) (j := 2) (x := G 2) rfl, vup_keep (f := G) (j := 3) (x := G 3) rfl, vup_keep (f := G) (j := 4) (x := G 4) rfl, vup_keep (f := G) (j := 5) (x := G 5) rfl, vup_keep (f := G) (j := 6) (x := G 6) rfl, vup_keep (f := G) (j := 7) (x := G 7) rfl, vup_keep (f := G) (j := 10) (x := G 10) rfl]; exact hD
      exact tx_new (A := A) (i1 := 98) (i2 := 100) (i3 := 102) (own := RX) (up := xup) (tx := strsX_100) hlt hx hb (hml.trans hl.1.symm) hlk (hno _) hown (by decide +kernel) (by decide +kernel) (xo_use xo_1 hts) wt1 wx98 wn1 hZw (fun w9 h9 => hZ w9 (List.mem_append_left _ h9)) (hZ _ (List.mem_append_right _ mrX_100)) (fun q hq => (hS.2.1 q (Nat.lt_of_lt_of_le hq hZ0) (by rw [hAe]; exact hZA q hq)).trans (hZH q hq)) hS.2.2 dX_term_51 dX_term_54 dX_term_55 dX_term_57 dX_term_60 (Nat.le_refl _) (Nat.le_refl _) (by decide) (by decide) rfl rfl (fun H1 h1 h2 => ⟨va_old hP9 h2, by rw [← hAe]; exact hD9⟩)
    · have xn := ix_cl (num_ix c17) (by omega)
      have xn2 := xn.2
      refine lv_aload_n hx hb dX_term_20 rfl (lv_at hl 1 rfl) ?_
      refine va_get (D := D) (ci := 1) (v := .ref (oa 1)) (C := RX) (T := TX) (N := 6) hx hb hts inX_ hown hK hP 0 rfl hcl.1 0 (by decide) f12 (fun _ h9 => h9) rfl dX_term_21 ?_
      refine lv_iload_n hx hb dX_term_24 rfl (lv_at hl 3 rfl) ?_
      refine lv_iload_n hx hb dX_term_25 rfl (lv_at hl 4 rfl) ?_
      refine ro_callV (r := (.int (mr_Sh_hasValue (G 0) nC a va))) (As := [.int a, .int va]) (rest := []) Sx (c_Sh_hasValue l D cl hcl oa ca ck F G hP nC a va k0 hC) (cwV 2 hts gX_term_Sh_hasValue rfl rfl rfl (by decide +kernel) ⟨Nat.le_of_ble_eq_true rfl, Nat.le_of_ble_eq_true rfl⟩) hK (va_recv hK hP (ci := 2) (q0 := 1) hcl.2.1 rfl) rfl hl.1 rfl (Nat.le_of_ble_eq_true rfl) dX_term_26 ⟨Nat.zero_le _, Nat.zero_le _⟩ ?_
      refine lv_if_eq (tgt := 51) hx hb dX_term_29 (by decide) (fun c29 => ?_) (fun c29 => ?_)
      · have ex : mrx_X_term (G 0) nC nD nT nu a va b vb w = 1 := by rw [mrx_X_term, if_neg c17, if_pos c29]
        rw [hQ, ex, exn_1]
        have em : mr_X_term (F 2) (F 5) (G 0) (G 1) (G 2) (G 3) (G 4) (G 5) (G 6) (G 7) (G 10) nC nD nT nu a va b vb w = (0, F 2, F 5, G 2, G 3, G 4, G 5, G 6, G 7, G 10) := by rw [mr_X_term, if_neg c17, if_pos c29]
        have hP9 : va_P D cl (cW oa ca ck (upd (upd F 2 ((mr_X_term (F 2) (F 5) (G 0) (G 1) (G 2) (G 3) (G 4) (G 5) (G 6) (G 7) (G 10) nC nD nT nu a va b vb w).2.1)) 5 ((mr_X_term (F 2) (F 5) (G 0) (G 1) (G 2) (G 3) (G 4) (G 5) (G 6) (G 7) (G 10) nC nD nT nu a va b vb w).2.2.1)) (va_up (va_up (va_up (va_up (va_up (va_up (va_up G 2 ((mr_X_term (F 2) (F 5) (G 0) (G 1) (G 2) (G 3) (G 4) (G 5) (G 6) (G 7) (G 10) nC nD nT nu a va b vb w).2.2.2.1)) 3 ((mr_X_term (F 2) (F 5) (G 0) (G 1) (G 2) (G 3) (G 4) (G 5) (G 6) (G 7) (G 10) nC nD nT nu a va b vb w).2.2.2.2.1)) 4 ((mr_X_term (F 2) (F 5) (G 0) (G 1) (G 2) (G 3) (G 4) (G 5) (G 6) (G 7) (G 10) nC nD nT nu a va b vb w).2.2.2.2.2.1)) 5 ((mr_X_term (F 2) (F 5) (G 0) (G 1) (G 2) (G 3) (G 4) (G 5) (G 6) (G 7) (G 10) nC nD nT nu a va b vb w).2.2.2.2.2.2.1)) 6 ((mr_X_term (F 2) (F 5) (G 0) (G 1) (G 2) (G 3) (G 4) (G 5) (G 6) (G 7) (G 10) nC nD nT nu a va b vb w).2.2.2.2.2.2.2.1)) 7 ((mr_X_term (F 2) (F 5) (G 0) (G 1) (G 2) (G 3) (G 4) (G 5) (G 6) (G 7) (G 10) nC nD nT nu a va b vb w).2.2.2.2.2.2.2.2.1)) 10 ((mr_X_term (F 2) (F 5) (G 0) (G 1) (G 2) (G 3) (G 4) (G 5) (G 6) (G 7) (G 10) nC nD nT nu a va b vb w).2.2.2.2.2.2.2.2.2))) H := by simp only [em]; rw [upd_keep (f := F) (j := 2) (x := F 2) rfl, upd_keep (f := F) (j := 5) (x := F 5) rfl, vup_keep (f := G) (j := 2) (x := G 2) rfl, vup_keep (f := G) (j := 3) (x := G 3) rfl, vup_keep (f := G) (j := 4) (x := G 4) rfl, vup_keep (f := G) (j := 5) (x := G 5) rfl, vup_keep (f := G) (j := 6) (x := G 6) rfl, vup_keep (f := G) (j := 7) (x := G 7) rfl, vup_keep (f := G) (j := 10) (x := G 10) rfl]; exact hP
        have hD9 : va_D A (cW oa ca ck (upd (upd F 2 ((mr_X_term (F 2) (F 5) (G 0) (G 1) (G 2) (G 3) (G 4) (G 5) (G 6) (G 7) (G 10) nC nD nT nu a va b vb w).2.1)) 5 ((mr_X_term (F 2) (F 5) (G 0) (G 1) (G 2) (G 3) (G 4) (G 5) (G 6) (G 7) (G 10) nC nD nT nu a va b vb w).2.2.1)) (va_up (va_up (va_up (va_up (va_up (va_up (va_up G 2 ((mr_X_term (F 2) (F 5) (G 0) (G 1) (G 2) (G 3) (G 4) (G 5) (G 6) (G 7) (G 10) nC nD nT nu a va b vb w).2.2.2.1)) 3 ((mr_X_term (F 2) (F 5) (G 0) (G 1) (G 2) (G 3) (G 4) (G 5) (G 6) (G 7) (G 10) nC nD nT nu a va b vb w).2.2.2.2.1)) 4 ((mr_X_term (F 2) (F 5) (G 0) (G 1) (G 2) (G 3) (G 4) (G 5) (G 6) (G 7) (G 10) nC nD nT nu a va b vb w).2.2.2.2.2.1)) 5 ((mr_X_term (F 2) (F 5) (G 0) (G 1) (G 2) (G 3) (G 4) (G 5) (G 6) (G 7) (G 10) nC nD nT nu a va b vb w).2.2.2.2.2.2.1)) 6 ((mr_X_term (F 2) (F 5) (G 0) (G 1) (G 2) (G 3) (G 4) (G 5) (G 6) (G 7) (G 10) nC nD nT nu a va b vb w).2.2.2.2.2.2.2.1)) 7 ((mr_X_term (F 2) (F 5) (G 0) (G 1) (G 2) (G 3) (G 4) (G 5) (G 6) (G 7) (G 10) nC nD nT nu a va b vb w).2.2.2.2.2.2.2.2.1)) 10 ((mr_X_term (F 2) (F 5) (G 0) (G 1) (G 2) (G 3) (G 4) (G 5) (G 6) (G 7) (G 10) nC nD nT nu a va b vb w).2.2.2.2.2.2.2.2.2))) := by simp only [em]; rw [upd_keep (f := F) (j := 2) (x := F 2) rfl, upd_keep (f := F) (j := 5) (x := F 5) rfl, vup_keep (f := G) (j := 2) (x := G 2) rfl, vup_keep (f := G) (j := 3) (x := G 3) rfl, vup_keep (f := G) (j := 4) (x := G 4) rfl, vup_keep (f := G) (j := 5) (x := G 5) rfl, vup_keep (f := G) (j := 6) (x := G 6) rfl, vup_keep (f := G) (j := 7) (x := G 7) rfl, vup_keep (f := G) (j := 10) (x := G 10) rfl]; exact hD
        exact tx_new (A := A) (i1 := 98) (i2 := 100) (i3 := 102) (own := RX) (up := xup) (tx := strsX_100) hlt hx hb (hml.trans hl.1.symm) hlk (hno _) hown (by decide +kernel) (by decide +kernel) (xo_use xo_1 hts) wt1 wx98 wn1 hZw (fun w9 h9 => hZ w9 (List.mem_append_left _ h9)) (hZ _ (List.mem_append_right _ mrX_100)) (fun q hq => (hS.2.1 q (Nat.lt_of_lt_of_le hq hZ0) (by rw [hAe]; exact hZA q hq)).trans (hZH q hq)) hS.2.2 dX_term_51 dX_term_54 dX_term_55 dX_term_57 dX_term_60 (Nat.le_refl _) (Nat.le_refl _) (by decide) (by decide) rfl rfl (fun H1 h1 h2 => ⟨va_old hP9 h2, by rw [← hAe]; exact hD9⟩)
      · have xa := ix_cl (hv_ix hC c29) (by omega)
        have xa2 := xa.2
        refine lv_iload hx hb dX_term_32 (lv_at hl 0 rfl) ?_
        refine lv_if_ne (tgt := 61) hx hb dX_term_34 (by decide) (fun c34 => ?_) (fun c34 => ?_)
        · refine lv_iload_n hx hb dX_term_61 rfl (lv_at hl 3 rfl) ?_
          refine lv_iload hx hb dX_term_62 (lv_at hl 5 rfl) ?_
          refine lv_icmp_eq (tgt := 81) hx hb dX_term_64 (by decide) (fun c64 => ?_) (fun c64 => ?_)
          · have ex : mrx_X_term (G 0) nC nD nT nu a va b vb w = 2 := by rw [mrx_X_term, if_neg c17, if_neg c29, if_neg c34, if_pos c64]
            rw [hQ, ex, exn_2]
            have em : mr_X_term (F 2) (F 5) (G 0) (G 1) (G 2) (G 3) (G 4) (G 5) (G 6) (G 7) (G 10) nC nD nT nu a va b vb w = (0, F 2, F 5, G 2, G 3, G 4, G 5, G 6, G 7, G 10) := by rw [mr_X_term, if_neg c17, if_neg c29, if_neg c34, if_pos c64]
            have hP9 : va_P D cl (cW oa ca ck (upd (upd F 2 ((mr_X_term (F 2) (F 5) (G 0) (G 1) (G 2) (G 3) (G 4) (G 5) (G 6) (G 7) (G 10) nC nD nT nu a va b vb w).2.1)) 5 ((mr_X_term (F 2) (F 5) (G 0) (G 1) (G 2) (G 3) (G 4) (G 5) (G 6) (G 7) (G 10) nC nD nT nu a va b vb w).2.2.1)) (va_up (va_up (va_up (va_up (va_up (va_up (va_up G 2 ((mr_X_term (F 2) (F 5) (G 0) (G 1) (G 2) (G 3) (G 4) (G 5) (G 6) (G 7) (G 10) nC nD nT nu a va b vb w).2.2.2.1)) 3 ((mr_X_term (F 2) (F 5) (G 0) (G 1) (G 2) (G 3) (G 4) (G 5) (G 6) (G 7) (G 10) nC nD nT nu a va b vb w).2.2.2.2.1)) 4 ((mr_X_term (F 2) (F 5) (G 0) (G 1) (G 2) (G 3) (G 4) (G 5) (G 6) (G 7) (G 10) nC nD nT nu a va b vb w).2.2.2.2.2.1)) 5 ((mr_X_term (F 2) (F 5) (G 0) (G 1) (G 2) (G 3) (G 4) (G 5) (G 6) (G 7) (G 10) nC nD nT nu a va b vb w).2.2.2.2.2.2.1)) 6 ((mr_X_term (F 2) (F 5) (G 0) (G 1) (G 2) (G 3) (G 4) (G 5) (G 6) (G 7) (G 10) nC nD nT nu a va b vb w).2.2.2.2.2.2.2.1)) 7 ((mr_X_term (F 2) (F 5) (G 0) (G 1) (G 2) (G 3) (G 4) (G 5) (G 6) (G 7) (G 10) nC nD nT nu a va b vb w).2.2.2.2.2.2.2.2.1)) 10 ((mr_X_term (F 2) (F 5) (G 0) (G 1) (G 2) (G 3) (G 4) (G 5) (G 6) (G 7) (G 10) nC nD nT nu a va b vb w).2.2.2.2.2.2.2.2.2))) H := by simp only [em]; rw [upd_keep (f := F) (j := 2) (x := F 2) rfl, upd_keep (f := F) (j := 5) (x := F 5) rfl, vup_keep (f := G) (j := 2) (x := G 2) rfl, vup_keep (f := G) (j := 3) (x := G 3) rfl, vup_keep (f := G) (j := 4) (x := G 4) rfl, vup_keep (f := G) (j := 5) (x := G 5) rfl, vup_keep (f := G) (j := 6) (x := G 6) rfl, vup_keep (f := G) (j := 7) (x := G 7) rfl, vup_keep (f := G) (j := 10) (x := G 10) rfl]; exact hP
            have hD9 : va_D A (cW oa ca ck (upd (upd F 2 ((mr_X_term (F 2) (F 5) (G 0) (G 1) (G 2) (G 3) (G 4) (G 5) (G 6) (G 7) (G 10) nC nD nT nu a va b vb w).2.1)) 5 ((mr_X_term (F 2) (F 5) (G 0) (G 1) (G 2) (G 3) (G 4) (G 5) (G 6) (G 7) (G 10) nC nD nT nu a va b vb w).2.2.1)) (va_up (va_up (va_up (va_up (va_up (va_up (va_up G 2 ((mr_X_term (F 2) (F 5) (G 0) (G 1) (G 2) (G 3) (G 4) (G 5) (G 6) (G 7) (G 10) nC nD nT nu a va b vb w).2.2.2.1)) 3 ((mr_X_term (F 2) (F 5) (G 0) (G 1) (G 2) (G 3) (G 4) (G 5) (G 6) (G 7) (G 10) nC nD nT nu a va b vb w).2.2.2.2.1)) 4 ((mr_X_term (F 2) (F 5) (G 0) (G 1) (G 2) (G 3) (G 4) (G 5) (G 6) (G 7) (G 10) nC nD nT nu a va b vb w).2.2.2.2.2.1)) 5 ((mr_X_term (F 2) (F 5) (G 0) (G 1) (G 2) (G 3) (G 4) (G 5) (G 6) (G 7) (G 10) nC nD nT nu a va b vb w).2.2.2.2.2.2.1)) 6 ((mr_X_term (F 2) (F 5) (G 0) (G 1) (G 2) (G 3) (G 4) (G 5) (G 6) (G 7) (G 10) nC nD nT nu a va b vb w).2.2.2.2.2.2.2.1)) 7 ((mr_X_term (F 2) (F 5) (G 0) (G 1) (G 2) (G 3) (G 4) (G 5) (G 6) (G 7) (G 10) nC nD nT nu a va b vb w).2.2.2.2.2.2.2.2.1)) 10 ((mr_X_term (F 2) (F 5) (G 0) (G 1) (G 2) (G 3) (G 4) (G 5) (G 6) (G 7) (G 10) nC nD nT nu a va b vb w).2.2.2.2.2.2.2.2.2))) := by simp only [em]; rw [upd_keep (f := F) (j := 2) (x := F 2) rfl, upd_keep (f := F) (j := 5) (x := F 5) rfl, vup_keep (f := G) (j := 2) (x := G 2) rfl, vup_keep (f := G) (j := 3) (x := G 3) rfl, vup_keep (f := G) (j := 4) (x := G 4) rfl, vup_keep (f := G) (j := 5) (x := G 5) rfl, vup_keep (f := G) (j := 6) (x := G 6) rfl, vup_keep (f := G) (j := 7) (x := G 7) rfl, vup_keep (f := G) (j := 10) (x := G 10) rfl]; exact hD
            exact tx_new (A := A) (i1 := 58) (i2 := 105) (i3 := 62) (own := RX) (up := xup) (tx := strsX_105) hlt hx hb (hml.trans hl.1.symm) hlk (hno _) hown (by decide +kernel) (by decide +kernel) (xo_use xo_2 hts) wt2 wx58 wn2 hZw (fun w9 h9 => hZ w9 (List.mem_append_left _ h9)) (hZ _ (List.mem_append_right _ mrX_105)) (fun q hq => (hS.2.1 q (Nat.lt_of_lt_of_le hq hZ0) (by rw [hAe]; exact hZA q hq)).trans (hZH q hq)) hS.2.2 dX_term_81 dX_term_84 dX_term_85 dX_term_87 dX_term_90 (Nat.le_refl _) (Nat.le_refl _) (by decide) (by decide) rfl rfl (fun H1 h1 h2 => ⟨va_old hP9 h2, by rw [← hAe]; exact hD9⟩)
          · refine lv_iload hx hb dX_term_67 (lv_at hl 7 rfl) ?_
            refine lv_ldc hx hb hown k103 dX_term_69 ?_
            refine lv_icmp_lt (tgt := 81) hx hb dX_term_71 (by decide) (fun c71 => ?_) (fun c71 => ?_)
            · have ex : mrx_X_term (G 0) nC nD nT nu a va b vb w = 2 := by rw [mrx_X_term, if_neg c17, if_neg c29, if_neg c34, if_neg c64, if_pos c71]
              rw [hQ, ex, exn_2]
              have em : mr_X_term (F 2) (F 5) (G 0) (G 1) (G 2) (G 3) (G 4) (G 5) (G 6) (G 7) (G 10) nC nD nT nu a va b vb w = (0, F 2, F 5, G 2, G 3, G 4, G 5, G 6, G 7, G 10) := by rw [mr_X_term, if_neg c17, if_neg c29, if_neg c34, if_neg c64, if_pos c71]
              have hP9 : va_P D cl (cW oa ca ck (upd (upd F 2 ((mr_X_term (F 2) (F 5) (G 0) (G 1) (G 2) (G 3) (G 4) (G 5) (G 6) (G 7) (G 10) nC nD nT nu a va b vb w).2.1)) 5 ((mr_X_term (F 2) (F 5) (G 0) (G 1) (G 2) (G 3) (G 4) (G 5) (G 6) (G 7) (G 10) nC nD nT nu a va b vb w).2.2.1)) (va_up (va_up (va_up (va_up (va_up (va_up (va_up G 2 ((mr_X_term (F 2) (F 5) (G 0) (G 1) (G 2) (G 3) (G 4) (G 5) (G 6) (G 7) (G 10) nC nD nT nu a va b vb w).2.2.2.1)) 3 ((mr_X_term (F 2) (F 5) (G 0) (G 1) (G 2) (G 3) (G 4) (G 5) (G 6) (G 7) (G 10) nC nD nT nu a va b vb w).2.2.2.2.1)) 4 ((mr_X_term (F 2) (F 5) (G 0) (G 1) (G 2) (G 3) (G 4) (G 5) (G 6) (G 7) (G 10) nC nD nT nu a va b vb w).2.2.2.2.2.1)) 5 ((mr_X_term (F 2) (F 5) (G 0) (G 1) (G 2) (G 3) (G 4) (G 5) (G 6) (G 7) (G 10) nC nD nT nu a va b vb w).2.2.2.2.2.2.1)) 6 ((mr_X_term (F 2) (F 5) (G 0) (G 1) (G 2) (G 3) (G 4) (G 5) (G 6) (G 7) (G 10) nC nD nT nu a va b vb w).2.2.2.2.2.2.2.1)) 7 ((mr_X_term (F 2) (F 5) (G 0) (G 1) (G 2) (G 3) (G 4) (G 5) (G 6) (G 7) (G 10) nC nD nT nu a va b vb w).2.2.2.2.2.2.2.2.1)) 10 ((mr_X_term (F 2) (F 5) (G 0) (G 1) (G 2) (G 3) (G 4) (G 5) (G 6) (G 7) (G 10) nC nD nT nu a va b vb w).2.2.2.2.2.2.2.2.2))) H := by simp only [em]; rw [upd_keep (f := F) (j := 2) (x := F 2) rfl, upd_keep (f := F) (j := 5) (x := F 5) rfl, vup_keep (f := G) (j := 2) (x := G 2) rfl, vup_keep (f := G) (j := 3) (x := G 3) rfl, vup_keep (f := G) (j := 4) (x := G 4) rfl, vup_keep (f := G) (j := 5) (x := G 5) rfl, vup_keep (f := G) (j := 6) (x := G 6) rfl, vup_keep (f := G) (j := 7) (x := G 7) rfl, vup_keep (f := G) (j := 10) (x := G 10) rfl]; exact hP
              have hD9 : va_D A (cW oa ca ck (upd (upd F 2 ((mr_X_term (F 2) (F 5) (G 0) (G 1) (G 2) (G 3) (G 4) (G 5) (G 6) (G 7) (G 10) nC nD nT nu a va b vb w).2.1)) 5 ((mr_X_term (F 2) (F 5) (G 0) (G 1) (G 2) (G 3) (G 4) (G 5) (G 6) (G 7) (G 10) nC nD nT nu a va b vb w).2.2.1)) (va_up (va_up (va_up (va_up (va_up (va_up (va_up G 2 ((mr_X_term (F 2) (F 5) (G 0) (G 1) (G 2) (G 3) (G 4) (G 5) (G 6) (G 7) (G 10) nC nD nT nu a va b vb w).2.2.2.1)) 3 ((mr_X_term (F 2) (F 5) (G 0) (G 1) (G 2) (G 3) (G 4) (G 5) (G 6) (G 7) (G 10) nC nD nT nu a va b vb w).2.2.2.2.1)) 4 ((mr_X_term (F 2) (F 5) (G 0) (G 1) (G 2) (G 3) (G 4) (G 5) (G 6) (G 7) (G 10) nC nD nT nu a va b vb w).2.2.2.2.2.1)) 5 ((mr_X_term (F 2) (F 5) (G 0) (G 1) (G 2) (G 3) (G 4) (G 5) (G 6) (G 7) (G 10) nC nD nT nu a va b vb w).2.2.2.2.2.2.1)) 6 ((mr_X_term (F 2) (F 5) (G 0) (G 1) (G 2) (G 3) (G 4) (G 5) (G 6) (G 7) (G 10) nC nD nT nu a va b vb w).2.2.2.2.2.2.2.1)) 7 ((mr_X_term (F 2) (F 5) (G 0) (G 1) (G 2) (G 3) (G 4) (G 5) (G 6) (G 7) (G 10) nC nD nT nu a va b vb w).2.2.2.2.2.2.2.2.1)) 10 ((mr_X_term (F 2) (F 5) (G 0) (G 1) (G 2) (G 3) (G 4) (G 5) (G 6) (G 7) (G 10) nC nD nT nu a va b vb w).2.2.2.2.2.2.2.2.2))) := by simp only [em]; rw [upd_keep (f := F) (j := 2) (x := F 2) rfl, upd_keep (f := F) (j := 5) (x := F 5) rfl, vup_keep (f := G) (j := 2) (x := G 2) rfl, vup_keep (f := G) (j := 3) (x := G 3) rfl, vup_keep (f := G) (j := 4) (x := G 4) rfl, vup_keep (f := G) (j := 5) (x := G 5) rfl, vup_keep (f := G) (j := 6) (x := G 6) rfl, vup_keep (f := G) (j := 7) (x := G 7) rfl, vup_keep (f := G) (j := 10) (x := G 10) rfl]; exact hD
              exact tx_new (A := A) (i1 := 58) (i2 := 105) (i3 := 62) (own := RX) (up := xup) (tx := strsX_105) hlt hx hb (hml.trans hl.1.symm) hlk (hno _) hown (by decide +kernel) (by decide +kernel) (xo_use xo_2 hts) wt2 wx58 wn2 hZw (fun w9 h9 => hZ w9 (List.mem_append_left _ h9)) (hZ _ (List.mem_append_right _ mrX_105)) (fun q hq => (hS.2.1 q (Nat.lt_of_lt_of_le hq hZ0) (by rw [hAe]; exact hZA q hq)).trans (hZH q hq)) hS.2.2 dX_term_81 dX_term_84 dX_term_85 dX_term_87 dX_term_90 (Nat.le_refl _) (Nat.le_refl _) (by decide) (by decide) rfl rfl (fun H1 h1 h2 => ⟨va_old hP9 h2, by rw [← hAe]; exact hD9⟩)
            · refine lv_iload hx hb dX_term_74 (lv_at hl 7 rfl) ?_
              refine lv_ldc hx hb hown k104 dX_term_76 ?_
              refine lv_icmp_le (tgt := 91) hx hb dX_term_78 (by decide) (fun c78 => ?_) (fun c78 => ?_)
              · refine lv_aload_n hx hb dX_term_91 rfl (lv_at hl 1 rfl) ?_
                refine va_get (D := D) (ci := 1) (v := .ref (oa 3)) (C := RX) (T := TX) (N := 6) hx hb hts inX_ hown hK hP 0 rfl hcl.1 1 (by decide) f21 (fun _ h9 => h9) rfl dX_term_92 ?_
                refine va_get (D := D) (ci := 4) (v := .int (F 2)) (C := RBo) (T := TBo) (N := 10) hx hb hts inBo_ hown hK hP 3 rfl hcl.2.2.2.1 4 (by decide) f107 (fun _ h9 => h9) rfl dX_term_95 ?_
                refine wt_i k2 ?_
                refine lv_bipush (v := 100) hx hb dX_term_98 (by decide) ?_
                refine lv_icmp_lt (tgt := 113) hx hb dX_term_100 (by decide) (fun c100 => ?_) (fun c100 => ?_)
                · have n100 : nT < 100 := (nI_ltI (a := nT) (b := 100) (by omega) (by omega)).mp c100
                  have xt := ix_cl (mQT nu.toNatClampNeg xn.2) (by omega)
                  have xt2 := xt.2
                  exact absurd (by rw [mrx_X_term, if_neg c17, if_neg c29, if_neg c34, if_neg c64, if_neg c71, if_pos c78, if_pos c100]) hnx
                · have n100 : ¬ nT < 100 := fun h9 => c100 ((nI_ltI (a := nT) (b := 100) (by omega) (by omega)).mpr h9)
                  have ex : mrx_X_term (G 0) nC nD nT nu a va b vb w = 3 := by rw [mrx_X_term, if_neg c17, if_neg c29, if_neg c34, if_neg c64, if_neg c71, if_pos c78, if_neg c100]
                  rw [hQ, ex, exn_3]
                  have em : mr_X_term (F 2) (F 5) (G 0) (G 1) (G 2) (G 3) (G 4) (G 5) (G 6) (G 7) (G 10) nC nD nT nu a va b vb w = (0, F 2, F 5, G 2, G 3, G 4, G 5, G 6, G 7, G 10) := by rw [mr_X_term, if_neg c17, if_neg c29, if_neg c34, if_neg c64, if_neg c71, if_pos c78, if_neg c100]
                  have hP9 : va_P D cl (cW oa ca ck (upd (upd F 2 ((mr_X_term (F 2) (F 5) (G 0) (G 1) (G 2) (G 3) (G 4) (G 5) (G 6) (G 7) (G 10) nC nD nT nu a va b vb w).2.1)) 5 ((mr_X_term (F 2) (F 5) (G 0) (G 1) (G 2) (G 3) (G 4) (G 5) (G 6) (G 7) (G 10) nC nD nT nu a va b vb w).2.2.1)) (va_up (va_up (va_up (va_up (va_up (va_up (va_up G 2 ((mr_X_term (F 2) (F 5) (G 0) (G 1) (G 2) (G 3) (G 4) (G 5) (G 6) (G 7) (G 10) nC nD nT nu a va b vb w).2.2.2.1)) 3 ((mr_X_term (F 2) (F 5) (G 0) (G 1) (G 2) (G 3) (G 4) (G 5) (G 6) (G 7) (G 10) nC nD nT nu a va b vb w).2.2.2.2.1)) 4 ((mr_X_term (F 2) (F 5) (G 0) (G 1) (G 2) (G 3) (G 4) (G 5) (G 6) (G 7) (G 10) nC nD nT nu a va b vb w).2.2.2.2.2.1)) 5 ((mr_X_term (F 2) (F 5) (G 0) (G 1) (G 2) (G 3) (G 4) (G 5) (G 6) (G 7) (G 10) nC nD nT nu a va b vb w).2.2.2.2.2.2.1)) 6 ((mr_X_term (F 2) (F 5) (G 0) (G 1) (G 2) (G 3) (G 4) (G 5) (G 6) (G 7) (G 10) nC nD nT nu a va b vb w).2.2.2.2.2.2.2.1)) 7 ((mr_X_term (F 2) (F 5) (G 0) (G 1) (G 2) (G 3) (G 4) (G 5) (G 6) (G 7) (G 10) nC nD nT nu a va b vb w).2.2.2.2.2.2.2.2.1)) 10 ((mr_X_term (F 2) (F 5) (G 0) (G 1) (G 2) (G 3) (G 4) (G 5) (G 6) (G 7) (G 10) nC nD nT nu a va b vb w).2.2.2.2.2.2.2.2.2))) H := by simp only [em]; rw [upd_keep (f := F) (j := 2) (x := F 2) rfl, upd_keep (f := F) (j := 5) (x := F 5) rfl, vup_keep (f := G) (j := 2) (x := G 2) rfl, vup_keep (f := G) (j := 3) (x := G 3) rfl, vup_keep (f := G) (j := 4) (x := G 4) rfl, vup_keep (f := G) (j := 5) (x := G 5) rfl, vup_keep (f := G) (j := 6) (x := G 6) rfl, vup_keep (f := G) (j := 7) (x := G 7) rfl, vup_keep (f := G) (j := 10) (x := G 10) rfl]; exact hP
                  have hD9 : va_D A (cW oa ca ck (upd (upd F 2 ((mr_X_term (F 2) (F 5) (G 0) (G 1) (G 2) (G 3) (G 4) (G 5) (G 6) (G 7) (G 10) nC nD nT nu a va b vb w).2.1)) 5 ((mr_X_term (F 2) (F 5) (G 0) (G 1) (G 2) (G 3) (G 4) (G 5) (G 6) (G 7) (G 10) nC nD nT nu a va b vb w).2.2.1)) (va_up (va_up (va_up (va_up (va_up (va_up (va_up G 2 ((mr_X_term (F 2) (F 5) (G 0) (G 1) (G 2) (G 3) (G 4) (G 5) (G 6) (G 7) (G 10) nC nD nT nu a va b vb w).2.2.2.1)) 3 ((mr_X_term (F 2) (F 5) (G 0) (G 1) (G 2) (G 3) (G 4) (G 5) (G 6) (G 7) (G 10) nC nD nT nu a va b vb w).2.2.2.2.1)) 4 ((mr_X_term (F 2) (F 5) (G 0) (G 1) (G 2) (G 3) (G 4) (G 5) (G 6) (G 7) (G 10) nC nD nT nu a va b vb w).2.2.2.2.2.1)) 5 ((mr_X_term (F 2) (F 5) (G 0) (G 1) (G 2) (G 3) (G 4) (G 5) (G 6) (G 7) (G 10) nC nD nT nu a va b vb w).2.2.2.2.2.2.1)) 6 ((mr_X_term (F 2) (F 5) (G 0) (G 1) (G 2) (G 3) (G 4) (G 5) (G 6) (G 7) (G 10) nC nD nT nu a va b vb w).2.2.2.2.2.2.2.1)) 7 ((mr_X_term (F 2) (F 5) (G 0) (G 1) (G 2) (G 3) (G 4) (G 5) (G 6) (G 7) (G 10) nC nD nT nu a va b vb w).2.2.2.2.2.2.2.2.1)) 10 ((mr_X_term (F 2) (F 5) (G 0) (G 1) (G 2) (G 3) (G 4) (G 5) (G 6) (G 7) (G 10) nC nD nT nu a va b vb w).2.2.2.2.2.2.2.2.2))) := by simp only [em]; rw [upd_keep (f := F) (j := 2) (x := F 2) rfl, upd_keep (f := F) (j := 5) (x := F 5) rfl, vup_keep (f := G) (j := 2) (x := G 2) rfl, vup_keep (f := G) (j := 3) (x := G 3) rfl, vup_keep (f := G) (j := 4) (x := G 4) rfl, vup_keep (f := G) (j := 5) (x := G 5) rfl, vup_keep (f := G) (j := 6) (x := G 6) rfl, vup_keep (f := G) (j := 7) (x := G 7) rfl, vup_keep (f := G) (j := 10) (x := G 10) rfl]; exact hD
                  exact tx_new (A := A) (i1 := 69) (i2 := 110) (i3 := 73) (own := RX) (up := xup) (tx := strsX_110) hlt hx hb (hml.trans hl.1.symm) hlk (hno _) hown (by decide +kernel) (by decide +kernel) (xo_use xo_3 hts) wt3 wx69 wn3 hZw (fun w9 h9 => hZ w9 (List.mem_append_left _ h9)) (hZ _ (List.mem_append_right _ mrX_110)) (fun q hq => (hS.2.1 q (Nat.lt_of_lt_of_le hq hZ0) (by rw [hAe]; exact hZA q hq)).trans (hZH q hq)) hS.2.2 dX_term_103 dX_term_106 dX_term_107 dX_term_109 dX_term_112 (Nat.le_refl _) (Nat.le_refl _) (by decide) (by decide) rfl rfl (fun H1 h1 h2 => ⟨va_old hP9 h2, by rw [← hAe]; exact hD9⟩)
              · have ex : mrx_X_term (G 0) nC nD nT nu a va b vb w = 2 := by rw [mrx_X_term, if_neg c17, if_neg c29, if_neg c34, if_neg c64, if_neg c71, if_neg c78]
                rw [hQ, ex, exn_2]
                have em : mr_X_term (F 2) (F 5) (G 0) (G 1) (G 2) (G 3) (G 4) (G 5) (G 6) (G 7) (G 10) nC nD nT nu a va b vb w = (0, F 2, F 5, G 2, G 3, G 4, G 5, G 6, G 7, G 10) := by rw [mr_X_term, if_neg c17, if_neg c29, if_neg c34, if_neg c64, if_neg c71, if_neg c78]
                have hP9 : va_P D cl (cW oa ca ck (upd (upd F 2 ((mr_X_term (F 2) (F 5) (G 0) (G 1) (G 2) (G 3) (G 4) (G 5) (G 6) (G 7) (G 10) nC nD nT nu a va b vb w).2.1)) 5 ((mr_X_term (F 2) (F 5) (G 0) (G 1) (G 2) (G 3) (G 4) (G 5) (G 6) (G 7) (G 10) nC nD nT nu a va b vb w).2.2.1)) (va_up (va_up (va_up (va_up (va_up (va_up (va_up G 2 ((mr_X_term (F 2) (F 5) (G 0) (G 1) (G 2) (G 3) (G 4) (G 5) (G 6) (G 7) (G 10) nC nD nT nu a va b vb w).2.2.2.1)) 3 ((mr_X_term (F 2) (F 5) (G 0) (G 1) (G 2) (G 3) (G 4) (G 5) (G 6) (G 7) (G 10) nC nD nT nu a va b vb w).2.2.2.2.1)) 4 ((mr_X_term (F 2) (F 5) (G 0) (G 1) (G 2) (G 3) (G 4) (G 5) (G 6) (G 7) (G 10) nC nD nT nu a va b vb w).2.2.2.2.2.1)) 5 ((mr_X_term (F 2) (F 5) (G 0) (G 1) (G 2) (G 3) (G 4) (G 5) (G 6) (G 7) (G 10) nC nD nT nu a va b vb w).2.2.2.2.2.2.1)) 6 ((mr_X_term (F 2) (F 5) (G 0) (G 1) (G 2) (G 3) (G 4) (G 5) (G 6) (G 7) (G 10) nC nD nT nu a va b vb w).2.2.2.2.2.2.2.1)) 7 ((mr_X_term (F 2) (F 5) (G 0) (G 1) (G 2) (G 3) (G 4) (G 5) (G 6) (G 7) (G 10) nC nD nT nu a va b vb w).2.2.2.2.2.2.2.2.1)) 10 ((mr_X_term (F 2) (F 5) (G 0) (G 1) (G 2) (G 3) (G 4) (G 5) (G 6) (G 7) (G 10) nC nD nT nu a va b vb w).2.2.2.2.2.2.2.2.2))) H := by simp only [em]; rw [upd_keep (f := F) (j := 2) (x := F 2) rfl, upd_keep (f := F) (j := 5) (x := F 5) rfl, vup_keep (f := G) (j := 2) (x := G 2) rfl, vup_keep (f := G) (j := 3) (x := G 3) rfl, vup_keep (f := G) (j := 4) (x := G 4) rfl, vup_keep (f := G) (j := 5) (x := G 5) rfl, vup_keep (f := G) (j := 6) (x := G 6) rfl, vup_keep (f := G) (j := 7) (x := G 7) rfl, vup_keep (f := G) (j := 10) (x := G 10) rfl]; exact hP
                have hD9 : va_D A (cW oa ca ck (upd (upd F 2 ((mr_X_term (F 2) (F 5) (G 0) (G 1) (G 2) (G 3) (G 4) (G 5) (G 6) (G 7) (G 10) nC nD nT nu a va b vb w).2.1)) 5 ((mr_X_term (F 2) (F 5) (G 0) (G 1) (G 2) (G 3) (G 4) (G 5) (G 6) (G 7) (G 10) nC nD nT nu a va b vb w).2.2.1)) (va_up (va_up (va_up (va_up (va_up (va_up (va_up G 2 ((mr_X_term (F 2) (F 5) (G 0) (G 1) (G 2) (G 3) (G 4) (G 5) (G 6) (G 7) (G 10) nC nD nT nu a va b vb w).2.2.2.1)) 3 ((mr_X_term (F 2) (F 5) (G 0) (G 1) (G 2) (G 3) (G 4) (G 5) (G 6) (G 7) (G 10) nC nD nT nu a va b vb w).2.2.2.2.1)) 4 ((mr_X_term (F 2) (F 5) (G 0) (G 1) (G 2) (G 3) (G 4) (G 5) (G 6) (G 7) (G 10) nC nD nT nu a va b vb w).2.2.2.2.2.1)) 5 ((mr_X_term (F 2) (F 5) (G 0) (G 1) (G 2) (G 3) (G 4) (G 5) (G 6) (G 7) (G 10) nC nD nT nu a va b vb w).2.2.2.2.2.2.1)) 6 ((mr_X_term (F 2) (F 5) (G 0) (G 1) (G 2) (G 3) (G 4) (G 5) (G 6) (G 7) (G 10) nC nD nT nu a va b vb w).2.2.2.2.2.2.2.1)) 7 ((mr_X_term (F 2) (F 5) (G 0) (G 1) (G 2) (G 3) (G 4) (G 5) (G 6) (G 7) (G 10) nC nD nT nu a va b vb w).2.2.2.2.2.2.2.2.1)) 10 ((mr_X_term (F 2) (F 5) (G 0) (G 1) (G 2) (G 3) (G 4) (G 5) (G 6) (G 7) (G 10) nC nD nT nu a va b vb w).2.2.2.2.2.2.2.2.2))) := by simp only [em]; rw [upd_keep (f := F) (j := 2) (x := F 2) rfl, upd_keep (f := F) (j := 5) (x := F 5) rfl, vup_keep (f := G) (j := 2) (x := G 2) rfl, vup_keep (f := G) (j := 3) (x := G 3) rfl, vup_keep (f := G) (j := 4) (x := G 4) rfl, vup_keep (f := G) (j := 5) (x := G 5) rfl, vup_keep (f := G) (j := 6) (x := G 6) rfl, vup_keep (f := G) (j := 7) (x := G 7) rfl, vup_keep (f := G) (j := 10) (x := G 10) rfl]; exact hD
                exact tx_new (A := A) (i1 := 58) (i2 := 105) (i3 := 62) (own := RX) (up := xup) (tx := strsX_105) hlt hx hb (hml.trans hl.1.symm) hlk (hno _) hown (by decide +kernel) (by decide +kernel) (xo_use xo_2 hts) wt2 wx58 wn2 hZw (fun w9 h9 => hZ w9 (List.mem_append_left _ h9)) (hZ _ (List.mem_append_right _ mrX_105)) (fun q hq => (hS.2.1 q (Nat.lt_of_lt_of_le hq hZ0) (by rw [hAe]; exact hZA q hq)).trans (hZH q hq)) hS.2.2 dX_term_81 dX_term_84 dX_term_85 dX_term_87 dX_term_90 (Nat.le_refl _) (Nat.le_refl _) (by decide) (by decide) rfl rfl (fun H1 h1 h2 => ⟨va_old hP9 h2, by rw [← hAe]; exact hD9⟩)
        · refine lv_aload_n hx hb dX_term_37 rfl (lv_at hl 1 rfl) ?_
          refine va_get (D := D) (ci := 1) (v := .ref (oa 1)) (C := RX) (T := TX) (N := 6) hx hb hts inX_ hown hK hP 0 rfl hcl.1 0 (by decide) f12 (fun _ h9 => h9) rfl dX_term_38 ?_
          refine lv_iload hx hb dX_term_41 (lv_at hl 5 rfl) ?_
          refine lv_iload hx hb dX_term_43 (lv_at hl 6 rfl) ?_
          refine ro_callV (r := (.int (mr_Sh_hasValue (G 0) nC b vb))) (As := [.int b, .int vb]) (rest := []) Sx (c_Sh_hasValue l D cl hcl oa ca ck F G hP nC b vb k0 hC) (cwV 2 hts gX_term_Sh_hasValue rfl rfl rfl (by decide +kernel) ⟨Nat.le_of_ble_eq_true rfl, Nat.le_of_ble_eq_true rfl⟩) hK (va_recv hK hP (ci := 2) (q0 := 1) hcl.2.1 rfl) rfl hl.1 rfl (Nat.le_of_ble_eq_true rfl) dX_term_45 ⟨Nat.zero_le _, Nat.zero_le _⟩ ?_
          refine lv_if_ne (tgt := 61) hx hb dX_term_48 (by decide) (fun c48 => ?_) (fun c48 => ?_)
          · refine lv_iload_n hx hb dX_term_61 rfl (lv_at hl 3 rfl) ?_
            refine lv_iload hx hb dX_term_62 (lv_at hl 5 rfl) ?_
            refine lv_icmp_eq (tgt := 81) hx hb dX_term_64 (by decide) (fun c64 => ?_) (fun c64 => ?_)
            · have ex : mrx_X_term (G 0) nC nD nT nu a va b vb w = 2 := by rw [mrx_X_term, if_neg c17, if_neg c29, if_pos c34, if_neg c48, if_pos c64]
              rw [hQ, ex, exn_2]
              have em : mr_X_term (F 2) (F 5) (G 0) (G 1) (G 2) (G 3) (G 4) (G 5) (G 6) (G 7) (G 10) nC nD nT nu a va b vb w = (0, F 2, F 5, G 2, G 3, G 4, G 5, G 6, G 7, G 10) := by rw [mr_X_term, if_neg c17, if_neg c29, if_pos c34, if_neg c48, if_pos c64]
              have hP9 : va_P D cl (cW oa ca ck (upd (upd F 2 ((mr_X_term (F 2) (F 5) (G 0) (G 1) (G 2) (G 3) (G 4) (G 5) (G 6) (G 7) (G 10) nC nD nT nu a va b vb w).2.1)) 5 ((mr_X_term (F 2) (F 5) (G 0) (G 1) (G 2) (G 3) (G 4) (G 5) (G 6) (G 7) (G 10) nC nD nT nu a va b vb w).2.2.1)) (va_up (va_up (va_up (va_up (va_up (va_up (va_up G 2 ((mr_X_term (F 2) (F 5) (G 0) (G 1) (G 2) (G 3) (G 4) (G 5) (G 6) (G 7) (G 10) nC nD nT nu a va b vb w).2.2.2.1)) 3 ((mr_X_term (F 2) (F 5) (G 0) (G 1) (G 2) (G 3) (G 4) (G 5) (G 6) (G 7) (G 10) nC nD nT nu a va b vb w).2.2.2.2.1)) 4 ((mr_X_term (F 2) (F 5) (G 0) (G 1) (G 2) (G 3) (G 4) (G 5) (G 6) (G 7) (G 10) nC nD nT nu a va b vb w).2.2.2.2.2.1)) 5 ((mr_X_term (F 2) (F 5) (G 0) (G 1) (G 2) (G 3) (G 4) (G 5) (G 6) (G 7) (G 10) nC nD nT nu a va b vb w).2.2.2.2.2.2.1)) 6 ((mr_X_term (F 2) (F 5) (G 0) (G 1) (G 2) (G 3) (G 4) (G 5) (G 6) (G 7) (G 10) nC nD nT nu a va b vb w).2.2.2.2.2.2.2.1)) 7 ((mr_X_term (F 2) (F 5) (G 0) (G 1) (G 2) (G 3) (G 4) (G 5) (G 6) (G 7) (G 10) nC nD nT nu a va b vb w).2.2.2.2.2.2.2.2.1)) 10 ((mr_X_term (F 2) (F 5) (G 0) (G 1) (G 2) (G 3) (G 4) (G 5) (G 6) (G 7) (G 10) nC nD nT nu a va b vb w).2.2.2.2.2.2.2.2.2))) H := by simp only [em]; rw [upd_keep (f := F) (j := 2) (x := F 2) rfl, upd_keep (f := F) (j := 5) (x := F 5) rfl, vup_keep (f := G) (j := 2) (x := G 2) rfl, vup_keep (f := G) (j := 3) (x := G 3) rfl, vup_keep (f := G) (j := 4) (x := G 4) rfl, vup_keep (f := G) (j := 5) (x := G 5) rfl, vup_keep (f := G) (j := 6) (x := G 6) rfl, vup_keep (f := G) (j := 7) (x := G 7) rfl, vup_keep (f := G) (j := 10) (x := G 10) rfl]; exact hP
              have hD9 : va_D A (cW oa ca ck (upd (upd F 2 ((mr_X_term (F 2) (F 5) (G 0) (G 1) (G 2) (G 3) (G 4) (G 5) (G 6) (G 7) (G 10) nC nD nT nu a va b vb w).2.1)) 5 ((mr_X_term (F 2) (F 5) (G 0) (G 1) (G 2) (G 3) (G 4) (G 5) (G 6) (G 7) (G 10) nC nD nT nu a va b vb w).2.2.1)) (va_up (va_up (va_up (va_up (va_up (va_up (va_up G 2 ((mr_X_term (F 2) (F 5) (G 0) (G 1) (G 2) (G 3) (G 4) (G 5) (G 6) (G 7) (G 10) nC nD nT nu a va b vb w).2.2.2.1)) 3 ((mr_X_term (F 2) (F 5) (G 0) (G 1) (G 2) (G 3) (G 4) (G 5) (G 6) (G 7) (G 10) nC nD nT nu a va b vb w).2.2.2.2.1)) 4 ((mr_X_term (F 2) (F 5) (G 0) (G 1) (G 2) (G 3) (G 4) (G 5) (G 6) (G 7) (G 10) nC nD nT nu a va b vb w).2.2.2.2.2.1)) 5 ((mr_X_term (F 2) (F 5) (G 0) (G 1) (G 2) (G 3) (G 4) (G 5) (G 6) (G 7) (G 10) nC nD nT nu a va b vb w).2.2.2.2.2.2.1)) 6 ((mr_X_term (F 2) (F 5) (G 0) (G 1) (G 2) (G 3) (G 4) (G 5) (G 6) (G 7) (G 10) nC nD nT nu a va b vb w).2.2.2.2.2.2.2.1)) 7 ((mr_X_term (F 2) (F 5) (G 0) (G 1) (G 2) (G 3) (G 4) (G 5) (G 6) (G 7) (G 10) nC nD nT nu a va b vb w).2.2.2.2.2.2.2.2.1)) 10 ((mr_X_term (F 2) (F 5) (G 0) (G 1) (G 2) (G 3) (G 4) (G 5) (G 6) (G 7) (G 10) nC nD nT nu a va b vb w).2.2.2.2.2.2.2.2.2))) := by simp only [em]; rw [upd_keep (f := F) (j := 2) (x := F 2) rfl, upd_keep (f := F) (j := 5) (x := F 5) rfl, vup_keep (f := G) (j := 2) (x := G 2) rfl, vup_keep (f := G) (j := 3) (x := G 3) rfl, vup_keep (f := G) (j := 4) (x := G 4) rfl, vup_keep (f := G) (j := 5) (x := G 5) rfl, vup_keep (f := G) (j := 6) (x := G 6) rfl, vup_keep (f := G) (j := 7) (x := G 7) rfl, vup_keep (f := G) (j := 10) (x := G 10) rfl]; exact hD
              exact tx_new (A := A) (i1 := 58) (i2 := 105) (i3 := 62) (own := RX) (up := xup) (tx := strsX_105) hlt hx hb (hml.trans hl.1.symm) hlk (hno _) hown (by decide +kernel) (by decide +kernel) (xo_use xo_2 hts) wt2 wx58 wn2 hZw (fun w9 h9 => hZ w9 (List.mem_append_left _ h9)) (hZ _ (List.mem_append_right _ mrX_105)) (fun q hq => (hS.2.1 q (Nat.lt_of_lt_of_le hq hZ0) (by rw [hAe]; exact hZA q hq)).trans (hZH q hq)) hS.2.2 dX_term_81 dX_term_84 dX_term_85 dX_term_87 dX_term_90 (Nat.le_refl _) (Nat.le_refl _) (by decide) (by decide) rfl rfl (fun H1 h1 h2 => ⟨va_old hP9 h2, by rw [← hAe]; exact hD9⟩)
            · refine lv_iload hx hb dX_term_67 (lv_at hl 7 rfl) ?_
              refine lv_ldc hx hb hown k103 dX_term_69 ?_
              refine lv_icmp_lt (tgt := 81) hx hb dX_term_71 (by decide) (fun c71 => ?_) (fun c71 => ?_)
              · have ex : mrx_X_term (G 0) nC nD nT nu a va b vb w = 2 := by rw [mrx_X_term, if_neg c17, if_neg c29, if_pos c34, if_neg c48, if_neg c64, if_pos c71]
                rw [hQ, ex, exn_2]
                have em : mr_X_term (F 2) (F 5) (G 0) (G 1) (G 2) (G 3) (G 4) (G 5) (G 6) (G 7) (G 10) nC nD nT nu a va b vb w = (0, F 2, F 5, G 2, G 3, G 4, G 5, G 6, G 7, G 10) := by rw [mr_X_term, if_neg c17, if_neg c29, if_pos c34, if_neg c48, if_neg c64, if_pos c71]
                have hP9 : va_P D cl (cW oa ca ck (upd (upd F 2 ((mr_X_term (F 2) (F 5) (G 0) (G 1) (G 2) (G 3) (G 4) (G 5) (G 6) (G 7) (G 10) nC nD nT nu a va b vb w).2.1)) 5 ((mr_X_term (F 2) (F 5) (G 0) (G 1) (G 2) (G 3) (G 4) (G 5) (G 6) (G 7) (G 10) nC nD nT nu a va b vb w).2.2.1)) (va_up (va_up (va_up (va_up (va_up (va_up (va_up G 2 ((mr_X_term (F 2) (F 5) (G 0) (G 1) (G 2) (G 3) (G 4) (G 5) (G 6) (G 7) (G 10) nC nD nT nu a va b vb w).2.2.2.1)) 3 ((mr_X_term (F 2) (F 5) (G 0) (G 1) (G 2) (G 3) (G 4) (G 5) (G 6) (G 7) (G 10) nC nD nT nu a va b vb w).2.2.2.2.1)) 4 ((mr_X_term (F 2) (F 5) (G 0) (G 1) (G 2) (G 3) (G 4) (G 5) (G 6) (G 7) (G 10) nC nD nT nu a va b vb w).2.2.2.2.2.1)) 5 ((mr_X_term (F 2) (F 5) (G 0) (G 1) (G 2) (G 3) (G 4) (G 5) (G 6) (G 7) (G 10) nC nD nT nu a va b vb w).2.2.2.2.2.2.1)) 6 ((mr_X_term (F 2) (F 5) (G 0) (G 1) (G 2) (G 3) (G 4) (G 5) (G 6) (G 7) (G 10) nC nD nT nu a va b vb w).2.2.2.2.2.2.2.1)) 7 ((mr_X_term (F 2) (F 5) (G 0) (G 1) (G 2) (G 3) (G 4) (G 5) (G 6) (G 7) (G 10) nC nD nT nu a va b vb w).2.2.2.2.2.2.2.2.1)) 10 ((mr_X_term (F 2) (F 5) (G 0) (G 1) (G 2) (G 3) (G 4) (G 5) (G 6) (G 7) (G 10) nC nD nT nu a va b vb w).2.2.2.2.2.2.2.2.2))) H := by simp only [em]; rw [upd_keep (f := F) (j := 2) (x := F 2) rfl, upd_keep (f := F) (j := 5) (x := F 5) rfl, vup_keep (f := G) (j := 2) (x := G 2) rfl, vup_keep (f := G) (j := 3) (x := G 3) rfl, vup_keep (f := G) (j := 4) (x := G 4) rfl, vup_keep (f := G) (j := 5) (x := G 5) rfl, vup_keep (f := G) (j := 6) (x := G 6) rfl, vup_keep (f := G) (j := 7) (x := G 7) rfl, vup_keep (f := G) (j := 10) (x := G 10) rfl]; exact hP
                have hD9 : va_D A (cW oa ca ck (upd (upd F 2 ((mr_X_term (F 2) (F 5) (G 0) (G 1) (G 2) (G 3) (G 4) (G 5) (G 6) (G 7) (G 10) nC nD nT nu a va b vb w).2.1)) 5 ((mr_X_term (F 2) (F 5) (G 0) (G 1) (G 2) (G 3) (G 4) (G 5) (G 6) (G 7) (G 10) nC nD nT nu a va b vb w).2.2.1)) (va_up (va_up (va_up (va_up (va_up (va_up (va_up G 2 ((mr_X_term (F 2) (F 5) (G 0) (G 1) (G 2) (G 3) (G 4) (G 5) (G 6) (G 7) (G 10) nC nD nT nu a va b vb w).2.2.2.1)) 3 ((mr_X_term (F 2) (F 5) (G 0) (G 1) (G 2) (G 3) (G 4) (G 5) (G 6) (G 7) (G 10) nC nD nT nu a va b vb w).2.2.2.2.1)) 4 ((mr_X_term (F 2) (F 5) (G 0) (G 1) (G 2) (G 3) (G 4) (G 5) (G 6) (G 7) (G 10) nC nD nT nu a va b vb w).2.2.2.2.2.1)) 5 ((mr_X_term (F 2) (F 5) (G 0) (G 1) (G 2) (G 3) (G 4) (G 5) (G 6) (G 7) (G 10) nC nD nT nu a va b vb w).2.2.2.2.2.2.1)) 6 ((mr_X_term (F 2) (F 5) (G 0) (G 1) (G 2) (G 3) (G 4) (G 5) (G 6) (G 7) (G 10) nC nD nT nu a va b vb w).2.2.2.2.2.2.2.1)) 7 ((mr_X_term (F 2) (F 5) (G 0) (G 1) (G 2) (G 3) (G 4) (G 5) (G 6) (G 7) (G 10) nC nD nT nu a va b vb w).2.2.2.2.2.2.2.2.1)) 10 ((mr_X_term (F 2) (F 5) (G 0) (G 1) (G 2) (G 3) (G 4) (G 5) (G 6) (G 7) (G 10) nC nD nT nu a va b vb w).2.2.2.2.2.2.2.2.2))) := by simp only [em]; rw [upd_keep (f := F) (j := 2) (x := F 2) rfl, upd_keep (f := F) (j := 5) (x := F 5) rfl, vup_keep (f := G) (j := 2) (x := G 2) rfl, vup_keep (f := G) (j := 3) (x := G 3) rfl, vup_keep (f := G) (j := 4) (x := G 4) rfl, vup_keep (f := G) (j := 5) (x := G 5) rfl, vup_keep (f := G) (j := 6) (x := G 6) rfl, vup_keep (f := G) (j := 7) (x := G 7) rfl, vup_keep (f := G) (j := 10) (x := G 10) rfl]; exact hD
                exact tx_new (A := A) (i1 := 58) (i2 := 105) (i3 := 62) (own := RX) (up := xup) (tx := strsX_105) hlt hx hb (hml.trans hl.1.symm) hlk (hno _) hown (by decide +kernel) (by decide +kernel) (xo_use xo_2 hts) wt2 wx58 wn2 hZw (fun w9 h9 => hZ w9 (List.mem_append_left _ h9)) (hZ _ (List.mem_append_right _ mrX_105)) (fun q hq => (hS.2.1 q (Nat.lt_of_lt_of_le hq hZ0) (by rw [hAe]; exact hZA q hq)).trans (hZH q hq)) hS.2.2 dX_term_81 dX_term_84 dX_term_85 dX_term_87 dX_term_90 (Nat.le_refl _) (Nat.le_refl _) (by decide) (by decide) rfl rfl (fun H1 h1 h2 => ⟨va_old hP9 h2, by rw [← hAe]; exact hD9⟩)
              · refine lv_iload hx hb dX_term_74 (lv_at hl 7 rfl) ?_
                refine lv_ldc hx hb hown k104 dX_term_76 ?_
                refine lv_icmp_le (tgt := 91) hx hb dX_term_78 (by decide) (fun c78 => ?_) (fun c78 => ?_)
                · refine lv_aload_n hx hb dX_term_91 rfl (lv_at hl 1 rfl) ?_
                  refine va_get (D := D) (ci := 1) (v := .ref (oa 3)) (C := RX) (T := TX) (N := 6) hx hb hts inX_ hown hK hP 0 rfl hcl.1 1 (by decide) f21 (fun _ h9 => h9) rfl dX_term_92 ?_
                  refine va_get (D := D) (ci := 4) (v := .int (F 2)) (C := RBo) (T := TBo) (N := 10) hx hb hts inBo_ hown hK hP 3 rfl hcl.2.2.2.1 4 (by decide) f107 (fun _ h9 => h9) rfl dX_term_95 ?_
                  refine wt_i k2 ?_
                  refine lv_bipush (v := 100) hx hb dX_term_98 (by decide) ?_
                  refine lv_icmp_lt (tgt := 113) hx hb dX_term_100 (by decide) (fun c100 => ?_) (fun c100 => ?_)
                  · have n100 : nT < 100 := (nI_ltI (a := nT) (b := 100) (by omega) (by omega)).mp c100
                    have xt := ix_cl (mQT nu.toNatClampNeg xn.2) (by omega)
                    have xt2 := xt.2
                    exact absurd (by rw [mrx_X_term, if_neg c17, if_neg c29, if_pos c34, if_neg c48, if_neg c64, if_neg c71, if_pos c78, if_pos c100]) hnx
                  · have n100 : ¬ nT < 100 := fun h9 => c100 ((nI_ltI (a := nT) (b := 100) (by omega) (by omega)).mpr h9)
                    have ex : mrx_X_term (G 0) nC nD nT nu a va b vb w = 3 := by rw [mrx_X_term, if_neg c17, if_neg c29, if_pos c34, if_neg c48, if_neg c64, if_neg c71, if_pos c78, if_neg c100]
                    rw [hQ, ex, exn_3]
                    have em : mr_X_term (F 2) (F 5) (G 0) (G 1) (G 2) (G 3) (G 4) (G 5) (G 6) (G 7) (G 10) nC nD nT nu a va b vb w = (0, F 2, F 5, G 2, G 3, G 4, G 5, G 6, G 7, G 10) := by rw [mr_X_term, if_neg c17, if_neg c29, if_pos c34, if_neg c48, if_neg c64, if_neg c71, if_pos c78, if_neg c100]
                    have hP9 : va_P D cl (cW oa ca ck (upd (upd F 2 ((mr_X_term (F 2) (F 5) (G 0) (G 1) (G 2) (G 3) (G 4) (G 5) (G 6) (G 7) (G 10) nC nD nT nu a va b vb w).2.1)) 5 ((mr_X_term (F 2) (F 5) (G 0) (G 1) (G 2) (G 3) (G 4) (G 5) (G 6) (G 7) (G 10) nC nD nT nu a va b vb w).2.2.1)) (va_up (va_up (va_up (va_up (va_up (va_up (va_up G 2 ((mr_X_term (F 2) (F 5) (G 0) (G 1) (G 2) (G 3) (G 4) (G 5) (G 6) (G 7) (G 10) nC nD nT nu a va b vb w).2.2.2.1)) 3 ((mr_X_term (F 2) (F 5) (G 0) (G 1) (G 2) (G 3) (G 4) (G 5) (G 6) (G 7) (G 10) nC nD nT nu a va b vb w).2.2.2.2.1)) 4 ((mr_X_term (F 2) (F 5) (G 0) (G 1) (G 2) (G 3) (G 4) (G 5) (G 6) (G 7) (G 10) nC nD nT nu a va b vb w).2.2.2.2.2.1)) 5 ((mr_X_term (F 2) (F 5) (G 0) (G 1) (G 2) (G 3) (G 4) (G 5) (G 6) (G 7) (G 10) nC nD nT nu a va b vb w).2.2.2.2.2.2.1)) 6 ((mr_X_term (F 2) (F 5) (G 0) (G 1) (G 2) (G 3) (G 4) (G 5) (G 6) (G 7) (G 10) nC nD nT nu a va b vb w).2.2.2.2.2.2.2.1)) 7 ((mr_X_term (F 2) (F 5) (G 0) (G 1) (G 2) (G 3) (G 4) (G 5) (G 6) (G 7) (G 10) nC nD nT nu a va b vb w).2.2.2.2.2.2.2.2.1)) 10 ((mr_X_term (F 2) (F 5) (G 0) (G 1) (G 2) (G 3) (G 4) (G 5) (G 6) (G 7) (G 10) nC nD nT nu a va b vb w).2.2.2.2.2.2.2.2.2))) H := by simp only [em]; rw [upd_keep (f := F) (j := 2) (x := F 2) rfl, upd_keep (f := F) (j := 5) (x := F 5) rfl, vup_keep (f := G) (j := 2) (x := G 2) rfl, vup_keep (f := G) (j := 3) (x := G 3) rfl, vup_keep (f := G) (j := 4) (x := G 4) rfl, vup_keep (f := G) (j := 5) (x := G 5) rfl, vup_keep (f := G) (j := 6) (x := G 6) rfl, vup_keep (f := G) (j := 7) (x := G 7) rfl, vup_keep (f := G) (j := 10) (x := G 10) rfl]; exact hP
                    have hD9 : va_D A (cW oa ca ck (upd (upd F 2 ((mr_X_term (F 2) (F 5) (G 0) (G 1) (G 2) (G 3) (G 4) (G 5) (G 6) (G 7) (G 10) nC nD nT nu a va b vb w).2.1)) 5 ((mr_X_term (F 2) (F 5) (G 0) (G 1) (G 2) (G 3) (G 4) (G 5) (G 6) (G 7) (G 10) nC nD nT nu a va b vb w).2.2.1)) (va_up (va_up (va_up (va_up (va_up (va_up (va_up G 2 ((mr_X_term (F 2) (F 5) (G 0) (G 1) (G 2) (G 3) (G 4) (G 5) (G 6) (G 7) (G 10) nC nD nT nu a va b vb w).2.2.2.1)) 3 ((mr_X_term (F 2) (F 5) (G 0) (G 1) (G 2) (G 3) (G 4) (G 5) (G 6) (G 7) (G 10) nC nD nT nu a va b vb w).2.2.2.2.1)) 4 ((mr_X_term (F 2) (F 5) (G 0) (G 1) (G 2) (G 3) (G 4) (G 5) (G 6) (G 7) (G 10) nC nD nT nu a va b vb w).2.2.2.2.2.1)) 5 ((mr_X_term (F 2) (F 5) (G 0) (G 1) (G 2) (G 3) (G 4) (G 5) (G 6) (G 7) (G 10) nC nD nT nu a va b vb w).2.2.2.2.2.2.1)) 6 ((mr_X_term (F 2) (F 5) (G 0) (G 1) (G 2) (G 3) (G 4) (G 5) (G 6) (G 7) (G 10) nC nD nT nu a va b vb w).2.2.2.2.2.2.2.1)) 7 ((mr_X_term (F 2) (F 5) (G 0) (G 1) (G 2) (G 3) (G 4) (G 5) (G 6) (G 7) (G 10) nC nD nT nu a va b vb w).2.2.2.2.2.2.2.2.1)) 10 ((mr_X_term (F 2) (F 5) (G 0) (G 1) (G 2) (G 3) (G 4) (G 5) (G 6) (G 7) (G 10) nC nD nT nu a va b vb w).2.2.2.2.2.2.2.2.2))) := by simp only [em]; rw [upd_keep (f := F) (j := 2) (x := F 2) rfl, upd_keep (f := F) (j := 5) (x := F 5) rfl, vup_keep (f := G) (j := 2) (x := G 2) rfl, vup_keep (f := G) (j := 3) (x := G 3) rfl, vup_keep (f := G) (j := 4) (x := G 4) rfl, vup_keep (f := G) (j := 5) (x := G 5) rfl, vup_keep (f := G) (j := 6) (x := G 6) rfl, vup_keep (f := G) (j := 7) (x := G 7) rfl, vup_keep (f := G) (j := 10) (x := G 10) rfl]; exact hD
                    exact tx_new (A := A) (i1 := 69) (i2 := 110) (i3 := 73) (own := RX) (up := xup) (tx := strsX_110) hlt hx hb (hml.trans hl.1.symm) hlk (hno _) hown (by decide +kernel) (by decide +kernel) (xo_use xo_3 hts) wt3 wx69 wn3 hZw (fun w9 h9 => hZ w9 (List.mem_append_left _ h9)) (hZ _ (List.mem_append_right _ mrX_110)) (fun q hq => (hS.2.1 q (Nat.lt_of_lt_of_le hq hZ0) (by rw [hAe]; exact hZA q hq)).trans (hZH q hq)) hS.2.2 dX_term_103 dX_term_106 dX_term_107 dX_term_109 dX_term_112 (Nat.le_refl _) (Nat.le_refl _) (by decide) (by decide) rfl rfl (fun H1 h1 h2 => ⟨va_old hP9 h2, by rw [← hAe]; exact hD9⟩)
                · have ex : mrx_X_term (G 0) nC nD nT nu a va b vb w = 2 := by rw [mrx_X_term, if_neg c17, if_neg c29, if_pos c34, if_neg c48, if_neg c64, if_neg c71, if_neg c78]
                  rw [hQ, ex, exn_2]
                  have em : mr_X_term (F 2) (F 5) (G 0) (G 1) (G 2) (G 3) (G 4) (G 5) (G 6) (G 7) (G 10) nC nD nT nu a va b vb w = (0, F 2, F 5, G 2, G 3, G 4, G 5, G 6, G 7, G 10) := by rw [mr_X_term, if_neg c17, if_neg c29, if_pos c34, if_neg c48, if_neg c64, if_neg c71, if_neg c78]
                  have hP9 : va_P D cl (cW oa ca ck (upd (upd F 2 ((mr_X_term (F 2) (F 5) (G 0) (G 1) (G 2) (G 3) (G 4) (G 5) (G 6) (G 7) (G 10) nC nD nT nu a va b vb w).2.1)) 5 ((mr_X_term (F 2) (F 5) (G 0) (G 1) (G 2) (G 3) (G 4) (G 5) (G 6) (G 7) (G 10) nC nD nT nu a va b vb w).2.2.1)) (va_up (va_up (va_up (va_up (va_up (va_up (va_up G 2 ((mr_X_term (F 2) (F 5) (G 0) (G 1) (G 2) (G 3) (G 4) (G 5) (G 6) (G 7) (G 10) nC nD nT nu a va b vb w).2.2.2.1)) 3 ((mr_X_term (F 2) (F 5) (G 0) (G 1) (G 2) (G 3) (G 4) (G 5) (G 6) (G 7) (G 10) nC nD nT nu a va b vb w).2.2.2.2.1)) 4 ((mr_X_term (F 2) (F 5) (G 0) (G 1) (G 2) (G 3) (G 4) (G 5) (G 6) (G 7) (G 10) nC nD nT nu a va b vb w).2.2.2.2.2.1)) 5 ((mr_X_term (F 2) (F 5) (G 0) (G 1) (G 2) (G 3) (G 4) (G 5) (G 6) (G 7) (G 10) nC nD nT nu a va b vb w).2.2.2.2.2.2.1)) 6 ((mr_X_term (F 2) (F 5) (G 0) (G 1) (G 2) (G 3) (G 4) (G 5) (G 6) (G 7) (G 10) nC nD nT nu a va b vb w).2.2.2.2.2.2.2.1)) 7 ((mr_X_term (F 2) (F 5) (G 0) (G 1) (G 2) (G 3) (G 4) (G 5) (G 6) (G 7) (G 10) nC nD nT nu a va b vb w).2.2.2.2.2.2.2.2.1)) 10 ((mr_X_term (F 2) (F 5) (G 0) (G 1) (G 2) (G 3) (G 4) (G 5) (G 6) (G 7) (G 10) nC nD nT nu a va b vb w).2.2.2.2.2.2.2.2.2))) H := by simp only [em]; rw [upd_keep (f := F) (j := 2) (x := F 2) rfl, upd_keep (f := F) (j := 5) (x := F 5) rfl, vup_keep (f := G) (j := 2) (x := G 2) rfl, vup_keep (f := G) (j := 3) (x := G 3) rfl, vup_keep (f := G) (j := 4) (x := G 4) rfl, vup_keep (f := G) (j := 5) (x := G 5) rfl, vup_keep (f := G) (j := 6) (x := G 6) rfl, vup_keep (f := G) (j := 7) (x := G 7) rfl, vup_keep (f := G) (j := 10) (x := G 10) rfl]; exact hP
                  have hD9 : va_D A (cW oa ca ck (upd (upd F 2 ((mr_X_term (F 2) (F 5) (G 0) (G 1) (G 2) (G 3) (G 4) (G 5) (G 6) (G 7) (G 10) nC nD nT nu a va b vb w).2.1)) 5 ((mr_X_term (F 2) (F 5) (G 0) (G 1) (G 2) (G 3) (G 4) (G 5) (G 6) (G 7) (G 10) nC nD nT nu a va b vb w).2.2.1)) (va_up (va_up (va_up (va_up (va_up (va_up (va_up G 2 ((mr_X_term (F 2) (F 5) (G 0) (G 1) (G 2) (G 3) (G 4) (G 5) (G 6) (G 7) (G 10) nC nD nT nu a va b vb w).2.2.2.1)) 3 ((mr_X_term (F 2) (F 5) (G 0) (G 1) (G 2) (G 3) (G 4) (G 5) (G 6) (G 7) (G 10) nC nD nT nu a va b vb w).2.2.2.2.1)) 4 ((mr_X_term (F 2) (F 5) (G 0) (G 1) (G 2) (G 3) (G 4) (G 5) (G 6) (G 7) (G 10) nC nD nT nu a va b vb w).2.2.2.2.2.1)) 5 ((mr_X_term (F 2) (F 5) (G 0) (G 1) (G 2) (G 3) (G 4) (G 5) (G 6) (G 7) (G 10) nC nD nT nu a va b vb w).2.2.2.2.2.2.1)) 6 ((mr_X_term (F 2) (F 5) (G 0) (G 1) (G 2) (G 3) (G 4) (G 5) (G 6) (G 7) (G 10) nC nD nT nu a va b vb w).2.2.2.2.2.2.2.1)) 7 ((mr_X_term (F 2) (F 5) (G 0) (G 1) (G 2) (G 3) (G 4) (G 5) (G 6) (G 7) (G 10) nC nD nT nu a va b vb w).2.2.2.2.2.2.2.2.1)) 10 ((mr_X_term (F 2) (F 5) (G 0) (G 1) (G 2) (G 3) (G 4) (G 5) (G 6) (G 7) (G 10) nC nD nT nu a va b vb w).2.2.2.2.2.2.2.2.2))) := by simp only [em]; rw [upd_keep (f := F) (j := 2) (x := F 2) rfl, upd_keep (f := F) (j := 5) (x := F 5) rfl, vup_keep (f := G) (j := 2) (x := G 2) rfl, vup_keep (f := G) (j := 3) (x := G 3) rfl, vup_keep (f := G) (j := 4) (x := G 4) rfl, vup_keep (f := G) (j := 5) (x := G 5) rfl, vup_keep (f := G) (j := 6) (x := G 6) rfl, vup_keep (f := G) (j := 7) (x := G 7) rfl, vup_keep (f := G) (j := 10) (x := G 10) rfl]; exact hD
                  exact tx_new (A := A) (i1 := 58) (i2 := 105) (i3 := 62) (own := RX) (up := xup) (tx := strsX_105) hlt hx hb (hml.trans hl.1.symm) hlk (hno _) hown (by decide +kernel) (by decide +kernel) (xo_use xo_2 hts) wt2 wx58 wn2 hZw (fun w9 h9 => hZ w9 (List.mem_append_left _ h9)) (hZ _ (List.mem_append_right _ mrX_105)) (fun q hq => (hS.2.1 q (Nat.lt_of_lt_of_le hq hZ0) (by rw [hAe]; exact hZA q hq)).trans (hZH q hq)) hS.2.2 dX_term_81 dX_term_84 dX_term_85 dX_term_87 dX_term_90 (Nat.le_refl _) (Nat.le_refl _) (by decide) (by decide) rfl rfl (fun H1 h1 h2 => ⟨va_old hP9 h2, by rw [← hAe]; exact hD9⟩)
          · have ex : mrx_X_term (G 0) nC nD nT nu a va b vb w = 1 := by rw [mrx_X_term, if_neg c17, if_neg c29, if_pos c34, if_pos c48]
            rw [hQ, ex, exn_1]
            have em : mr_X_term (F 2) (F 5) (G 0) (G 1) (G 2) (G 3) (G 4) (G 5) (G 6) (G 7) (G 10) nC nD nT nu a va b vb w = (0, F 2, F 5, G 2, G 3, G 4, G 5, G 6, G 7, G 10) := by rw [mr_X_term, if_neg c17, if_neg c29, if_pos c34, if_pos c48]
            have hP9 : va_P D cl (cW oa ca ck (upd (upd F 2 ((mr_X_term (F 2) (F 5) (G 0) (G 1) (G 2) (G 3) (G 4) (G 5) (G 6) (G 7) (G 10) nC nD nT nu a va b vb w).2.1)) 5 ((mr_X_term (F 2) (F 5) (G 0) (G 1) (G 2) (G 3) (G 4) (G 5) (G 6) (G 7) (G 10) nC nD nT nu a va b vb w).2.2.1)) (va_up (va_up (va_up (va_up (va_up (va_up (va_up G 2 ((mr_X_term (F 2) (F 5) (G 0) (G 1) (G 2) (G 3) (G 4) (G 5) (G 6) (G 7) (G 10) nC nD nT nu a va b vb w).2.2.2.1)) 3 ((mr_X_term (F 2) (F 5) (G 0) (G 1) (G 2) (G 3) (G 4) (G 5) (G 6) (G 7) (G 10) nC nD nT nu a va b vb w).2.2.2.2.1)) 4 ((mr_X_term (F 2) (F 5) (G 0) (G 1) (G 2) (G 3) (G 4) (G 5) (G 6) (G 7) (G 10) nC nD nT nu a va b vb w).2.2.2.2.2.1)) 5 ((mr_X_term (F 2) (F 5) (G 0) (G 1) (G 2) (G 3) (G 4) (G 5) (G 6) (G 7) (G 10) nC nD nT nu a va b vb w).2.2.2.2.2.2.1)) 6 ((mr_X_term (F 2) (F 5) (G 0) (G 1) (G 2) (G 3) (G 4) (G 5) (G 6) (G 7) (G 10) nC nD nT nu a va b vb w).2.2.2.2.2.2.2.1)) 7 ((mr_X_term (F 2) (F 5) (G 0) (G 1) (G 2) (G 3) (G 4) (G 5) (G 6) (G 7) (G 10) nC nD nT nu a va b vb w).2.2.2.2.2.2.2.2.1)) 10 ((mr_X_term (F 2) (F 5) (G 0) (G 1) (G 2) (G 3) (G 4) (G 5) (G 6) (G 7) (G 10) nC nD nT nu a va b vb w).2.2.2.2.2.2.2.2.2))) H := by simp only [em]; rw [upd_keep (f := F) (j := 2) (x := F 2) rfl, upd_keep (f := F) (j := 5) (x := F 5) rfl, vup_keep (f := G) (j := 2) (x := G 2) rfl, vup_keep (f := G) (j := 3) (x := G 3) rfl, vup_keep (f := G) (j := 4) (x := G 4) rfl, vup_keep (f := G) (j := 5) (x := G 5) rfl, vup_keep (f := G) (j := 6) (x := G 6) rfl, vup_keep (f := G) (j := 7) (x := G 7) rfl, vup_keep (f := G) (j := 10) (x := G 10) rfl]; exact hP
            have hD9 : va_D A (cW oa ca ck (upd (upd F 2 ((mr_X_term (F 2) (F 5) (G 0) (G 1) (G 2) (G 3) (G 4) (G 5) (G 6) (G 7) (G 10) nC nD nT nu a va b vb w).2.1)) 5 ((mr_X_term (F 2) (F 5) (G 0) (G 1) (G 2) (G 3) (G 4) (G 5) (G 6) (G 7) (G 10) nC nD nT nu a va b vb w).2.2.1)) (va_up (va_up (va_up (va_up (va_up (va_up (va_up G 2 ((mr_X_term (F 2) (F 5) (G 0) (G 1) (G 2) (G 3) (G 4) (G 5) (G 6) (G 7) (G 10) nC nD nT nu a va b vb w).2.2.2.1)) 3 ((mr_X_term (F 2) (F 5) (G 0) (G 1) (G 2) (G 3) (G 4) (G 5) (G 6) (G 7) (G 10) nC nD nT nu a va b vb w).2.2.2.2.1)) 4 ((mr_X_term (F 2) (F 5) (G 0) (G 1) (G 2) (G 3) (G 4) (G 5) (G 6) (G 7) (G 10) nC nD nT nu a va b vb w).2.2.2.2.2.1)) 5 ((mr_X_term (F 2) (F 5) (G 0) (G 1) (G 2) (G 3) (G 4) (G 5) (G 6) (G 7) (G 10) nC nD nT nu a va b vb w).2.2.2.2.2.2.1)) 6 ((mr_X_term (F 2) (F 5) (G 0) (G 1) (G 2) (G 3) (G 4) (G 5) (G 6) (G 7) (G 10) nC nD nT nu a va b vb w).2.2.2.2.2.2.2.1)) 7 ((mr_X_term (F 2) (F 5) (G 0) (G 1) (G 2) (G 3) (G 4) (G 5) (G 6) (G 7) (G 10) nC nD nT nu a va b vb w).2.2.2.2.2.2.2.2.1)) 10 ((mr_X_term (F 2) (F 5) (G 0) (G 1) (G 2) (G 3) (G 4) (G 5) (G 6) (G 7) (G 10) nC nD nT nu a va b vb w).2.2.2.2.2.2.2.2.2))) := by simp only [em]; rw [upd_keep (f := F) (j := 2) (x := F 2) rfl, upd_keep (f := F) (j := 5) (x := F 5) rfl, vup_keep (f := G) (j := 2) (x := G 2) rfl, vup_keep (f := G) (j := 3) (x := G 3) rfl, vup_keep (f := G) (j := 4) (x := G 4) rfl, vup_keep (f := G) (j := 5) (x := G 5) rfl, vup_keep (f := G) (j := 6) (x := G 6) rfl, vup_keep (f := G) (j := 7) (x := G 7) rfl, vup_keep (f := G) (j := 10) (x := G 10) rfl]; exact hD
            exact tx_new (A := A) (i1 := 98) (i2 := 100) (i3 := 102) (own := RX) (up := xup) (tx := strsX_100) hlt hx hb (hml.trans hl.1.symm) hlk (hno _) hown (by decide +kernel) (by decide +kernel) (xo_use xo_1 hts) wt1 wx98 wn1 hZw (fun w9 h9 => hZ w9 (List.mem_append_left _ h9)) (hZ _ (List.mem_append_right _ mrX_100)) (fun q hq => (hS.2.1 q (Nat.lt_of_lt_of_le hq hZ0) (by rw [hAe]; exact hZA q hq)).trans (hZH q hq)) hS.2.2 dX_term_51 dX_term_54 dX_term_55 dX_term_57 dX_term_60 (Nat.le_refl _) (Nat.le_refl _) (by decide) (by decide) rfl rfl (fun H1 h1 h2 => ⟨va_old hP9 h2, by rw [← hAe]; exact hD9⟩)
  refine lv_icmp_ne (tgt := 10) hx hb dX_term_3 (by decide) (fun c3 => ?_) (fun c3 => ?_)
  · refine lv_iconst (v := 0) hx hb dX_term_10 (by decide) ?_
    exact wt_i (by rw [if_neg c3]) (j11 ls hl)
  · refine lv_iconst (v := 1) hx hb dX_term_6 (by decide) ?_
    refine lv_goto (tgt := 11) hx hb dX_term_7 (by decide) ?_
    exact wt_i (by rw [if_pos c3]) (j11 ls hl)
def mr_X_rule (f3 : Int32) (f5 : Int32) (g0 : Nat → Int32) (g1 : Nat → Int32) (g2 : Nat → Int32) (g3 : Nat → Int32) (g4 : Nat → Int32) (g5 : Nat → Int32) (g11 : Nat → Int32) (nC : Nat) (nD : Nat) (nR : Nat) (a : Int32) (va : Int32) (b : Int32) (vb : Int32) : Int32 × Int32 × Int32 × (Nat → Int32) × (Nat → Int32) × (Nat → Int32) × (Nat → Int32) × (Nat → Int32) := (if (mr_Sh_hasValue g0 nC a va) = 0 then (0, f3, f5, g2, g3, g4, g5, g11) else (if (mr_Sh_hasValue g0 nC b vb) = 0 then (0, f3, f5, g2, g3, g4, g5, g11) else (if a = b then (0, f3, f5, g2, g3, g4, g5, g11) else (if (nI nR) < 40 then ((mr_Bo_addRule g0 g1 g2 g3 g4 g5 g11 nD nR a.toNatClampNeg b.toNatClampNeg va vb).1, (mr_Bo_addRule g0 g1 g2 g3 g4 g5 g11 nD nR a.toNatClampNeg b.toNatClampNeg va vb).1, mr_Fr_forget, (mr_Bo_addRule g0 g1 g2 g3 g4 g5 g11 nD nR a.toNatClampNeg b.toNatClampNeg va vb).2.1, (mr_Bo_addRule g0 g1 g2 g3 g4 g5 g11 nD nR a.toNatClampNeg b.toNatClampNeg va vb).2.2.1, (mr_Bo_addRule g0 g1 g2 g3 g4 g5 g11 nD nR a.toNatClampNeg b.toNatClampNeg va vb).2.2.2.1, (mr_Bo_addRule g0 g1 g2 g3 g4 g5 g11 nD nR a.toNatClampNeg b.toNatClampNeg va vb).2.2.2.2.1, (mr_Bo_addRule g0 g1 g2 g3 g4 g5 g11 nD nR a.toNatClampNeg b.toNatClampNeg va vb).2.2.2.2.2) else (0, f3, f5, g2, g3, g4, g5, g11)))))
def mrx_X_rule (g0 : Nat → Int32) (nC : Nat) (nD : Nat) (nR : Nat) (a : Int32) (va : Int32) (b : Int32) (vb : Int32) : Int32 := (if (mr_Sh_hasValue g0 nC a va) = 0 then 1 else (if (mr_Sh_hasValue g0 nC b vb) = 0 then 1 else (if a = b then 2 else (if (nI nR) < 40 then 0 else 3))))
set_option maxHeartbeats 4000000 in
set_option maxRecDepth 100000 in
theorem c_X_rule (l : Launch) (D : va_G) (cl : List vw_C) (hcl : cOK cl) (oa ca : Nat → Nat) (ck : Nat → ClassId) (F : Nat → Int32) (G : Nat → Nat → Int32) {H0 : Heap} (hP : va_P D cl (cW oa ca ck F G) H0) (hD : va_D (fun _ => True) (cW oa ca ck F G)) (nC : Nat) (nD : Nat) (nR : Nat) (a : Int32) (va : Int32) (b : Int32) (vb : Int32) (k0 : F 0 = nI nC) (hC : nC ≤ 8) (k1 : F 1 = nI nD) (hN : nD ≤ 4096) (k3 : F 3 = nI nR) (hR : nR ≤ 40) (hnx : mrx_X_rule (G 0) nC nD nR a va b vb = 0) : ww_Met l yX_rule wsX_rule ({ frames := 3, cells := 0, slots := 0, locals := 72 } : Room) D cl (cT ck) H0 [.ref (oa 0), .int a, .int va, .int b, .int vb] (cW oa ca ck F G) (some (.int ((mr_X_rule (F 3) (F 5) (G 0) (G 1) (G 2) (G 3) (G 4) (G 5) (G 11) nC nD nR a va b vb).1))) (cW oa ca ck (upd (upd F 3 ((mr_X_rule (F 3) (F 5) (G 0) (G 1) (G 2) (G 3) (G 4) (G 5) (G 11) nC nD nR a va b vb).2.1)) 5 ((mr_X_rule (F 3) (F 5) (G 0) (G 1) (G 2) (G 3) (G 4) (G 5) (G 11) nC nD nR a va b vb).2.2.1)) (va_up (va_up (va_up (va_up (va_up G 2 ((mr_X_rule (F 3) (F 5) (G 0) (G 1) (G 2) (G 3) (G 4) (G 5) (G 11) nC nD nR a va b vb).2.2.2.1)) 3 ((mr_X_rule (F 3) (F 5) (G 0) (G 1) (G 2) (G 3) (G 4) (G 5) (G 11) nC nD nR a va b vb).2.2.2.2.1)) 4 ((mr_X_rule (F 3) (F 5) (G 0) (G 1) (G 2) (G 3) (G 4) (G 5) (G 11) nC nD nR a va b vb).2.2.2.2.2.1)) 5 ((mr_X_rule (F 3) (F 5) (G 0) (G 1) (G 2) (G 3) (G 4) (G 5) (G 11) nC nD nR a va b vb).2.2.2.2.2.2.1)) 11 ((mr_X_rule (F 3) (F 5) (G 0) (G 1) (G 2) (G 3) (G 4) (G 5) (G 11) nC nD nR a va b vb).2.2.2.2.2.2.2))) := by
  refine ww_metI (by decide) rfl (Nat.le_of_ble_eq_true rfl) hP hD ?_
  intro p e s m args below meth c Q A Sx hK hP hD hS hA ls hl hret
  obtain ⟨hx, hb, hml, hown, hts⟩ := id Sx
  have hl : lv_has ls 5 [(0, .ref (oa 0)), (1, .int a), (2, .int va), (3, .int b), (4, .int vb)] := hl
  obtain ⟨H, eH⟩ : ∃ H : Heap, H = H0 := ⟨_, rfl⟩
  obtain ⟨locs, eL⟩ : ∃ L : List Loc, L = [] := ⟨_, rfl⟩
  have hP : va_P D cl (cW oa ca ck F G) H := by rw [eH]; exact hP
  have hS : va_S A H0 H locs := by rw [eH, eL]; exact hS
  rw [show W p l e ({ frames := 3, cells := 0, slots := 0, locals := 72 } : Room) s m args below meth c H0 [] 0 0 Q (F0 m 0 ls []) = W p l e ({ frames := 3, cells := 0, slots := 0, locals := 72 } : Room) s m args below meth c H locs 0 0 Q (F0 m 0 ls []) by rw [eH, eL]]
  clear eH eL
  have f12 := hts _ (List.mem_cons_of_mem _ mfX_12)
  have inX_ : ∀ w ∈ wsX0, w ∈ wsX_rule := fun w h => List.mem_cons_of_mem _ (inX_all w h)
  have f21 := hts _ (List.mem_cons_of_mem _ mfX_21)
  have f120 := hts _ (List.mem_cons_of_mem _ mfX_120)
  have inBo_ : ∀ w ∈ wsBo0, w ∈ wsX_rule := fun w h => List.mem_cons_of_mem _ (inBo_all w h)
  have f30 := hts _ (List.mem_cons_of_mem _ mfX_30)
  refine lv_aload_n hx hb dX_rule_0 rfl (lv_at hl 0 rfl) ?_
  refine va_get (D := D) (ci := 1) (v := .ref (oa 1)) (C := RX) (T := TX) (N := 6) hx hb hts inX_ hown hK hP 0 rfl hcl.1 0 (by decide) f12 (fun _ h9 => h9) rfl dX_rule_1 ?_
  refine lv_iload_n hx hb dX_rule_4 rfl (lv_at hl 1 rfl) ?_
  refine lv_iload_n hx hb dX_rule_5 rfl (lv_at hl 2 rfl) ?_
  refine ro_callV (r := (.int (mr_Sh_hasValue (G 0) nC a va))) (As := [.int a, .int va]) (rest := []) Sx (c_Sh_hasValue l D cl hcl oa ca ck F G hP nC a va k0 hC) (cwV 2 hts gX_rule_Sh_hasValue rfl rfl rfl (by decide +kernel) ⟨Nat.le_of_ble_eq_true rfl, Nat.le_of_ble_eq_true rfl⟩) hK (va_recv hK hP (ci := 2) (q0 := 1) hcl.2.1 rfl) rfl hl.1 rfl (Nat.le_of_ble_eq_true rfl) dX_rule_6 ⟨Nat.zero_le _, Nat.zero_le _⟩ ?_
  refine lv_if_eq (tgt := 25) hx hb dX_rule_9 (by decide) (fun c9 => ?_) (fun c9 => ?_)
  · exact absurd hnx (by rw [mrx_X_rule, if_pos c9]; decide)
  · have xa := ix_cl (hv_ix hC c9) (by omega)
    have xa2 := xa.2
    refine lv_aload_n hx hb dX_rule_12 rfl (lv_at hl 0 rfl) ?_
    refine va_get (D := D) (ci := 1) (v := .ref (oa 1)) (C := RX) (T := TX) (N := 6) hx hb hts inX_ hown hK hP 0 rfl hcl.1 0 (by decide) f12 (fun _ h9 => h9) rfl dX_rule_13 ?_
    refine lv_iload_n hx hb dX_rule_16 rfl (lv_at hl 3 rfl) ?_
    refine lv_iload hx hb dX_rule_17 (lv_at hl 4 rfl) ?_
    refine ro_callV (r := (.int (mr_Sh_hasValue (G 0) nC b vb))) (As := [.int b, .int vb]) (rest := []) Sx (c_Sh_hasValue l D cl hcl oa ca ck F G hP nC b vb k0 hC) (cwV 2 hts gX_rule_Sh_hasValue rfl rfl rfl (by decide +kernel) ⟨Nat.le_of_ble_eq_true rfl, Nat.le_of_ble_eq_true rfl⟩) hK (va_recv hK hP (ci := 2) (q0 := 1) hcl.2.1 rfl) rfl hl.1 rfl (Nat.le_of_ble_eq_true rfl) dX_rule_19 ⟨Nat.zero_le _, Nat.zero_le _⟩ ?_
    refine lv_if_ne (tgt := 35) hx hb dX_rule_22 (by decide) (fun c22 => ?_) (fun c22 => ?_)
    · have xb := ix_cl (hv_ix hC c22) (by omega)
      have xb2 := xb.2
      refine lv_iload_n hx hb dX_rule_35 rfl (lv_at hl 1 rfl) ?_
      refine lv_iload_n hx hb dX_rule_36 rfl (lv_at hl 3 rfl) ?_
      refine lv_icmp_ne (tgt := 50) hx hb dX_rule_37 (by decide) (fun c37 => ?_) (fun c37 => ?_)
      · refine lv_aload_n hx hb dX_rule_50 rfl (lv_at hl 0 rfl) ?_
        refine va_get (D := D) (ci := 1) (v := .ref (oa 3)) (C := RX) (T := TX) (N := 6) hx hb hts inX_ hown hK hP 0 rfl hcl.1 1 (by decide) f21 (fun _ h9 => h9) rfl dX_rule_51 ?_
        refine va_get (D := D) (ci := 4) (v := .int (F 3)) (C := RBo) (T := TBo) (N := 10) hx hb hts inBo_ hown hK hP 3 rfl hcl.2.2.2.1 5 (by decide) f120 (fun _ h9 => h9) rfl dX_rule_54 ?_
        refine wt_i k3 ?_
        refine lv_bipush (v := 40) hx hb dX_rule_57 (by decide) ?_
        refine lv_icmp_lt (tgt := 72) hx hb dX_rule_59 (by decide) (fun c59 => ?_) (fun c59 => ?_)
        · have n59 : nR < 40 := (nI_ltI (a := nR) (b := 40) (by omega) (by omega)).mp c59
          refine lv_aload_n hx hb dX_rule_72 rfl (lv_at hl 0 rfl) ?_
          refine va_get (D := D) (ci := 1) (v := .ref (oa 3)) (C := RX) (T := TX) (N := 6) hx hb hts inX_ hown hK hP 0 rfl hcl.1 1 (by decide) f21 (fun _ h9 => h9) rfl dX_rule_73 ?_
          refine lv_iload_n hx hb dX_rule_76 rfl (lv_at hl 1 rfl) ?_
          refine wt_i (r := nI (a.toNatClampNeg)) (by exact xa.1) ?_
          refine lv_iload_n hx hb dX_rule_77 rfl (lv_at hl 2 rfl) ?_
          refine lv_iload_n hx hb dX_rule_78 rfl (lv_at hl 3 rfl) ?_
          refine wt_i (r := nI (b.toNatClampNeg)) (by exact xb.1) ?_
          refine lv_iload hx hb dX_rule_79 (lv_at hl 4 rfl) ?_
          refine ww_callV (r := none) (w' := cW oa ca ck (upd F 3 ((mr_Bo_addRule (G 0) (G 1) (G 2) (G 3) (G 4) (G 5) (G 11) nD nR a.toNatClampNeg b.toNatClampNeg va vb).1)) (va_up (va_up (va_up (va_up (va_up G 2 ((mr_Bo_addRule (G 0) (G 1) (G 2) (G 3) (G 4) (G 5) (G 11) nD nR a.toNatClampNeg b.toNatClampNeg va vb).2.1)) 3 ((mr_Bo_addRule (G 0) (G 1) (G 2) (G 3) (G 4) (G 5) (G 11) nD nR a.toNatClampNeg b.toNatClampNeg va vb).2.2.1)) 4 ((mr_Bo_addRule (G 0) (G 1) (G 2) (G 3) (G 4) (G 5) (G 11) nD nR a.toNatClampNeg b.toNatClampNeg va vb).2.2.2.1)) 5 ((mr_Bo_addRule (G 0) (G 1) (G 2) (G 3) (G 4) (G 5) (G 11) nD nR a.toNatClampNeg b.toNatClampNeg va vb).2.2.2.2.1)) 11 ((mr_Bo_addRule (G 0) (G 1) (G 2) (G 3) (G 4) (G 5) (G 11) nD nR a.toNatClampNeg b.toNatClampNeg va vb).2.2.2.2.2))) (As := [.int (nI (a.toNatClampNeg)), .int va, .int (nI (b.toNatClampNeg)), .int vb]) (rest := []) Sx (c_Bo_addRule l D cl hcl oa ca ck F G hP (hD.weaken (fun _ _ _ _ => trivial)) nD nR a.toNatClampNeg b.toNatClampNeg va vb k1 hN k3 (by omega) (by omega) (by omega)) (cwV 4 hts gX_rule_Bo_addRule rfl rfl rfl (by decide +kernel) ⟨Nat.le_of_ble_eq_true rfl, Nat.le_of_ble_eq_true rfl⟩) hK (va_recv hK hP (ci := 4) (q0 := 3) hcl.2.2.2.1 rfl) rfl hl.1 rfl (Nat.le_of_ble_eq_true rfl) dX_rule_81 ⟨Nat.zero_le _, Nat.zero_le _⟩ hD hS hA (fun H locs hP hD hS => ?_)
          refine lv_aload_n hx hb dX_rule_84 rfl (lv_at hl 0 rfl) ?_
          refine va_get (D := D) (ci := 1) (v := .ref (oa 4)) (C := RX) (T := TX) (N := 6) hx hb hts inX_ hown hK hP 0 rfl hcl.1 2 (by decide) f30 (fun _ h9 => h9) rfl dX_rule_85 ?_
          refine ww_callV (r := none) (w' := cW oa ca ck (upd (upd F 3 ((mr_Bo_addRule (G 0) (G 1) (G 2) (G 3) (G 4) (G 5) (G 11) nD nR a.toNatClampNeg b.toNatClampNeg va vb).1)) 5 mr_Fr_forget) (va_up (va_up (va_up (va_up (va_up G 2 ((mr_Bo_addRule (G 0) (G 1) (G 2) (G 3) (G 4) (G 5) (G 11) nD nR a.toNatClampNeg b.toNatClampNeg va vb).2.1)) 3 ((mr_Bo_addRule (G 0) (G 1) (G 2) (G 3) (G 4) (G 5) (G 11) nD nR a.toNatClampNeg b.toNatClampNeg va vb).2.2.1)) 4 ((mr_Bo_addRule (G 0) (G 1) (G 2) (G 3) (G 4) (G 5) (G 11) nD nR a.toNatClampNeg b.toNatClampNeg va vb).2.2.2.1)) 5 ((mr_Bo_addRule (G 0) (G 1) (G 2) (G 3) (G 4) (G 5) (G 11) nD nR a.toNatClampNeg b.toNatClampNeg va vb).2.2.2.2.1)) 11 ((mr_Bo_addRule (G 0) (G 1) (G 2) (G 3) (G 4) (G 5) (G 11) nD nR a.toNatClampNeg b.toNatClampNeg va vb).2.2.2.2.2))) (As := []) (rest := []) Sx (c_Fr_forget l D cl hcl oa ca ck (upd F 3 ((mr_Bo_addRule (G 0) (G 1) (G 2) (G 3) (G 4) (G 5) (G 11) nD nR a.toNatClampNeg b.toNatClampNeg va vb).1)) (va_up (va_up (va_up (va_up (va_up G 2 ((mr_Bo_addRule (G 0) (G 1) (G 2) (G 3) (G 4) (G 5) (G 11) nD nR a.toNatClampNeg b.toNatClampNeg va vb).2.1)) 3 ((mr_Bo_addRule (G 0) (G 1) (G 2) (G 3) (G 4) (G 5) (G 11) nD nR a.toNatClampNeg b.toNatClampNeg va vb).2.2.1)) 4 ((mr_Bo_addRule (G 0) (G 1) (G 2) (G 3) (G 4) (G 5) (G 11) nD nR a.toNatClampNeg b.toNatClampNeg va vb).2.2.2.1)) 5 ((mr_Bo_addRule (G 0) (G 1) (G 2) (G 3) (G 4) (G 5) (G 11) nD nR a.toNatClampNeg b.toNatClampNeg va vb).2.2.2.2.1)) 11 ((mr_Bo_addRule (G 0) (G 1) (G 2) (G 3) (G 4) (G 5) (G 11) nD nR a.toNatClampNeg b.toNatClampNeg va vb).2.2.2.2.2)) hP (hD.weaken (fun _ _ _ _ => trivial))) (cwV 0 hts gX_rule_Fr_forget rfl rfl rfl (by decide +kernel) ⟨Nat.le_of_ble_eq_true rfl, Nat.le_of_ble_eq_true rfl⟩) hK (va_recv hK hP (ci := 5) (q0 := 4) hcl.2.2.2.2.1 rfl) rfl hl.1 rfl (Nat.le_of_ble_eq_true rfl) dX_rule_88 ⟨Nat.zero_le _, Nat.zero_le _⟩ hD hS hA (fun H locs hP hD hS => ?_)
          refine lv_aload_n hx hb dX_rule_91 rfl (lv_at hl 0 rfl) ?_
          refine va_get (D := D) (ci := 1) (v := .ref (oa 3)) (C := RX) (T := TX) (N := 6) hx hb hts inX_ hown hK hP 0 rfl hcl.1 1 (by decide) f21 (fun _ h9 => h9) rfl dX_rule_92 ?_
          have ef95 : (upd (upd F 3 ((mr_Bo_addRule (G 0) (G 1) (G 2) (G 3) (G 4) (G 5) (G 11) nD nR a.toNatClampNeg b.toNatClampNeg va vb).1)) 5 mr_Fr_forget) 3 = (mr_Bo_addRule (G 0) (G 1) (G 2) (G 3) (G 4) (G 5) (G 11) nD nR a.toNatClampNeg b.toNatClampNeg va vb).1 := by rw [pk_un (k := 5) (j := 3) (by decide), pk_us]
          refine va_get (D := D) (ci := 4) (v := .int ((mr_Bo_addRule (G 0) (G 1) (G 2) (G 3) (G 4) (G 5) (G 11) nD nR a.toNatClampNeg b.toNatClampNeg va vb).1)) (C := RBo) (T := TBo) (N := 10) hx hb hts inBo_ hown hK hP 3 rfl hcl.2.2.2.1 5 (by decide) f120 (fun _ h9 => h9) (congrArg (fun z => some (Value.int z)) ef95) dX_rule_95 ?_
          have em : mr_X_rule (F 3) (F 5) (G 0) (G 1) (G 2) (G 3) (G 4) (G 5) (G 11) nC nD nR a va b vb = ((mr_Bo_addRule (G 0) (G 1) (G 2) (G 3) (G 4) (G 5) (G 11) nD nR a.toNatClampNeg b.toNatClampNeg va vb).1, (mr_Bo_addRule (G 0) (G 1) (G 2) (G 3) (G 4) (G 5) (G 11) nD nR a.toNatClampNeg b.toNatClampNeg va vb).1, mr_Fr_forget, (mr_Bo_addRule (G 0) (G 1) (G 2) (G 3) (G 4) (G 5) (G 11) nD nR a.toNatClampNeg b.toNatClampNeg va vb).2.1, (mr_Bo_addRule (G 0) (G 1) (G 2) (G 3) (G 4) (G 5) (G 11) nD nR a.toNatClampNeg b.toNatClampNeg va vb).2.2.1, (mr_Bo_addRule (G 0) (G 1) (G 2) (G 3) (G 4) (G 5) (G 11) nD nR a.toNatClampNeg b.toNatClampNeg va vb).2.2.2.1, (mr_Bo_addRule (G 0) (G 1) (G 2) (G 3) (G 4) (G 5) (G 11) nD nR a.toNatClampNeg b.toNatClampNeg va vb).2.2.2.2.1, (mr_Bo_addRule (G 0) (G 1) (G 2) (G 3) (G 4) (G 5) (G 11) nD nR a.toNatClampNeg b.toNatClampNeg va vb).2.2.2.2.2) := by rw [mr_X_rule, if_neg c9, if_neg c22, if_neg c37, if_pos c59]
          exact hret _ _ _ _ _ _ (by simp only [em]) (by simp only [em]) hP hD hS dX_rule_98
        · have n59 : ¬ nR < 40 := fun h9 => c59 ((nI_ltI (a := nR) (b := 40) (by omega) (by omega)).mpr h9)
          exact absurd hnx (by rw [mrx_X_rule, if_neg c9, if_neg c22, if_neg c37, if_neg c59]; decide)
      · exact absurd hnx (by rw [mrx_X_rule, if_neg c9, if_neg c22, if_pos c37]; decide)
    · exact absurd hnx (by rw [mrx_X_rule, if_neg c9, if_pos c22]; decide)
set_option maxHeartbeats 4000000 in
set_option maxRecDepth 100000 in
theorem t_X_rule (l : Launch) (hlt : l.stackTraces = false) (Z : State) (hZ : ∀ w ∈ xws ++ sALL, w.before #[] Z = true) (D : va_G) (cl : List vw_C) (hcl : cOK cl) (oa ca : Nat → Nat) (ck : Nat → ClassId) (F : Nat → Int32) (G : Nat → Nat → Int32) {H0 : Heap} (hP : va_P D cl (cW oa ca ck F G) H0) (hD : va_D (fun _ => True) (cW oa ca ck F G)) (hZ0 : Z.heap.size ≤ H0.size) (hZH : ∀ q : Nat, q < Z.heap.size → H0[q]? = Z.heap[q]?) (hZA : ∀ q : Nat, q < Z.heap.size → ¬ va_A (cW oa ca ck F G) H0.size q) (nC : Nat) (nD : Nat) (nR : Nat) (a : Int32) (va : Int32) (b : Int32) (vb : Int32) (k0 : F 0 = nI nC) (hC : nC ≤ 8) (k1 : F 1 = nI nD) (hN : nD ≤ 4096) (k3 : F 3 = nI nR) (hR : nR ≤ 40) (hnx : ¬ mrx_X_rule (G 0) nC nD nR a va b vb = 0) : tx_Met l yX_rule wsX_rule ({ frames := 6, cells := 1, slots := 6, locals := 82 } : Room) (tx_P Z D cl (cT ck) H0 [.ref (oa 0), .int a, .int va, .int b, .int vb]) (exn (mrx_X_rule (G 0) nC nD nR a va b vb)) 1 6 (va_A (cW oa ca ck F G) H0.size) (fun H1 => va_P D cl (cW oa ca ck (upd (upd F 3 ((mr_X_rule (F 3) (F 5) (G 0) (G 1) (G 2) (G 3) (G 4) (G 5) (G 11) nC nD nR a va b vb).2.1)) 5 ((mr_X_rule (F 3) (F 5) (G 0) (G 1) (G 2) (G 3) (G 4) (G 5) (G 11) nC nD nR a va b vb).2.2.1)) (va_up (va_up (va_up (va_up (va_up G 2 ((mr_X_rule (F 3) (F 5) (G 0) (G 1) (G 2) (G 3) (G 4) (G 5) (G 11) nC nD nR a va b vb).2.2.2.1)) 3 ((mr_X_rule (F 3) (F 5) (G 0) (G 1) (G 2) (G 3) (G 4) (G 5) (G 11) nC nD nR a va b vb).2.2.2.2.1)) 4 ((mr_X_rule (F 3) (F 5) (G 0) (G 1) (G 2) (G 3) (G 4) (G 5) (G 11) nC nD nR a va b vb).2.2.2.2.2.1)) 5 ((mr_X_rule (F 3) (F 5) (G 0) (G 1) (G 2) (G 3) (G 4) (G 5) (G 11) nC nD nR a va b vb).2.2.2.2.2.2.1)) 11 ((mr_X_rule (F 3) (F 5) (G 0) (G 1) (G 2) (G 3) (G 4) (G 5) (G 11) nC nD nR a va b vb).2.2.2.2.2.2.2))) H1 ∧ va_D (va_A (cW oa ca ck F G) H0.size) (cW oa ca ck (upd (upd F 3 ((mr_X_rule (F 3) (F 5) (G 0) (G 1) (G 2) (G 3) (G 4) (G 5) (G 11) nC nD nR a va b vb).2.1)) 5 ((mr_X_rule (F 3) (F 5) (G 0) (G 1) (G 2) (G 3) (G 4) (G 5) (G 11) nC nD nR a va b vb).2.2.1)) (va_up (va_up (va_up (va_up (va_up G 2 ((mr_X_rule (F 3) (F 5) (G 0) (G 1) (G 2) (G 3) (G 4) (G 5) (G 11) nC nD nR a va b vb).2.2.2.1)) 3 ((mr_X_rule (F 3) (F 5) (G 0) (G 1) (G 2) (G 3) (G 4) (G 5) (G 11) nC nD nR a va b vb).2.2.2.2.1)) 4 ((mr_X_rule (F 3) (F 5) (G 0) (G 1) (G 2) (G 3) (G 4) (G 5) (G 11) nC nD nR a va b vb).2.2.2.2.2.1)) 5 ((mr_X_rule (F 3) (F 5) (G 0) (G 1) (G 2) (G 3) (G 4) (G 5) (G 11) nC nD nR a va b vb).2.2.2.2.2.2.1)) 11 ((mr_X_rule (F 3) (F 5) (G 0) (G 1) (G 2) (G 3) (G 4) (G 5) (G 11) nC nD nR a va b vb).2.2.2.2.2.2.2)))) := by
  refine tx_met (by decide) rfl (Nat.le_of_ble_eq_true rfl) hP hD ?_
  intro p e s m args below meth c Q A hAe hQ Sx hK hZw hlk hno hP hD hS hA ls hl
  obtain ⟨hx, hb, hml, hown, hts⟩ := id Sx
  have hl : lv_has ls 5 [(0, .ref (oa 0)), (1, .int a), (2, .int va), (3, .int b), (4, .int vb)] := hl
  obtain ⟨H, eH⟩ : ∃ H : Heap, H = H0 := ⟨_, rfl⟩
  obtain ⟨locs, eL⟩ : ∃ L : List Loc, L = [] := ⟨_, rfl⟩
  have hP : va_P D cl (cW oa ca ck F G) H := by rw [eH]; exact hP
  have hS : va_S A H0 H locs := by rw [eH, eL]; exact hS
  rw [show W p l e ({ frames := 6, cells := 1, slots := 6, locals := 82 } : Room) s m args below meth c H0 [] 0 0 Q (F0 m 0 ls []) = W p l e ({ frames := 6, cells := 1, slots := 6, locals := 82 } : Room) s m args below meth c H locs 0 0 Q (F0 m 0 ls []) by rw [eH, eL]]
  clear eH eL
  have f12 := hts _ (List.mem_cons_of_mem _ mfX_12)
  have inX_ : ∀ w ∈ wsX0, w ∈ wsX_rule := fun w h => List.mem_cons_of_mem _ (inX_all w h)
  have wx98 := hts _ (List.mem_cons_of_mem _ mxX_98)
  have wn1 := hts _ (List.mem_cons_of_mem _ mnE_1)
  have wt1 := hts _ (List.mem_cons_of_mem _ mtE_1)
  have f21 := hts _ (List.mem_cons_of_mem _ mfX_21)
  have f120 := hts _ (List.mem_cons_of_mem _ mfX_120)
  have inBo_ : ∀ w ∈ wsBo0, w ∈ wsX_rule := fun w h => List.mem_cons_of_mem _ (inBo_all w h)
  have wx69 := hts _ (List.mem_cons_of_mem _ mxX_69)
  have wn3 := hts _ (List.mem_cons_of_mem _ mnE_3)
  have wt3 := hts _ (List.mem_cons_of_mem _ mtE_3)
  have wx58 := hts _ (List.mem_cons_of_mem _ mxX_58)
  have wn2 := hts _ (List.mem_cons_of_mem _ mnE_2)
  have wt2 := hts _ (List.mem_cons_of_mem _ mtE_2)
  refine lv_aload_n hx hb dX_rule_0 rfl (lv_at hl 0 rfl) ?_
  refine va_get (D := D) (ci := 1) (v := .ref (oa 1)) (C := RX) (T := TX) (N := 6) hx hb hts inX_ hown hK hP 0 rfl hcl.1 0 (by decide) f12 (fun _ h9 => h9) rfl dX_rule_1 ?_
  refine lv_iload_n hx hb dX_rule_4 rfl (lv_at hl 1 rfl) ?_
  refine lv_iload_n hx hb dX_rule_5 rfl (lv_at hl 2 rfl) ?_
  refine ro_callV (r := (.int (mr_Sh_hasValue (G 0) nC a va))) (As := [.int a, .int va]) (rest := []) Sx (c_Sh_hasValue l D cl hcl oa ca ck F G hP nC a va k0 hC) (cwV 2 hts gX_rule_Sh_hasValue rfl rfl rfl (by decide +kernel) ⟨Nat.le_of_ble_eq_true rfl, Nat.le_of_ble_eq_true rfl⟩) hK (va_recv hK hP (ci := 2) (q0 := 1) hcl.2.1 rfl) rfl hl.1 rfl (Nat.le_of_ble_eq_true rfl) dX_rule_6 ⟨Nat.zero_le _, Nat.zero_le _⟩ ?_
  refine lv_if_eq (tgt := 25) hx hb dX_rule_9 (by decide) (fun c9 => ?_) (fun c9 => ?_)
  · have ex : mrx_X_rule (G 0) nC nD nR a va b vb = 1 := by rw [mrx_X_rule, if_pos c9]
    rw [hQ, ex, exn_1]
    have em : mr_X_rule (F 3) (F 5) (G 0) (G 1) (G 2) (G 3) (G 4) (G 5) (G 11) nC nD nR a va b vb = (0, F 3, F 5, G 2, G 3, G 4, G 5, G 11) := by rw [mr_X_rule, if_pos c9]
    have hP9 : va_P D cl (cW oa ca ck (upd (upd F 3 ((mr_X_rule (F 3) (F 5) (G 0) (G 1) (G 2) (G 3) (G 4) (G 5) (G 11) nC nD nR a va b vb).2.1)) 5 ((mr_X_rule (F 3) (F 5) (G 0) (G 1) (G 2) (G 3) (G 4) (G 5) (G 11) nC nD nR a va b vb).2.2.1)) (va_up (va_up (va_up (va_up (va_up G 2 ((mr_X_rule (F 3) (F 5) (G 0) (G 1) (G 2) (G 3) (G 4) (G 5) (G 11) nC nD nR a va b vb).2.2.2.1)) 3 ((mr_X_rule (F 3) (F 5) (G 0) (G 1) (G 2) (G 3) (G 4) (G 5) (G 11) nC nD nR a va b vb).2.2.2.2.1)) 4 ((mr_X_rule (F 3) (F 5) (G 0) (G 1) (G 2) (G 3) (G 4) (G 5) (G 11) nC nD nR a va b vb).2.2.2.2.2.1)) 5 ((mr_X_rule (F 3) (F 5) (G 0) (G 1) (G 2) (G 3) (G 4) (G 5) (G 11) nC nD nR a va b vb).2.2.2.2.2.2.1)) 11 ((mr_X_rule (F 3) (F 5) (G 0) (G 1) (G 2) (G 3) (G 4) (G 5) (G 11) nC nD nR a va b vb).2.2.2.2.2.2.2))) H := by simp only [em]; rw [upd_keep (f := F) (j := 3) (x := F 3) rfl, upd_keep (f := F) (j := 5) (x := F 5) rfl, vup_keep (f := G) (j := 2) (x := G 2) rfl, vup_keep (f := G) (j := 3) (x := G 3) rfl, vup_keep (f := G) (j := 4) (x := G 4) rfl, vup_keep (f := G) (j := 5) (x := G 5) rfl, vup_keep (f := G) (j := 11) (x := G 11) rfl]; exact hP
    have hD9 : va_D A (cW oa ca ck (upd (upd F 3 ((mr_X_rule (F 3) (F 5) (G 0) (G 1) (G 2) (G 3) (G 4) (G 5) (G 11) nC nD nR a va b vb).2.1)) 5 ((mr_X_rule (F 3) (F 5) (G 0) (G 1) (G 2) (G 3) (G 4) (G 5) (G 11) nC nD nR a va b vb).2.2.1)) (va_up (va_up (va_up (va_up (va_up G 2 ((mr_X_rule (F 3) (F 5) (G 0) (G 1) (G 2) (G 3) (G 4) (G 5) (G 11) nC nD nR a va b vb).2.2.2.1)) 3 ((mr_X_rule (F 3) (F 5) (G 0) (G 1) (G 2) (G 3) (G 4) (G 5) (G 11) nC nD nR a va b vb).2.2.2.2.1)) 4 ((mr_X_rule (F 3) (F 5) (G 0) (G 1) (G 2) (G 3) (G 4) (G 5) (G 11) nC nD nR a va b vb).2.2.2.2.2.1)) 5 ((mr_X_rule (F 3) (F 5) (G 0) (G 1) (G 2) (G 3) (G 4) (G 5) (G 11) nC nD nR a va b vb).2.2.2.2.2.2.1)) 11 ((mr_X_rule (F 3) (F 5) (G 0) (G 1) (G 2) (G 3) (G 4) (G 5) (G 11) nC nD nR a va b vb).2.2.2.2.2.2.2))) := by simp only [em]; rw [upd_keep (f := F) (j := 3) (x := F 3) rfl, upd_keep (f := F) (j := 5) (x := F 5) rfl, vup_keep (f := G) (j := 2) (x := G 2) rfl, vup_keep (f := G) (j := 3) (x := G 3) rfl, vup_keep (f := G) (j := 4) (x := G 4) rfl, vup_keep (f := G) (j := 5) (x := G 5) rfl, vup_keep (f := G) (j := 11) (x := G 11) rfl]; exact hD
    exact tx_new (A := A) (i1 := 98) (i2 := 116) (i3 := 102) (own := RX) (up := xup) (tx := strsX_116) hlt hx hb (hml.trans hl.1.symm) hlk (hno _) hown (by decide +kernel) (by decide +kernel) (xo_use xo_1 hts) wt1 wx98 wn1 hZw (fun w9 h9 => hZ w9 (List.mem_append_left _ h9)) (hZ _ (List.mem_append_right _ mrX_116)) (fun q hq => (hS.2.1 q (Nat.lt_of_lt_of_le hq hZ0) (by rw [hAe]; exact hZA q hq)).trans (hZH q hq)) hS.2.2 dX_rule_25 dX_rule_28 dX_rule_29 dX_rule_31 dX_rule_34 (Nat.le_refl _) (Nat.le_refl _) (by decide) (by decide) rfl rfl (fun H1 h1 h2 => ⟨va_old hP9 h2, by rw [← hAe]; exact hD9⟩)
  · have xa := ix_cl (hv_ix hC c9) (by omega)
    have xa2 := xa.2
    refine lv_aload_n hx hb dX_rule_12 rfl (lv_at hl 0 rfl) ?_
    refine va_get (D := D) (ci := 1) (v := .ref (oa 1)) (C := RX) (T := TX) (N := 6) hx hb hts inX_ hown hK hP 0 rfl hcl.1 0 (by decide) f12 (fun _ h9 => h9) rfl dX_rule_13 ?_
    refine lv_iload_n hx hb dX_rule_16 rfl (lv_at hl 3 rfl) ?_
    refine lv_iload hx hb dX_rule_17 (lv_at hl 4 rfl) ?_
    refine ro_callV (r := (.int (mr_Sh_hasValue (G 0) nC b vb))) (As := [.int b, .int vb]) (rest := []) Sx (c_Sh_hasValue l D cl hcl oa ca ck F G hP nC b vb k0 hC) (cwV 2 hts gX_rule_Sh_hasValue rfl rfl rfl (by decide +kernel) ⟨Nat.le_of_ble_eq_true rfl, Nat.le_of_ble_eq_true rfl⟩) hK (va_recv hK hP (ci := 2) (q0 := 1) hcl.2.1 rfl) rfl hl.1 rfl (Nat.le_of_ble_eq_true rfl) dX_rule_19 ⟨Nat.zero_le _, Nat.zero_le _⟩ ?_
    refine lv_if_ne (tgt := 35) hx hb dX_rule_22 (by decide) (fun c22 => ?_) (fun c22 => ?_)
    · have xb := ix_cl (hv_ix hC c22) (by omega)
      have xb2 := xb.2
      refine lv_iload_n hx hb dX_rule_35 rfl (lv_at hl 1 rfl) ?_
      refine lv_iload_n hx hb dX_rule_36 rfl (lv_at hl 3 rfl) ?_
      refine lv_icmp_ne (tgt := 50) hx hb dX_rule_37 (by decide) (fun c37 => ?_) (fun c37 => ?_)
      · refine lv_aload_n hx hb dX_rule_50 rfl (lv_at hl 0 rfl) ?_
        refine va_get (D := D) (ci := 1) (v := .ref (oa 3)) (C := RX) (T := TX) (N := 6) hx hb hts inX_ hown hK hP 0 rfl hcl.1 1 (by decide) f21 (fun _ h9 => h9) rfl dX_rule_51 ?_
        refine va_get (D := D) (ci := 4) (v := .int (F 3)) (C := RBo) (T := TBo) (N := 10) hx hb hts inBo_ hown hK hP 3 rfl hcl.2.2.2.1 5 (by decide) f120 (fun _ h9 => h9) rfl dX_rule_54 ?_
        refine wt_i k3 ?_
        refine lv_bipush (v := 40) hx hb dX_rule_57 (by decide) ?_
        refine lv_icmp_lt (tgt := 72) hx hb dX_rule_59 (by decide) (fun c59 => ?_) (fun c59 => ?_)
        · have n59 : nR < 40 := (nI_ltI (a := nR) (b := 40) (by omega) (by omega)).mp c59
          exact absurd (by rw [mrx_X_rule, if_neg c9, if_neg c22, if_neg c37, if_pos c59]) hnx
        · have n59 : ¬ nR < 40 := fun h9 => c59 ((nI_ltI (a := nR) (b := 40) (by omega) (by omega)).mpr h9)
          have ex : mrx_X_rule (G 0) nC nD nR a va b vb = 3 := by rw [mrx_X_rule, if_neg c9, if_neg c22, if_neg c37, if_neg c59]
          rw [hQ, ex, exn_3]
          have em : mr_X_rule (F 3) (F 5) (G 0) (G 1) (G 2) (G 3) (G 4) (G 5) (G 11) nC nD nR a va b vb = (0, F 3, F 5, G 2, G 3, G 4, G 5, G 11) := by rw [mr_X_rule, if_neg c9, if_neg c22, if_neg c37, if_neg c59]
          have hP9 : va_P D cl (cW oa ca ck (upd (upd F 3 ((mr_X_rule (F 3) (F 5) (G 0) (G 1) (G 2) (G 3) (G 4) (G 5) (G 11) nC nD nR a va b vb).2.1)) 5 ((mr_X_rule (F 3) (F 5) (G 0) (G 1) (G 2) (G 3) (G 4) (G 5) (G 11) nC nD nR a va b vb).2.2.1)) (va_up (va_up (va_up (va_up (va_up G 2 ((mr_X_rule (F 3) (F 5) (G 0) (G 1) (G 2) (G 3) (G 4) (G 5) (G 11) nC nD nR a va b vb).2.2.2.1)) 3 ((mr_X_rule (F 3) (F 5) (G 0) (G 1) (G 2) (G 3) (G 4) (G 5) (G 11) nC nD nR a va b vb).2.2.2.2.1)) 4 ((mr_X_rule (F 3) (F 5) (G 0) (G 1) (G 2) (G 3) (G 4) (G 5) (G 11) nC nD nR a va b vb).2.2.2.2.2.1)) 5 ((mr_X_rule (F 3) (F 5) (G 0) (G 1) (G 2) (G 3) (G 4) (G 5) (G 11) nC nD nR a va b vb).2.2.2.2.2.2.1)) 11 ((mr_X_rule (F 3) (F 5) (G 0) (G 1) (G 2) (G 3) (G 4) (G 5) (G 11) nC nD nR a va b vb).2.2.2.2.2.2.2))) H := by simp only [em]; rw [upd_keep (f := F) (j := 3) (x := F 3) rfl, upd_keep (f := F) (j := 5) (x := F 5) rfl, vup_keep (f := G) (j := 2) (x := G 2) rfl, vup_keep (f := G) (j := 3) (x := G 3) rfl, vup_keep (f := G) (j := 4) (x := G 4) rfl, vup_keep (f := G) (j := 5) (x := G 5) rfl, vup_keep (f := G) (j := 11) (x := G 11) rfl]; exact hP
          have hD9 : va_D A (cW oa ca ck (upd (upd F 3 ((mr_X_rule (F 3) (F 5) (G 0) (G 1) (G 2) (G 3) (G 4) (G 5) (G 11) nC nD nR a va b vb).2.1)) 5 ((mr_X_rule (F 3) (F 5) (G 0) (G 1) (G 2) (G 3) (G 4) (G 5) (G 11) nC nD nR a va b vb).2.2.1)) (va_up (va_up (va_up (va_up (va_up G 2 ((mr_X_rule (F 3) (F 5) (G 0) (G 1) (G 2) (G 3) (G 4) (G 5) (G 11) nC nD nR a va b vb).2.2.2.1)) 3 ((mr_X_rule (F 3) (F 5) (G 0) (G 1) (G 2) (G 3) (G 4) (G 5) (G 11) nC nD nR a va b vb).2.2.2.2.1)) 4 ((mr_X_rule (F 3) (F 5) (G 0) (G 1) (G 2) (G 3) (G 4) (G 5) (G 11) nC nD nR a va b vb).2.2.2.2.2.1)) 5 ((mr_X_rule (F 3) (F 5) (G 0) (G 1) (G 2) (G 3) (G 4) (G 5) (G 11) nC nD nR a va b vb).2.2.2.2.2.2.1)) 11 ((mr_X_rule (F 3) (F 5) (G 0) (G 1) (G 2) (G 3) (G 4) (G 5) (G 11) nC nD nR a va b vb).2.2.2.2.2.2.2))) := by simp only [em]; rw [upd_keep (f := F) (j := 3) (x := F 3) rfl, upd_keep (f := F) (j := 5) (x := F 5) rfl, vup_keep (f := G) (j := 2) (x := G 2) rfl, vup_keep (f := G) (j := 3) (x := G 3) rfl, vup_keep (f := G) (j := 4) (x := G 4) rfl, vup_keep (f := G) (j := 5) (x := G 5) rfl, vup_keep (f := G) (j := 11) (x := G 11) rfl]; exact hD
          exact tx_new (A := A) (i1 := 69) (i2 := 123) (i3 := 73) (own := RX) (up := xup) (tx := strsX_123) hlt hx hb (hml.trans hl.1.symm) hlk (hno _) hown (by decide +kernel) (by decide +kernel) (xo_use xo_3 hts) wt3 wx69 wn3 hZw (fun w9 h9 => hZ w9 (List.mem_append_left _ h9)) (hZ _ (List.mem_append_right _ mrX_123)) (fun q hq => (hS.2.1 q (Nat.lt_of_lt_of_le hq hZ0) (by rw [hAe]; exact hZA q hq)).trans (hZH q hq)) hS.2.2 dX_rule_62 dX_rule_65 dX_rule_66 dX_rule_68 dX_rule_71 (Nat.le_refl _) (Nat.le_refl _) (by decide) (by decide) rfl rfl (fun H1 h1 h2 => ⟨va_old hP9 h2, by rw [← hAe]; exact hD9⟩)
      · have ex : mrx_X_rule (G 0) nC nD nR a va b vb = 2 := by rw [mrx_X_rule, if_neg c9, if_neg c22, if_pos c37]
        rw [hQ, ex, exn_2]
        have em : mr_X_rule (F 3) (F 5) (G 0) (G 1) (G 2) (G 3) (G 4) (G 5) (G 11) nC nD nR a va b vb = (0, F 3, F 5, G 2, G 3, G 4, G 5, G 11) := by rw [mr_X_rule, if_neg c9, if_neg c22, if_pos c37]
        have hP9 : va_P D cl (cW oa ca ck (upd (upd F 3 ((mr_X_rule (F 3) (F 5) (G 0) (G 1) (G 2) (G 3) (G 4) (G 5) (G 11) nC nD nR a va b vb).2.1)) 5 ((mr_X_rule (F 3) (F 5) (G 0) (G 1) (G 2) (G 3) (G 4) (G 5) (G 11) nC nD nR a va b vb).2.2.1)) (va_up (va_up (va_up (va_up (va_up G 2 ((mr_X_rule (F 3) (F 5) (G 0) (G 1) (G 2) (G 3) (G 4) (G 5) (G 11) nC nD nR a va b vb).2.2.2.1)) 3 ((mr_X_rule (F 3) (F 5) (G 0) (G 1) (G 2) (G 3) (G 4) (G 5) (G 11) nC nD nR a va b vb).2.2.2.2.1)) 4 ((mr_X_rule (F 3) (F 5) (G 0) (G 1) (G 2) (G 3) (G 4) (G 5) (G 11) nC nD nR a va b vb).2.2.2.2.2.1)) 5 ((mr_X_rule (F 3) (F 5) (G 0) (G 1) (G 2) (G 3) (G 4) (G 5) (G 11) nC nD nR a va b vb).2.2.2.2.2.2.1)) 11 ((mr_X_rule (F 3) (F 5) (G 0) (G 1) (G 2) (G 3) (G 4) (G 5) (G 11) nC nD nR a va b vb).2.2.2.2.2.2.2))) H := by simp only [em]; rw [upd_keep (f := F) (j := 3) (x := F 3) rfl, upd_keep (f := F) (j := 5) (x := F 5) rfl, vup_keep (f := G) (j := 2) (x := G 2) rfl, vup_keep (f := G) (j := 3) (x := G 3) rfl, vup_keep (f := G) (j := 4) (x := G 4) rfl, vup_keep (f := G) (j := 5) (x := G 5) rfl, vup_keep (f := G) (j := 11) (x := G 11) rfl]; exact hP
        have hD9 : va_D A (cW oa ca ck (upd (upd F 3 ((mr_X_rule (F 3) (F 5) (G 0) (G 1) (G 2) (G 3) (G 4) (G 5) (G 11) nC nD nR a va b vb).2.1)) 5 ((mr_X_rule (F 3) (F 5) (G 0) (G 1) (G 2) (G 3) (G 4) (G 5) (G 11) nC nD nR a va b vb).2.2.1)) (va_up (va_up (va_up (va_up (va_up G 2 ((mr_X_rule (F 3) (F 5) (G 0) (G 1) (G 2) (G 3) (G 4) (G 5) (G 11) nC nD nR a va b vb).2.2.2.1)) 3 ((mr_X_rule (F 3) (F 5) (G 0) (G 1) (G 2) (G 3) (G 4) (G 5) (G 11) nC nD nR a va b vb).2.2.2.2.1)) 4 ((mr_X_rule (F 3) (F 5) (G 0) (G 1) (G 2) (G 3) (G 4) (G 5) (G 11) nC nD nR a va b vb).2.2.2.2.2.1)) 5 ((mr_X_rule (F 3) (F 5) (G 0) (G 1) (G 2) (G 3) (G 4) (G 5) (G 11) nC nD nR a va b vb).2.2.2.2.2.2.1)) 11 ((mr_X_rule (F 3) (F 5) (G 0) (G 1) (G 2) (G 3) (G 4) (G 5) (G 11) nC nD nR a va b vb).2.2.2.2.2.2.2))) := by simp only [em]; rw [upd_keep (f := F) (j := 3) (x := F 3) rfl, upd_keep (f := F) (j := 5) (x := F 5) rfl, vup_keep (f := G) (j := 2) (x := G 2) rfl, vup_keep (f := G) (j := 3) (x := G 3) rfl, vup_keep (f := G) (j := 4) (x := G 4) rfl, vup_keep (f := G) (j := 5) (x := G 5) rfl, vup_keep (f := G) (j := 11) (x := G 11) rfl]; exact hD
        exact tx_new (A := A) (i1 := 58) (i2 := 118) (i3 := 62) (own := RX) (up := xup) (tx := strsX_118) hlt hx hb (hml.trans hl.1.symm) hlk (hno _) hown (by decide +kernel) (by decide +kernel) (xo_use xo_2 hts) wt2 wx58 wn2 hZw (fun w9 h9 => hZ w9 (List.mem_append_left _ h9)) (hZ _ (List.mem_append_right _ mrX_118)) (fun q hq => (hS.2.1 q (Nat.lt_of_lt_of_le hq hZ0) (by rw [hAe]; exact hZA q hq)).trans (hZH q hq)) hS.2.2 dX_rule_40 dX_rule_43 dX_rule_44 dX_rule_46 dX_rule_49 (Nat.le_refl _) (Nat.le_refl _) (by decide) (by decide) rfl rfl (fun H1 h1 h2 => ⟨va_old hP9 h2, by rw [← hAe]; exact hD9⟩)
    · have ex : mrx_X_rule (G 0) nC nD nR a va b vb = 1 := by rw [mrx_X_rule, if_neg c9, if_pos c22]
      rw [hQ, ex, exn_1]
      have em : mr_X_rule (F 3) (F 5) (G 0) (G 1) (G 2) (G 3) (G 4) (G 5) (G 11) nC nD nR a va b vb = (0, F 3, F 5, G 2, G 3, G 4, G 5, G 11) := by rw [mr_X_rule, if_neg c9, if_pos c22]
      have hP9 : va_P D cl (cW oa ca ck (upd (upd F 3 ((mr_X_rule (F 3) (F 5) (G 0) (G 1) (G 2) (G 3) (G 4) (G 5) (G 11) nC nD nR a va b vb).2.1)) 5 ((mr_X_rule (F 3) (F 5) (G 0) (G 1) (G 2) (G 3) (G 4) (G 5) (G 11) nC nD nR a va b vb).2.2.1)) (va_up (va_up (va_up (va_up (va_up G 2 ((mr_X_rule (F 3) (F 5) (G 0) (G 1) (G 2) (G 3) (G 4) (G 5) (G 11) nC nD nR a va b vb).2.2.2.1)) 3 ((mr_X_rule (F 3) (F 5) (G 0) (G 1) (G 2) (G 3) (G 4) (G 5) (G 11) nC nD nR a va b vb).2.2.2.2.1)) 4 ((mr_X_rule (F 3) (F 5) (G 0) (G 1) (G 2) (G 3) (G 4) (G 5) (G 11) nC nD nR a va b vb).2.2.2.2.2.1)) 5 ((mr_X_rule (F 3) (F 5) (G 0) (G 1) (G 2) (G 3) (G 4) (G 5) (G 11) nC nD nR a va b vb).2.2.2.2.2.2.1)) 11 ((mr_X_rule (F 3) (F 5) (G 0) (G 1) (G 2) (G 3) (G 4) (G 5) (G 11) nC nD nR a va b vb).2.2.2.2.2.2.2))) H := by simp only [em]; rw [upd_keep (f := F) (j := 3) (x := F 3) rfl, upd_keep (f := F) (j := 5) (x := F 5) rfl, vup_keep (f := G) (j := 2) (x := G 2) rfl, vup_keep (f := G) (j := 3) (x := G 3) rfl, vup_keep (f := G) (j := 4) (x := G 4) rfl, vup_keep (f := G) (j := 5) (x := G 5) rfl, vup_keep (f := G) (j := 11) (x := G 11) rfl]; exact hP
      have hD9 : va_D A (cW oa ca ck (upd (upd F 3 ((mr_X_rule (F 3) (F 5) (G 0) (G 1) (G 2) (G 3) (G 4) (G 5) (G 11) nC nD nR a va b vb).2.1)) 5 ((mr_X_rule (F 3) (F 5) (G 0) (G 1) (G 2) (G 3) (G 4) (G 5) (G 11) nC nD nR a va b vb).2.2.1)) (va_up (va_up (va_up (va_up (va_up G 2 ((mr_X_rule (F 3) (F 5) (G 0) (G 1) (G 2) (G 3) (G 4) (G 5) (G 11) nC nD nR a va b vb).2.2.2.1)) 3 ((mr_X_rule (F 3) (F 5) (G 0) (G 1) (G 2) (G 3) (G 4) (G 5) (G 11) nC nD nR a va b vb).2.2.2.2.1)) 4 ((mr_X_rule (F 3) (F 5) (G 0) (G 1) (G 2) (G 3) (G 4) (G 5) (G 11) nC nD nR a va b vb).2.2.2.2.2.1)) 5 ((mr_X_rule (F 3) (F 5) (G 0) (G 1) (G 2) (G 3) (G 4) (G 5) (G 11) nC nD nR a va b vb).2.2.2.2.2.2.1)) 11 ((mr_X_rule (F 3) (F 5) (G 0) (G 1) (G 2) (G 3) (G 4) (G 5) (G 11) nC nD nR a va b vb).2.2.2.2.2.2.2))) := by simp only [em]; rw [upd_keep (f := F) (j := 3) (x := F 3) rfl, upd_keep (f := F) (j := 5) (x := F 5) rfl, vup_keep (f := G) (j := 2) (x := G 2) rfl, vup_keep (f := G) (j := 3) (x := G 3) rfl, vup_keep (f := G) (j := 4) (x := G 4) rfl, vup_keep (f := G) (j := 5) (x := G 5) rfl, vup_keep (f := G) (j := 11) (x := G 11) rfl]; exact hD
      exact tx_new (A := A) (i1 := 98) (i2 := 116) (i3 := 102) (own := RX) (up := xup) (tx := strsX_116) hlt hx hb (hml.trans hl.1.symm) hlk (hno _) hown (by decide +kernel) (by decide +kernel) (xo_use xo_1 hts) wt1 wx98 wn1 hZw (fun w9 h9 => hZ w9 (List.mem_append_left _ h9)) (hZ _ (List.mem_append_right _ mrX_116)) (fun q hq => (hS.2.1 q (Nat.lt_of_lt_of_le hq hZ0) (by rw [hAe]; exact hZA q hq)).trans (hZH q hq)) hS.2.2 dX_rule_25 dX_rule_28 dX_rule_29 dX_rule_31 dX_rule_34 (Nat.le_refl _) (Nat.le_refl _) (by decide) (by decide) rfl rfl (fun H1 h1 h2 => ⟨va_old hP9 h2, by rw [← hAe]; exact hD9⟩)
def mr_X_limit (f5 : Int32) (g8 : Nat → Int32) (g9 : Nat → Int32) (nu : Int32) (on : Int32) (mo : Int32) : Int32 × Int32 × (Nat → Int32) × (Nat → Int32) := (if (mr_X_isNumber nu) = 0 then (0, f5, g8, g9) else (g8 (nu.toNatClampNeg), mr_Fr_forget, upd g8 (nu.toNatClampNeg) on, upd g9 (nu.toNatClampNeg) mo))
def mrx_X_limit (nu : Int32) (on : Int32) (mo : Int32) : Int32 := (if (mr_X_isNumber nu) = 0 then 1 else 0)
set_option maxHeartbeats 4000000 in
set_option maxRecDepth 100000 in
theorem c_X_limit (l : Launch) (D : va_G) (cl : List vw_C) (hcl : cOK cl) (oa ca : Nat → Nat) (ck : Nat → ClassId) (F : Nat → Int32) (G : Nat → Nat → Int32) {H0 : Heap} (hP : va_P D cl (cW oa ca ck F G) H0) (hD : va_D (fun _ => True) (cW oa ca ck F G)) (nu : Int32) (on : Int32) (mo : Int32) (z8 : ∀ j, G 8 j = 0 ∨ G 8 j = 1) (hon : on = 0 ∨ on = 1) (hnx : mrx_X_limit nu on mo = 0) : ww_Met l yX_limit wsX_limit ({ frames := 1, cells := 0, slots := 0, locals := 20 } : Room) D cl (cT ck) H0 [.ref (oa 0), .int nu, .int on, .int mo] (cW oa ca ck F G) (some (.int ((mr_X_limit (F 5) (G 8) (G 9) nu on mo).1))) (cW oa ca ck (upd F 5 ((mr_X_limit (F 5) (G 8) (G 9) nu on mo).2.1)) (va_up (va_up G 8 ((mr_X_limit (F 5) (G 8) (G 9) nu on mo).2.2.1)) 9 ((mr_X_limit (F 5) (G 8) (G 9) nu on mo).2.2.2))) := by
  refine ww_metZ (by unfold mr_X_limit; exact zb_f zb_0 (z01n (z8 _))) (by decide) rfl (Nat.le_of_ble_eq_true rfl) hP hD ?_
  intro p e s m args below meth c Q A Sx hK hP hD hS hA ls hl hret
  obtain ⟨hx, hb, hml, hown, hts⟩ := id Sx
  have hl : lv_has ls 5 [(0, .ref (oa 0)), (1, .int nu), (2, .int on), (3, .int mo)] := hl
  obtain ⟨H, eH⟩ : ∃ H : Heap, H = H0 := ⟨_, rfl⟩
  obtain ⟨locs, eL⟩ : ∃ L : List Loc, L = [] := ⟨_, rfl⟩
  have hP : va_P D cl (cW oa ca ck F G) H := by rw [eH]; exact hP
  have hS : va_S A H0 H locs := by rw [eH, eL]; exact hS
  rw [show W p l e ({ frames := 1, cells := 0, slots := 0, locals := 20 } : Room) s m args below meth c H0 [] 0 0 Q (F0 m 0 ls []) = W p l e ({ frames := 1, cells := 0, slots := 0, locals := 20 } : Room) s m args below meth c H locs 0 0 Q (F0 m 0 ls []) by rw [eH, eL]]
  clear eH eL
  have f21 := hts _ (List.mem_cons_of_mem _ mfX_21)
  have inX_ : ∀ w ∈ wsX0, w ∈ wsX_limit := fun w h => List.mem_cons_of_mem _ (inX_all w h)
  have f131 := hts _ (List.mem_cons_of_mem _ mfX_131)
  have inBo_ : ∀ w ∈ wsBo0, w ∈ wsX_limit := fun w h => List.mem_cons_of_mem _ (inBo_all w h)
  have f135 := hts _ (List.mem_cons_of_mem _ mfX_135)
  have f30 := hts _ (List.mem_cons_of_mem _ mfX_30)
  refine lv_iload_n hx hb dX_limit_0 rfl (lv_at hl 1 rfl) ?_
  refine ro_callS (r := (.int (mr_X_isNumber nu))) (As := [.int nu]) (rest := []) Sx (c_X_isNumber l D cl hcl oa ca ck F G hP nu) (va_cwS 1 hts gX_limit_X_isNumber rfl rfl rfl (by decide +kernel) ⟨Nat.le_of_ble_eq_true rfl, Nat.le_of_ble_eq_true rfl⟩) hK rfl hl.1 rfl (Nat.le_of_ble_eq_true rfl) dX_limit_1 ⟨Nat.zero_le _, Nat.zero_le _⟩ ?_
  refine lv_if_ne (tgt := 17) hx hb dX_limit_4 (by decide) (fun c4 => ?_) (fun c4 => ?_)
  · have xn := ix_cl (num_ix c4) (by omega)
    have xn2 := xn.2
    refine lv_aload_n hx hb dX_limit_17 rfl (lv_at hl 0 rfl) ?_
    refine va_get (D := D) (ci := 1) (v := .ref (oa 3)) (C := RX) (T := TX) (N := 6) hx hb hts inX_ hown hK hP 0 rfl hcl.1 1 (by decide) f21 (fun _ h9 => h9) rfl dX_limit_18 ?_
    refine va_get (D := D) (ci := 4) (v := .ref (ca 8)) (C := RBo) (T := TBo) (N := 10) hx hb hts inBo_ hown hK hP 3 rfl hcl.2.2.2.1 6 (by decide) f131 (fun _ h9 => h9) rfl dX_limit_21 ?_
    refine lv_iload_n hx hb dX_limit_24 rfl (lv_at hl 1 rfl) ?_
    refine wt_i (r := nI (nu.toNatClampNeg)) (by exact xn.1) ?_
    have sd25 : (nu.toNatClampNeg) < 4 := by omega
    refine wn_zald (f := G 8) hx hb hK hP 16 8 rfl rfl (nu.toNatClampNeg) rfl sd25 (by decide) dX_limit_25 ?_
    refine lv_istore (lv' := [(4, .int (G 8 (nu.toNatClampNeg))), (0, .ref (oa 0)), (1, .int nu), (2, .int on), (3, .int mo)]) hx hb dX_limit_26 hl (by decide) rfl (fun ls hl => ?_)
    refine lv_aload_n hx hb dX_limit_28 rfl (lv_at hl 1 rfl) ?_
    refine va_get (D := D) (ci := 1) (v := .ref (oa 3)) (C := RX) (T := TX) (N := 6) hx hb hts inX_ hown hK hP 0 rfl hcl.1 1 (by decide) f21 (fun _ h9 => h9) rfl dX_limit_29 ?_
    refine va_get (D := D) (ci := 4) (v := .ref (ca 8)) (C := RBo) (T := TBo) (N := 10) hx hb hts inBo_ hown hK hP 3 rfl hcl.2.2.2.1 6 (by decide) f131 (fun _ h9 => h9) rfl dX_limit_32 ?_
    refine lv_iload_n hx hb dX_limit_35 rfl (lv_at hl 2 rfl) ?_
    refine wt_i (r := nI (nu.toNatClampNeg)) (by exact xn.1) ?_
    refine lv_iload_n hx hb dX_limit_36 rfl (lv_at hl 3 rfl) ?_
    have sd37 : (nu.toNatClampNeg) < 4 := by omega
    refine wn_zast (f := G 8) hx hb hK hP hD hS 16 8 rfl rfl (nu.toNatClampNeg) rfl sd37 (by decide) (by rcases hon with h9 | h9 <;> rw [h9] <;> rfl) dX_limit_37 (fun H locs hP hD hS => ?_)
    rw [cW_g8] at hP hD
    refine lv_aload_n hx hb dX_limit_38 rfl (lv_at hl 1 rfl) ?_
    refine va_get (D := D) (ci := 1) (v := .ref (oa 3)) (C := RX) (T := TX) (N := 6) hx hb hts inX_ hown hK hP 0 rfl hcl.1 1 (by decide) f21 (fun _ h9 => h9) rfl dX_limit_39 ?_
    refine va_get (D := D) (ci := 4) (v := .ref (ca 9)) (C := RBo) (T := TBo) (N := 10) hx hb hts inBo_ hown hK hP 3 rfl hcl.2.2.2.1 7 (by decide) f135 (fun _ h9 => h9) rfl dX_limit_42 ?_
    refine lv_iload_n hx hb dX_limit_45 rfl (lv_at hl 2 rfl) ?_
    refine wt_i (r := nI (nu.toNatClampNeg)) (by exact xn.1) ?_
    refine lv_iload_n hx hb dX_limit_46 rfl (lv_at hl 4 rfl) ?_
    have sd47 : (nu.toNatClampNeg) < 4 := by omega
    refine wn_iast (f := G 9) hx hb hK hP hD hS 17 9 rfl rfl (nu.toNatClampNeg) rfl sd47 (by decide) dX_limit_47 (fun H locs hP hD hS => ?_)
    rw [cW_g9] at hP hD
    refine lv_aload_n hx hb dX_limit_48 rfl (lv_at hl 1 rfl) ?_
    refine va_get (D := D) (ci := 1) (v := .ref (oa 4)) (C := RX) (T := TX) (N := 6) hx hb hts inX_ hown hK hP 0 rfl hcl.1 2 (by decide) f30 (fun _ h9 => h9) rfl dX_limit_49 ?_
    refine ww_callV (r := none) (w' := cW oa ca ck (upd F 5 mr_Fr_forget) (va_up (va_up G 8 (upd (G 8) (nu.toNatClampNeg) on)) 9 (upd (G 9) (nu.toNatClampNeg) mo))) (As := []) (rest := []) Sx (c_Fr_forget l D cl hcl oa ca ck F (va_up (va_up G 8 (upd (G 8) (nu.toNatClampNeg) on)) 9 (upd (G 9) (nu.toNatClampNeg) mo)) hP (hD.weaken (fun _ _ _ _ => trivial))) (cwV 0 hts gX_limit_Fr_forget rfl rfl rfl (by decide +kernel) ⟨Nat.le_of_ble_eq_true rfl, Nat.le_of_ble_eq_true rfl⟩) hK (va_recv hK hP (ci := 5) (q0 := 4) hcl.2.2.2.2.1 rfl) rfl hl.1 rfl (Nat.le_of_ble_eq_true rfl) dX_limit_52 ⟨Nat.zero_le _, Nat.zero_le _⟩ hD hS hA (fun H locs hP hD hS => ?_)
    refine lv_iload hx hb dX_limit_55 (lv_at hl 0 rfl) ?_
    have em : mr_X_limit (F 5) (G 8) (G 9) nu on mo = (G 8 (nu.toNatClampNeg), mr_Fr_forget, upd (G 8) (nu.toNatClampNeg) on, upd (G 9) (nu.toNatClampNeg) mo) := by rw [mr_X_limit, if_neg c4]
    exact hret _ _ _ _ _ _ (by simp only [em]) (by simp only [em]) hP hD hS dX_limit_57
  · exact absurd hnx (by rw [mrx_X_limit, if_pos c4]; decide)
set_option maxHeartbeats 4000000 in
set_option maxRecDepth 100000 in
theorem t_X_limit (l : Launch) (hlt : l.stackTraces = false) (Z : State) (hZ : ∀ w ∈ xws ++ sALL, w.before #[] Z = true) (D : va_G) (cl : List vw_C) (hcl : cOK cl) (oa ca : Nat → Nat) (ck : Nat → ClassId) (F : Nat → Int32) (G : Nat → Nat → Int32) {H0 : Heap} (hP : va_P D cl (cW oa ca ck F G) H0) (hD : va_D (fun _ => True) (cW oa ca ck F G)) (hZ0 : Z.heap.size ≤ H0.size) (hZH : ∀ q : Nat, q < Z.heap.size → H0[q]? = Z.heap[q]?) (hZA : ∀ q : Nat, q < Z.heap.size → ¬ va_A (cW oa ca ck F G) H0.size q) (nu : Int32) (on : Int32) (mo : Int32) (z8 : ∀ j, G 8 j = 0 ∨ G 8 j = 1) (hon : on = 0 ∨ on = 1) (hnx : ¬ mrx_X_limit nu on mo = 0) : tx_Met l yX_limit wsX_limit ({ frames := 6, cells := 1, slots := 6, locals := 82 } : Room) (tx_P Z D cl (cT ck) H0 [.ref (oa 0), .int nu, .int on, .int mo]) (exn (mrx_X_limit nu on mo)) 1 6 (va_A (cW oa ca ck F G) H0.size) (fun H1 => va_P D cl (cW oa ca ck (upd F 5 ((mr_X_limit (F 5) (G 8) (G 9) nu on mo).2.1)) (va_up (va_up G 8 ((mr_X_limit (F 5) (G 8) (G 9) nu on mo).2.2.1)) 9 ((mr_X_limit (F 5) (G 8) (G 9) nu on mo).2.2.2))) H1 ∧ va_D (va_A (cW oa ca ck F G) H0.size) (cW oa ca ck (upd F 5 ((mr_X_limit (F 5) (G 8) (G 9) nu on mo).2.1)) (va_up (va_up G 8 ((mr_X_limit (F 5) (G 8) (G 9) nu on mo).2.2.1)) 9 ((mr_X_limit (F 5) (G 8) (G 9) nu on mo).2.2.2)))) := by
  refine tx_met (by decide) rfl (Nat.le_of_ble_eq_true rfl) hP hD ?_
  intro p e s m args below meth c Q A hAe hQ Sx hK hZw hlk hno hP hD hS hA ls hl
  obtain ⟨hx, hb, hml, hown, hts⟩ := id Sx
  have hl : lv_has ls 5 [(0, .ref (oa 0)), (1, .int nu), (2, .int on), (3, .int mo)] := hl
  obtain ⟨H, eH⟩ : ∃ H : Heap, H = H0 := ⟨_, rfl⟩
  obtain ⟨locs, eL⟩ : ∃ L : List Loc, L = [] := ⟨_, rfl⟩
  have hP : va_P D cl (cW oa ca ck F G) H := by rw [eH]; exact hP
  have hS : va_S A H0 H locs := by rw [eH, eL]; exact hS
  rw [show W p l e ({ frames := 6, cells := 1, slots := 6, locals := 82 } : Room) s m args below meth c H0 [] 0 0 Q (F0 m 0 ls []) = W p l e ({ frames := 6, cells := 1, slots := 6, locals := 82 } : Room) s m args below meth c H locs 0 0 Q (F0 m 0 ls []) by rw [eH, eL]]
  clear eH eL
  have wx98 := hts _ (List.mem_cons_of_mem _ mxX_98)
  have wn1 := hts _ (List.mem_cons_of_mem _ mnE_1)
  have wt1 := hts _ (List.mem_cons_of_mem _ mtE_1)
  refine lv_iload_n hx hb dX_limit_0 rfl (lv_at hl 1 rfl) ?_
  refine ro_callS (r := (.int (mr_X_isNumber nu))) (As := [.int nu]) (rest := []) Sx (c_X_isNumber l D cl hcl oa ca ck F G hP nu) (va_cwS 1 hts gX_limit_X_isNumber rfl rfl rfl (by decide +kernel) ⟨Nat.le_of_ble_eq_true rfl, Nat.le_of_ble_eq_true rfl⟩) hK rfl hl.1 rfl (Nat.le_of_ble_eq_true rfl) dX_limit_1 ⟨Nat.zero_le _, Nat.zero_le _⟩ ?_
  refine lv_if_ne (tgt := 17) hx hb dX_limit_4 (by decide) (fun c4 => ?_) (fun c4 => ?_)
  · have xn := ix_cl (num_ix c4) (by omega)
    have xn2 := xn.2
    exact absurd (by rw [mrx_X_limit, if_neg c4]) hnx
  · have ex : mrx_X_limit nu on mo = 1 := by rw [mrx_X_limit, if_pos c4]
    rw [hQ, ex, exn_1]
    have em : mr_X_limit (F 5) (G 8) (G 9) nu on mo = (0, F 5, G 8, G 9) := by rw [mr_X_limit, if_pos c4]
    have hP9 : va_P D cl (cW oa ca ck (upd F 5 ((mr_X_limit (F 5) (G 8) (G 9) nu on mo).2.1)) (va_up (va_up G 8 ((mr_X_limit (F 5) (G 8) (G 9) nu on mo).2.2.1)) 9 ((mr_X_limit (F 5) (G 8) (G 9) nu on mo).2.2.2))) H := by simp only [em]; rw [upd_keep (f := F) (j := 5) (x := F 5) rfl, vup_keep (f := G) (j := 8) (x := G 8) rfl, vup_keep (f := G) (j := 9) (x := G 9) rfl]; exact hP
    have hD9 : va_D A (cW oa ca ck (upd F 5 ((mr_X_limit (F 5) (G 8) (G 9) nu on mo).2.1)) (va_up (va_up G 8 ((mr_X_limit (F 5) (G 8) (G 9) nu on mo).2.2.1)) 9 ((mr_X_limit (F 5) (G 8) (G 9) nu on mo).2.2.2))) := by simp only [em]; rw [upd_keep (f := F) (j := 5) (x := F 5) rfl, vup_keep (f := G) (j := 8) (x := G 8) rfl, vup_keep (f := G) (j := 9) (x := G 9) rfl]; exact hD
    exact tx_new (A := A) (i1 := 98) (i2 := 129) (i3 := 102) (own := RX) (up := xup) (tx := strsX_129) hlt hx hb (hml.trans hl.1.symm) hlk (hno _) hown (by decide +kernel) (by decide +kernel) (xo_use xo_1 hts) wt1 wx98 wn1 hZw (fun w9 h9 => hZ w9 (List.mem_append_left _ h9)) (hZ _ (List.mem_append_right _ mrX_129)) (fun q hq => (hS.2.1 q (Nat.lt_of_lt_of_le hq hZ0) (by rw [hAe]; exact hZA q hq)).trans (hZH q hq)) hS.2.2 dX_limit_7 dX_limit_10 dX_limit_11 dX_limit_13 dX_limit_16 (Nat.le_refl _) (Nat.le_refl _) (by decide) (by decide) rfl rfl (fun H1 h1 h2 => ⟨va_old hP9 h2, by rw [← hAe]; exact hD9⟩)
def mr_X_number (g10 : Nat → Int32) (nD : Nat) (d : Int32) (nu : Int32) : Int32 := (if (mr_Sh_hasDesign nD d) = 0 then 0 else (if (mr_X_isNumber nu) = 0 then 0 else (mr_Bo_sumOf g10 (d.toNatClampNeg) (nu.toNatClampNeg))))
def mrx_X_number (nD : Nat) (d : Int32) (nu : Int32) : Int32 := (if (mr_Sh_hasDesign nD d) = 0 then 1 else (if (mr_X_isNumber nu) = 0 then 1 else 0))
set_option maxHeartbeats 4000000 in
set_option maxRecDepth 100000 in
theorem c_X_number (l : Launch) (D : va_G) (cl : List vw_C) (hcl : cOK cl) (oa ca : Nat → Nat) (ck : Nat → ClassId) (F : Nat → Int32) (G : Nat → Nat → Int32) {H : Heap} (hP : va_P D cl (cW oa ca ck F G) H) (nD : Nat) (d : Int32) (nu : Int32) (k1 : F 1 = nI nD) (hN : nD ≤ 4096) (hnx : mrx_X_number nD d nu = 0) : ro_Met l yX_number wsX_number ({ frames := 1, cells := 0, slots := 0, locals := 22 } : Room) D cl (cT ck) H [.ref (oa 0), .int d, .int nu] (.int (mr_X_number (G 10) nD d nu)) := by
  refine ro_metI (by decide) rfl (Nat.le_of_ble_eq_true rfl) ?_
  intro p e s m args below meth c Q Sx hK ls hl hret
  obtain ⟨hx, hb, hml, hown, hts⟩ := id Sx
  have hl : lv_has ls 3 [(0, .ref (oa 0)), (1, .int d), (2, .int nu)] := hl
  have f12 := hts _ (List.mem_cons_of_mem _ mfX_12)
  have inX_ : ∀ w ∈ wsX0, w ∈ wsX_number := fun w h => List.mem_cons_of_mem _ (inX_all w h)
  have f21 := hts _ (List.mem_cons_of_mem _ mfX_21)
  refine lv_aload_n hx hb dX_number_0 rfl (lv_at hl 0 rfl) ?_
  refine va_get (D := D) (ci := 1) (v := .ref (oa 1)) (C := RX) (T := TX) (N := 6) hx hb hts inX_ hown hK hP 0 rfl hcl.1 0 (by decide) f12 (fun _ h9 => h9) rfl dX_number_1 ?_
  refine lv_iload_n hx hb dX_number_4 rfl (lv_at hl 1 rfl) ?_
  refine ro_callV (r := (.int (mr_Sh_hasDesign nD d))) (As := [.int d]) (rest := []) Sx (c_Sh_hasDesign l D cl hcl oa ca ck F G hP nD d k1) (cwV 1 hts gX_number_Sh_hasDesign rfl rfl rfl (by decide +kernel) ⟨Nat.le_of_ble_eq_true rfl, Nat.le_of_ble_eq_true rfl⟩) hK (va_recv hK hP (ci := 2) (q0 := 1) hcl.2.1 rfl) rfl hl.1 rfl (Nat.le_of_ble_eq_true rfl) dX_number_5 ⟨Nat.zero_le _, Nat.zero_le _⟩ ?_
  refine lv_if_eq (tgt := 18) hx hb dX_number_8 (by decide) (fun c8 => ?_) (fun c8 => ?_)
  · exact absurd hnx (by rw [mrx_X_number, if_pos c8]; decide)
  · have xd := ix_cl (hasDesign_ix c8 (by omega)) (by omega)
    have xd2 := xd.2
    refine lv_iload_n hx hb dX_number_11 rfl (lv_at hl 2 rfl) ?_
    refine ro_callS (r := (.int (mr_X_isNumber nu))) (As := [.int nu]) (rest := []) Sx (c_X_isNumber l D cl hcl oa ca ck F G hP nu) (va_cwS 1 hts gX_number_X_isNumber rfl rfl rfl (by decide +kernel) ⟨Nat.le_of_ble_eq_true rfl, Nat.le_of_ble_eq_true rfl⟩) hK rfl hl.1 rfl (Nat.le_of_ble_eq_true rfl) dX_number_12 ⟨Nat.zero_le _, Nat.zero_le _⟩ ?_
    refine lv_if_ne (tgt := 28) hx hb dX_number_15 (by decide) (fun c15 => ?_) (fun c15 => ?_)
    · have xn := ix_cl (num_ix c15) (by omega)
      refine lv_aload_n hx hb dX_number_28 rfl (lv_at hl 0 rfl) ?_
      refine va_get (D := D) (ci := 1) (v := .ref (oa 3)) (C := RX) (T := TX) (N := 6) hx hb hts inX_ hown hK hP 0 rfl hcl.1 1 (by decide) f21 (fun _ h9 => h9) rfl dX_number_29 ?_
      refine lv_iload_n hx hb dX_number_32 rfl (lv_at hl 1 rfl) ?_
      refine wt_i (r := nI (d.toNatClampNeg)) (by exact xd.1) ?_
      refine lv_iload_n hx hb dX_number_33 rfl (lv_at hl 2 rfl) ?_
      refine wt_i (r := nI (nu.toNatClampNeg)) (by exact xn.1) ?_
      refine ro_callV (r := (.int (mr_Bo_sumOf (G 10) (d.toNatClampNeg) (nu.toNatClampNeg)))) (As := [.int (nI (d.toNatClampNeg)), .int (nI (nu.toNatClampNeg))]) (rest := []) Sx (c_Bo_sumOf l D cl hcl oa ca ck F G hP (d.toNatClampNeg) (nu.toNatClampNeg) (by omega) xn.2) (cwV 2 hts gX_number_Bo_sumOf rfl rfl rfl (by decide +kernel) ⟨Nat.le_of_ble_eq_true rfl, Nat.le_of_ble_eq_true rfl⟩) hK (va_recv hK hP (ci := 4) (q0 := 3) hcl.2.2.2.1 rfl) rfl hl.1 rfl (Nat.le_of_ble_eq_true rfl) dX_number_34 ⟨Nat.zero_le _, Nat.zero_le _⟩ ?_
      exact hret _ _ _ (by rw [mr_X_number, if_neg c8, if_neg c15]) dX_number_37
    · exact absurd hnx (by rw [mrx_X_number, if_neg c8, if_pos c15]; decide)
set_option maxHeartbeats 4000000 in
set_option maxRecDepth 100000 in
theorem t_X_number (l : Launch) (hlt : l.stackTraces = false) (Z : State) (hZ : ∀ w ∈ xws ++ sALL, w.before #[] Z = true) (D : va_G) (cl : List vw_C) (hcl : cOK cl) (oa ca : Nat → Nat) (ck : Nat → ClassId) (F : Nat → Int32) (G : Nat → Nat → Int32) {H : Heap} (hP : va_P D cl (cW oa ca ck F G) H) (hD : va_D (fun _ => True) (cW oa ca ck F G)) (hZ0 : Z.heap.size ≤ H.size) (hZH : ∀ q : Nat, q < Z.heap.size → H[q]? = Z.heap[q]?) (hZA : ∀ q : Nat, q < Z.heap.size → ¬ va_A (cW oa ca ck F G) H.size q) (nD : Nat) (d : Int32) (nu : Int32) (k1 : F 1 = nI nD) (hN : nD ≤ 4096) (hnx : ¬ mrx_X_number nD d nu = 0) : tx_Met l yX_number wsX_number ({ frames := 6, cells := 1, slots := 6, locals := 82 } : Room) (tx_P Z D cl (cT ck) H [.ref (oa 0), .int d, .int nu]) (exn (mrx_X_number nD d nu)) 1 6 (va_A (cW oa ca ck F G) H.size) (fun H1 => va_P D cl (cW oa ca ck F G) H1 ∧ va_D (va_A (cW oa ca ck F G) H.size) (cW oa ca ck F G)) := by
  refine tx_met (by decide) rfl (Nat.le_of_ble_eq_true rfl) hP hD ?_
  intro p e s m args below meth c Q A hAe hQ Sx hK hZw hlk hno hP hD hS hA ls hl
  obtain ⟨hx, hb, hml, hown, hts⟩ := id Sx
  have hl : lv_has ls 3 [(0, .ref (oa 0)), (1, .int d), (2, .int nu)] := hl
  have hD : va_D (fun _ => True) (cW oa ca ck F G) := hD.weaken (fun _ _ _ _ => trivial)
  have f12 := hts _ (List.mem_cons_of_mem _ mfX_12)
  have inX_ : ∀ w ∈ wsX0, w ∈ wsX_number := fun w h => List.mem_cons_of_mem _ (inX_all w h)
  have wx98 := hts _ (List.mem_cons_of_mem _ mxX_98)
  have wn1 := hts _ (List.mem_cons_of_mem _ mnE_1)
  have wt1 := hts _ (List.mem_cons_of_mem _ mtE_1)
  refine lv_aload_n hx hb dX_number_0 rfl (lv_at hl 0 rfl) ?_
  refine va_get (D := D) (ci := 1) (v := .ref (oa 1)) (C := RX) (T := TX) (N := 6) hx hb hts inX_ hown hK hP 0 rfl hcl.1 0 (by decide) f12 (fun _ h9 => h9) rfl dX_number_1 ?_
  refine lv_iload_n hx hb dX_number_4 rfl (lv_at hl 1 rfl) ?_
  refine ro_callV (r := (.int (mr_Sh_hasDesign nD d))) (As := [.int d]) (rest := []) Sx (c_Sh_hasDesign l D cl hcl oa ca ck F G hP nD d k1) (cwV 1 hts gX_number_Sh_hasDesign rfl rfl rfl (by decide +kernel) ⟨Nat.le_of_ble_eq_true rfl, Nat.le_of_ble_eq_true rfl⟩) hK (va_recv hK hP (ci := 2) (q0 := 1) hcl.2.1 rfl) rfl hl.1 rfl (Nat.le_of_ble_eq_true rfl) dX_number_5 ⟨Nat.zero_le _, Nat.zero_le _⟩ ?_
  refine lv_if_eq (tgt := 18) hx hb dX_number_8 (by decide) (fun c8 => ?_) (fun c8 => ?_)
  · have ex : mrx_X_number nD d nu = 1 := by rw [mrx_X_number, if_pos c8]
    rw [hQ, ex, exn_1]
    exact tx_new (A := A) (i1 := 98) (i2 := 142) (i3 := 102) (own := RX) (up := xup) (tx := strsX_142) hlt hx hb (hml.trans hl.1.symm) hlk (hno _) hown (by decide +kernel) (by decide +kernel) (xo_use xo_1 hts) wt1 wx98 wn1 hZw (fun w9 h9 => hZ w9 (List.mem_append_left _ h9)) (hZ _ (List.mem_append_right _ mrX_142)) hZH (fun x9 h9 => absurd h9 List.not_mem_nil) dX_number_18 dX_number_21 dX_number_22 dX_number_24 dX_number_27 (Nat.le_refl _) (Nat.le_refl _) (by decide) (by decide) rfl rfl (fun H1 h1 h2 => ⟨va_old hP h2, hD.self⟩)
  · have xd := ix_cl (hasDesign_ix c8 (by omega)) (by omega)
    have xd2 := xd.2
    refine lv_iload_n hx hb dX_number_11 rfl (lv_at hl 2 rfl) ?_
    refine ro_callS (r := (.int (mr_X_isNumber nu))) (As := [.int nu]) (rest := []) Sx (c_X_isNumber l D cl hcl oa ca ck F G hP nu) (va_cwS 1 hts gX_number_X_isNumber rfl rfl rfl (by decide +kernel) ⟨Nat.le_of_ble_eq_true rfl, Nat.le_of_ble_eq_true rfl⟩) hK rfl hl.1 rfl (Nat.le_of_ble_eq_true rfl) dX_number_12 ⟨Nat.zero_le _, Nat.zero_le _⟩ ?_
    refine lv_if_ne (tgt := 28) hx hb dX_number_15 (by decide) (fun c15 => ?_) (fun c15 => ?_)
    · have xn := ix_cl (num_ix c15) (by omega)
      exact absurd (by rw [mrx_X_number, if_neg c8, if_neg c15]) hnx
    · have ex : mrx_X_number nD d nu = 1 := by rw [mrx_X_number, if_neg c8, if_pos c15]
      rw [hQ, ex, exn_1]
      exact tx_new (A := A) (i1 := 98) (i2 := 142) (i3 := 102) (own := RX) (up := xup) (tx := strsX_142) hlt hx hb (hml.trans hl.1.symm) hlk (hno _) hown (by decide +kernel) (by decide +kernel) (xo_use xo_1 hts) wt1 wx98 wn1 hZw (fun w9 h9 => hZ w9 (List.mem_append_left _ h9)) (hZ _ (List.mem_append_right _ mrX_142)) hZH (fun x9 h9 => absurd h9 List.not_mem_nil) dX_number_18 dX_number_21 dX_number_22 dX_number_24 dX_number_27 (Nat.le_refl _) (Nat.le_refl _) (by decide) (by decide) rfl rfl (fun H1 h1 h2 => ⟨va_old hP h2, hD.self⟩)
def mr_X_value (g0 : Nat → Int32) (g1 : Nat → Int32) (nC : Nat) (nD : Nat) (d : Int32) (ch : Int32) : Int32 := (if (mr_Sh_hasDesign nD d) = 0 then 0 else (if (mr_Sh_hasChoice nC ch) = 0 then 0 else (mr_Sh_digit g0 g1 d (ch.toNatClampNeg))))
def mrx_X_value (nC : Nat) (nD : Nat) (d : Int32) (ch : Int32) : Int32 := (if (mr_Sh_hasDesign nD d) = 0 then 1 else (if (mr_Sh_hasChoice nC ch) = 0 then 1 else 0))
set_option maxHeartbeats 4000000 in
set_option maxRecDepth 100000 in
theorem c_X_value (l : Launch) (D : va_G) (cl : List vw_C) (hcl : cOK cl) (oa ca : Nat → Nat) (ck : Nat → ClassId) (F : Nat → Int32) (G : Nat → Nat → Int32) {H : Heap} (hP : va_P D cl (cW oa ca ck F G) H) (nC : Nat) (nD : Nat) (d : Int32) (ch : Int32) (k0 : F 0 = nI nC) (hC : nC ≤ 8) (k1 : F 1 = nI nD) (hN : nD ≤ 4096) (hnx : mrx_X_value nC nD d ch = 0) : ro_Met l yX_value wsX_value ({ frames := 1, cells := 0, slots := 0, locals := 24 } : Room) D cl (cT ck) H [.ref (oa 0), .int d, .int ch] (.int (mr_X_value (G 0) (G 1) nC nD d ch)) := by
  refine ro_metI (by decide) rfl (Nat.le_of_ble_eq_true rfl) ?_
  intro p e s m args below meth c Q Sx hK ls hl hret
  obtain ⟨hx, hb, hml, hown, hts⟩ := id Sx
  have hl : lv_has ls 3 [(0, .ref (oa 0)), (1, .int d), (2, .int ch)] := hl
  have f12 := hts _ (List.mem_cons_of_mem _ mfX_12)
  have inX_ : ∀ w ∈ wsX0, w ∈ wsX_value := fun w h => List.mem_cons_of_mem _ (inX_all w h)
  refine lv_aload_n hx hb dX_value_0 rfl (lv_at hl 0 rfl) ?_
  refine va_get (D := D) (ci := 1) (v := .ref (oa 1)) (C := RX) (T := TX) (N := 6) hx hb hts inX_ hown hK hP 0 rfl hcl.1 0 (by decide) f12 (fun _ h9 => h9) rfl dX_value_1 ?_
  refine lv_iload_n hx hb dX_value_4 rfl (lv_at hl 1 rfl) ?_
  refine ro_callV (r := (.int (mr_Sh_hasDesign nD d))) (As := [.int d]) (rest := []) Sx (c_Sh_hasDesign l D cl hcl oa ca ck F G hP nD d k1) (cwV 1 hts gX_value_Sh_hasDesign rfl rfl rfl (by decide +kernel) ⟨Nat.le_of_ble_eq_true rfl, Nat.le_of_ble_eq_true rfl⟩) hK (va_recv hK hP (ci := 2) (q0 := 1) hcl.2.1 rfl) rfl hl.1 rfl (Nat.le_of_ble_eq_true rfl) dX_value_5 ⟨Nat.zero_le _, Nat.zero_le _⟩ ?_
  refine lv_if_eq (tgt := 22) hx hb dX_value_8 (by decide) (fun c8 => ?_) (fun c8 => ?_)
  · exact absurd hnx (by rw [mrx_X_value, if_pos c8]; decide)
  · have xd := ix_cl (hasDesign_ix c8 (by omega)) (by omega)
    have xd2 := xd.2
    refine lv_aload_n hx hb dX_value_11 rfl (lv_at hl 0 rfl) ?_
    refine va_get (D := D) (ci := 1) (v := .ref (oa 1)) (C := RX) (T := TX) (N := 6) hx hb hts inX_ hown hK hP 0 rfl hcl.1 0 (by decide) f12 (fun _ h9 => h9) rfl dX_value_12 ?_
    refine lv_iload_n hx hb dX_value_15 rfl (lv_at hl 2 rfl) ?_
    refine ro_callV (r := (.int (mr_Sh_hasChoice nC ch))) (As := [.int ch]) (rest := []) Sx (c_Sh_hasChoice l D cl hcl oa ca ck F G hP nC ch k0) (cwV 1 hts gX_value_Sh_hasChoice rfl rfl rfl (by decide +kernel) ⟨Nat.le_of_ble_eq_true rfl, Nat.le_of_ble_eq_true rfl⟩) hK (va_recv hK hP (ci := 2) (q0 := 1) hcl.2.1 rfl) rfl hl.1 rfl (Nat.le_of_ble_eq_true rfl) dX_value_16 ⟨Nat.zero_le _, Nat.zero_le _⟩ ?_
    refine lv_if_ne (tgt := 32) hx hb dX_value_19 (by decide) (fun c19 => ?_) (fun c19 => ?_)
    · have xc := ix_cl (hasChoice_ix c19 (by omega)) (by omega)
      have xc2 := xc.2
      refine lv_aload_n hx hb dX_value_32 rfl (lv_at hl 0 rfl) ?_
      refine va_get (D := D) (ci := 1) (v := .ref (oa 1)) (C := RX) (T := TX) (N := 6) hx hb hts inX_ hown hK hP 0 rfl hcl.1 0 (by decide) f12 (fun _ h9 => h9) rfl dX_value_33 ?_
      refine lv_iload_n hx hb dX_value_36 rfl (lv_at hl 1 rfl) ?_
      refine lv_iload_n hx hb dX_value_37 rfl (lv_at hl 2 rfl) ?_
      refine wt_i (r := nI (ch.toNatClampNeg)) (by exact xc.1) ?_
      refine ro_callV (r := (.int (mr_Sh_digit (G 0) (G 1) d (ch.toNatClampNeg)))) (As := [.int d, .int (nI (ch.toNatClampNeg))]) (rest := []) Sx (c_Sh_digit l D cl hcl oa ca ck F G hP d (ch.toNatClampNeg) (by omega)) (cwV 2 hts gX_value_Sh_digit rfl rfl rfl (by decide +kernel) ⟨Nat.le_of_ble_eq_true rfl, Nat.le_of_ble_eq_true rfl⟩) hK (va_recv hK hP (ci := 2) (q0 := 1) hcl.2.1 rfl) rfl hl.1 rfl (Nat.le_of_ble_eq_true rfl) dX_value_38 ⟨Nat.zero_le _, Nat.zero_le _⟩ ?_
      exact hret _ _ _ (by rw [mr_X_value, if_neg c8, if_neg c19]) dX_value_41
    · exact absurd hnx (by rw [mrx_X_value, if_neg c8, if_pos c19]; decide)
set_option maxHeartbeats 4000000 in
set_option maxRecDepth 100000 in
theorem t_X_value (l : Launch) (hlt : l.stackTraces = false) (Z : State) (hZ : ∀ w ∈ xws ++ sALL, w.before #[] Z = true) (D : va_G) (cl : List vw_C) (hcl : cOK cl) (oa ca : Nat → Nat) (ck : Nat → ClassId) (F : Nat → Int32) (G : Nat → Nat → Int32) {H : Heap} (hP : va_P D cl (cW oa ca ck F G) H) (hD : va_D (fun _ => True) (cW oa ca ck F G)) (hZ0 : Z.heap.size ≤ H.size) (hZH : ∀ q : Nat, q < Z.heap.size → H[q]? = Z.heap[q]?) (hZA : ∀ q : Nat, q < Z.heap.size → ¬ va_A (cW oa ca ck F G) H.size q) (nC : Nat) (nD : Nat) (d : Int32) (ch : Int32) (k0 : F 0 = nI nC) (hC : nC ≤ 8) (k1 : F 1 = nI nD) (hN : nD ≤ 4096) (hnx : ¬ mrx_X_value nC nD d ch = 0) : tx_Met l yX_value wsX_value ({ frames := 6, cells := 1, slots := 6, locals := 82 } : Room) (tx_P Z D cl (cT ck) H [.ref (oa 0), .int d, .int ch]) (exn (mrx_X_value nC nD d ch)) 1 6 (va_A (cW oa ca ck F G) H.size) (fun H1 => va_P D cl (cW oa ca ck F G) H1 ∧ va_D (va_A (cW oa ca ck F G) H.size) (cW oa ca ck F G)) := by
  refine tx_met (by decide) rfl (Nat.le_of_ble_eq_true rfl) hP hD ?_
  intro p e s m args below meth c Q A hAe hQ Sx hK hZw hlk hno hP hD hS hA ls hl
  obtain ⟨hx, hb, hml, hown, hts⟩ := id Sx
  have hl : lv_has ls 3 [(0, .ref (oa 0)), (1, .int d), (2, .int ch)] := hl
  have hD : va_D (fun _ => True) (cW oa ca ck F G) := hD.weaken (fun _ _ _ _ => trivial)
  have f12 := hts _ (List.mem_cons_of_mem _ mfX_12)
  have inX_ : ∀ w ∈ wsX0, w ∈ wsX_value := fun w h => List.mem_cons_of_mem _ (inX_all w h)
  have wx98 := hts _ (List.mem_cons_of_mem _ mxX_98)
  have wn1 := hts _ (List.mem_cons_of_mem _ mnE_1)
  have wt1 := hts _ (List.mem_cons_of_mem _ mtE_1)
  refine lv_aload_n hx hb dX_value_0 rfl (lv_at hl 0 rfl) ?_
  refine va_get (D := D) (ci := 1) (v := .ref (oa 1)) (C := RX) (T := TX) (N := 6) hx hb hts inX_ hown hK hP 0 rfl hcl.1 0 (by decide) f12 (fun _ h9 => h9) rfl dX_value_1 ?_
  refine lv_iload_n hx hb dX_value_4 rfl (lv_at hl 1 rfl) ?_
  refine ro_callV (r := (.int (mr_Sh_hasDesign nD d))) (As := [.int d]) (rest := []) Sx (c_Sh_hasDesign l D cl hcl oa ca ck F G hP nD d k1) (cwV 1 hts gX_value_Sh_hasDesign rfl rfl rfl (by decide +kernel) ⟨Nat.le_of_ble_eq_true rfl, Nat.le_of_ble_eq_true rfl⟩) hK (va_recv hK hP (ci := 2) (q0 := 1) hcl.2.1 rfl) rfl hl.1 rfl (Nat.le_of_ble_eq_true rfl) dX_value_5 ⟨Nat.zero_le _, Nat.zero_le _⟩ ?_
  refine lv_if_eq (tgt := 22) hx hb dX_value_8 (by decide) (fun c8 => ?_) (fun c8 => ?_)
  · have ex : mrx_X_value nC nD d ch = 1 := by rw [mrx_X_value, if_pos c8]
    rw [hQ, ex, exn_1]
    exact tx_new (A := A) (i1 := 98) (i2 := 151) (i3 := 102) (own := RX) (up := xup) (tx := strsX_151) hlt hx hb (hml.trans hl.1.symm) hlk (hno _) hown (by decide +kernel) (by decide +kernel) (xo_use xo_1 hts) wt1 wx98 wn1 hZw (fun w9 h9 => hZ w9 (List.mem_append_left _ h9)) (hZ _ (List.mem_append_right _ mrX_151)) hZH (fun x9 h9 => absurd h9 List.not_mem_nil) dX_value_22 dX_value_25 dX_value_26 dX_value_28 dX_value_31 (Nat.le_refl _) (Nat.le_refl _) (by decide) (by decide) rfl rfl (fun H1 h1 h2 => ⟨va_old hP h2, hD.self⟩)
  · have xd := ix_cl (hasDesign_ix c8 (by omega)) (by omega)
    have xd2 := xd.2
    refine lv_aload_n hx hb dX_value_11 rfl (lv_at hl 0 rfl) ?_
    refine va_get (D := D) (ci := 1) (v := .ref (oa 1)) (C := RX) (T := TX) (N := 6) hx hb hts inX_ hown hK hP 0 rfl hcl.1 0 (by decide) f12 (fun _ h9 => h9) rfl dX_value_12 ?_
    refine lv_iload_n hx hb dX_value_15 rfl (lv_at hl 2 rfl) ?_
    refine ro_callV (r := (.int (mr_Sh_hasChoice nC ch))) (As := [.int ch]) (rest := []) Sx (c_Sh_hasChoice l D cl hcl oa ca ck F G hP nC ch k0) (cwV 1 hts gX_value_Sh_hasChoice rfl rfl rfl (by decide +kernel) ⟨Nat.le_of_ble_eq_true rfl, Nat.le_of_ble_eq_true rfl⟩) hK (va_recv hK hP (ci := 2) (q0 := 1) hcl.2.1 rfl) rfl hl.1 rfl (Nat.le_of_ble_eq_true rfl) dX_value_16 ⟨Nat.zero_le _, Nat.zero_le _⟩ ?_
    refine lv_if_ne (tgt := 32) hx hb dX_value_19 (by decide) (fun c19 => ?_) (fun c19 => ?_)
    · have xc := ix_cl (hasChoice_ix c19 (by omega)) (by omega)
      have xc2 := xc.2
      exact absurd (by rw [mrx_X_value, if_neg c8, if_neg c19]) hnx
    · have ex : mrx_X_value nC nD d ch = 1 := by rw [mrx_X_value, if_neg c8, if_pos c19]
      rw [hQ, ex, exn_1]
      exact tx_new (A := A) (i1 := 98) (i2 := 151) (i3 := 102) (own := RX) (up := xup) (tx := strsX_151) hlt hx hb (hml.trans hl.1.symm) hlk (hno _) hown (by decide +kernel) (by decide +kernel) (xo_use xo_1 hts) wt1 wx98 wn1 hZw (fun w9 h9 => hZ w9 (List.mem_append_left _ h9)) (hZ _ (List.mem_append_right _ mrX_151)) hZH (fun x9 h9 => absurd h9 List.not_mem_nil) dX_value_22 dX_value_25 dX_value_26 dX_value_28 dX_value_31 (Nat.le_refl _) (Nat.le_refl _) (by decide) (by decide) rfl rfl (fun H1 h1 h2 => ⟨va_old hP h2, hD.self⟩)
def mr_X_legal (g8 : Nat → Int32) (g9 : Nat → Int32) (g10 : Nat → Int32) (g11 : Nat → Int32) (nD : Nat) (d : Int32) : Int32 := (if (mr_Sh_hasDesign nD d) = 0 then 0 else (mr_Bo_allows g8 g9 g10 g11 (d.toNatClampNeg)))
def mrx_X_legal (nD : Nat) (d : Int32) : Int32 := (if (mr_Sh_hasDesign nD d) = 0 then 1 else 0)
set_option maxHeartbeats 4000000 in
set_option maxRecDepth 100000 in
theorem c_X_legal (l : Launch) (D : va_G) (cl : List vw_C) (hcl : cOK cl) (oa ca : Nat → Nat) (ck : Nat → ClassId) (F : Nat → Int32) (G : Nat → Nat → Int32) {H : Heap} (hP : va_P D cl (cW oa ca ck F G) H) (nD : Nat) (d : Int32) (k1 : F 1 = nI nD) (hN : nD ≤ 4096) (hnx : mrx_X_legal nD d = 0) : ro_Met l yX_legal wsX_legal ({ frames := 2, cells := 0, slots := 0, locals := 44 } : Room) D cl (cT ck) H [.ref (oa 0), .int d] (.int (mr_X_legal (G 8) (G 9) (G 10) (G 11) nD d)) := by
  refine ro_metZ (by unfold mr_X_legal; repeat' first | refine zb_i ?_ ?_ | exact zb_0 | exact zb_1 | apply zb_allows) (by decide) rfl (Nat.le_of_ble_eq_true rfl) ?_
  intro p e s m args below meth c Q Sx hK ls hl hret
  obtain ⟨hx, hb, hml, hown, hts⟩ := id Sx
  have hl : lv_has ls 2 [(0, .ref (oa 0)), (1, .int d)] := hl
  have f12 := hts _ (List.mem_cons_of_mem _ mfX_12)
  have inX_ : ∀ w ∈ wsX0, w ∈ wsX_legal := fun w h => List.mem_cons_of_mem _ (inX_all w h)
  have f21 := hts _ (List.mem_cons_of_mem _ mfX_21)
  refine lv_aload_n hx hb dX_legal_0 rfl (lv_at hl 0 rfl) ?_
  refine va_get (D := D) (ci := 1) (v := .ref (oa 1)) (C := RX) (T := TX) (N := 6) hx hb hts inX_ hown hK hP 0 rfl hcl.1 0 (by decide) f12 (fun _ h9 => h9) rfl dX_legal_1 ?_
  refine lv_iload_n hx hb dX_legal_4 rfl (lv_at hl 1 rfl) ?_
  refine ro_callV (r := (.int (mr_Sh_hasDesign nD d))) (As := [.int d]) (rest := []) Sx (c_Sh_hasDesign l D cl hcl oa ca ck F G hP nD d k1) (cwV 1 hts gX_legal_Sh_hasDesign rfl rfl rfl (by decide +kernel) ⟨Nat.le_of_ble_eq_true rfl, Nat.le_of_ble_eq_true rfl⟩) hK (va_recv hK hP (ci := 2) (q0 := 1) hcl.2.1 rfl) rfl hl.1 rfl (Nat.le_of_ble_eq_true rfl) dX_legal_5 ⟨Nat.zero_le _, Nat.zero_le _⟩ ?_
  refine lv_if_ne (tgt := 21) hx hb dX_legal_8 (by decide) (fun c8 => ?_) (fun c8 => ?_)
  · have xd := ix_cl (hasDesign_ix c8 (by omega)) (by omega)
    have xd2 := xd.2
    refine lv_aload_n hx hb dX_legal_21 rfl (lv_at hl 0 rfl) ?_
    refine va_get (D := D) (ci := 1) (v := .ref (oa 3)) (C := RX) (T := TX) (N := 6) hx hb hts inX_ hown hK hP 0 rfl hcl.1 1 (by decide) f21 (fun _ h9 => h9) rfl dX_legal_22 ?_
    refine lv_iload_n hx hb dX_legal_25 rfl (lv_at hl 1 rfl) ?_
    refine wt_i (r := nI (d.toNatClampNeg)) (by exact xd.1) ?_
    refine ro_callV (r := (.int (mr_Bo_allows (G 8) (G 9) (G 10) (G 11) (d.toNatClampNeg)))) (As := [.int (nI (d.toNatClampNeg))]) (rest := []) Sx (c_Bo_allows l D cl hcl oa ca ck F G hP (d.toNatClampNeg) (by omega)) (cwV 1 hts gX_legal_Bo_allows rfl rfl rfl (by decide +kernel) ⟨Nat.le_of_ble_eq_true rfl, Nat.le_of_ble_eq_true rfl⟩) hK (va_recv hK hP (ci := 4) (q0 := 3) hcl.2.2.2.1 rfl) rfl hl.1 rfl (Nat.le_of_ble_eq_true rfl) dX_legal_26 ⟨Nat.zero_le _, Nat.zero_le _⟩ ?_
    exact hret _ _ _ (by rw [mr_X_legal, if_neg c8]) dX_legal_29
  · exact absurd hnx (by rw [mrx_X_legal, if_pos c8]; decide)
set_option maxHeartbeats 4000000 in
set_option maxRecDepth 100000 in
theorem t_X_legal (l : Launch) (hlt : l.stackTraces = false) (Z : State) (hZ : ∀ w ∈ xws ++ sALL, w.before #[] Z = true) (D : va_G) (cl : List vw_C) (hcl : cOK cl) (oa ca : Nat → Nat) (ck : Nat → ClassId) (F : Nat → Int32) (G : Nat → Nat → Int32) {H : Heap} (hP : va_P D cl (cW oa ca ck F G) H) (hD : va_D (fun _ => True) (cW oa ca ck F G)) (hZ0 : Z.heap.size ≤ H.size) (hZH : ∀ q : Nat, q < Z.heap.size → H[q]? = Z.heap[q]?) (hZA : ∀ q : Nat, q < Z.heap.size → ¬ va_A (cW oa ca ck F G) H.size q) (nD : Nat) (d : Int32) (k1 : F 1 = nI nD) (hN : nD ≤ 4096) (hnx : ¬ mrx_X_legal nD d = 0) : tx_Met l yX_legal wsX_legal ({ frames := 6, cells := 1, slots := 6, locals := 82 } : Room) (tx_P Z D cl (cT ck) H [.ref (oa 0), .int d]) (exn (mrx_X_legal nD d)) 1 6 (va_A (cW oa ca ck F G) H.size) (fun H1 => va_P D cl (cW oa ca ck F G) H1 ∧ va_D (va_A (cW oa ca ck F G) H.size) (cW oa ca ck F G)) := by
  refine tx_met (by decide) rfl (Nat.le_of_ble_eq_true rfl) hP hD ?_
  intro p e s m args below meth c Q A hAe hQ Sx hK hZw hlk hno hP hD hS hA ls hl
  obtain ⟨hx, hb, hml, hown, hts⟩ := id Sx
  have hl : lv_has ls 2 [(0, .ref (oa 0)), (1, .int d)] := hl
  have hD : va_D (fun _ => True) (cW oa ca ck F G) := hD.weaken (fun _ _ _ _ => trivial)
  have f12 := hts _ (List.mem_cons_of_mem _ mfX_12)
  have inX_ : ∀ w ∈ wsX0, w ∈ wsX_legal := fun w h => List.mem_cons_of_mem _ (inX_all w h)
  have wx98 := hts _ (List.mem_cons_of_mem _ mxX_98)
  have wn1 := hts _ (List.mem_cons_of_mem _ mnE_1)
  have wt1 := hts _ (List.mem_cons_of_mem _ mtE_1)
  refine lv_aload_n hx hb dX_legal_0 rfl (lv_at hl 0 rfl) ?_
  refine va_get (D := D) (ci := 1) (v := .ref (oa 1)) (C := RX) (T := TX) (N := 6) hx hb hts inX_ hown hK hP 0 rfl hcl.1 0 (by decide) f12 (fun _ h9 => h9) rfl dX_legal_1 ?_
  refine lv_iload_n hx hb dX_legal_4 rfl (lv_at hl 1 rfl) ?_
  refine ro_callV (r := (.int (mr_Sh_hasDesign nD d))) (As := [.int d]) (rest := []) Sx (c_Sh_hasDesign l D cl hcl oa ca ck F G hP nD d k1) (cwV 1 hts gX_legal_Sh_hasDesign rfl rfl rfl (by decide +kernel) ⟨Nat.le_of_ble_eq_true rfl, Nat.le_of_ble_eq_true rfl⟩) hK (va_recv hK hP (ci := 2) (q0 := 1) hcl.2.1 rfl) rfl hl.1 rfl (Nat.le_of_ble_eq_true rfl) dX_legal_5 ⟨Nat.zero_le _, Nat.zero_le _⟩ ?_
  refine lv_if_ne (tgt := 21) hx hb dX_legal_8 (by decide) (fun c8 => ?_) (fun c8 => ?_)
  · have xd := ix_cl (hasDesign_ix c8 (by omega)) (by omega)
    have xd2 := xd.2
    exact absurd (by rw [mrx_X_legal, if_neg c8]) hnx
  · have ex : mrx_X_legal nD d = 1 := by rw [mrx_X_legal, if_pos c8]
    rw [hQ, ex, exn_1]
    exact tx_new (A := A) (i1 := 98) (i2 := 156) (i3 := 102) (own := RX) (up := xup) (tx := strsX_156) hlt hx hb (hml.trans hl.1.symm) hlk (hno _) hown (by decide +kernel) (by decide +kernel) (xo_use xo_1 hts) wt1 wx98 wn1 hZw (fun w9 h9 => hZ w9 (List.mem_append_left _ h9)) (hZ _ (List.mem_append_right _ mrX_156)) hZH (fun x9 h9 => absurd h9 List.not_mem_nil) dX_legal_11 dX_legal_14 dX_legal_15 dX_legal_17 dX_legal_20 (Nat.le_refl _) (Nat.le_refl _) (by decide) (by decide) rfl rfl (fun H1 h1 h2 => ⟨va_old hP h2, hD.self⟩)
def mr_X_beats (g8 : Nat → Int32) (g9 : Nat → Int32) (g10 : Nat → Int32) (g11 : Nat → Int32) (nD : Nat) (d : Int32) (o : Int32) : Int32 := (if (mr_Sh_hasDesign nD d) = 0 then 0 else (if (mr_Sh_hasDesign nD o) = 0 then 0 else (if (mr_Bo_allows g8 g9 g10 g11 (d.toNatClampNeg)) = 0 then 0 else (if (mr_Bo_allows g8 g9 g10 g11 (o.toNatClampNeg)) = 0 then 0 else ((if (mr_Bo_isAtMost g10 (d.toNatClampNeg) (o.toNatClampNeg)) = 0 then 0 else (if (mr_Bo_isAtMost g10 (o.toNatClampNeg) (d.toNatClampNeg)) = 0 then 1 else 0)) : Int32)))))
def mrx_X_beats (g8 : Nat → Int32) (g9 : Nat → Int32) (g10 : Nat → Int32) (g11 : Nat → Int32) (nD : Nat) (d : Int32) (o : Int32) : Int32 := (if (mr_Sh_hasDesign nD d) = 0 then 1 else (if (mr_Sh_hasDesign nD o) = 0 then 1 else (if (mr_Bo_allows g8 g9 g10 g11 (d.toNatClampNeg)) = 0 then 2 else (if (mr_Bo_allows g8 g9 g10 g11 (o.toNatClampNeg)) = 0 then 2 else 0))))
set_option maxHeartbeats 4000000 in
set_option maxRecDepth 100000 in
theorem c_X_beats (l : Launch) (D : va_G) (cl : List vw_C) (hcl : cOK cl) (oa ca : Nat → Nat) (ck : Nat → ClassId) (F : Nat → Int32) (G : Nat → Nat → Int32) {H : Heap} (hP : va_P D cl (cW oa ca ck F G) H) (nD : Nat) (d : Int32) (o : Int32) (k1 : F 1 = nI nD) (hN : nD ≤ 4096) (hnx : mrx_X_beats (G 8) (G 9) (G 10) (G 11) nD d o = 0) : ro_Met l yX_beats wsX_beats ({ frames := 2, cells := 0, slots := 0, locals := 44 } : Room) D cl (cT ck) H [.ref (oa 0), .int d, .int o] (.int (mr_X_beats (G 8) (G 9) (G 10) (G 11) nD d o)) := by
  refine ro_metZ (by unfold mr_X_beats; repeat' first | refine zb_i ?_ ?_ | exact zb_0 | exact zb_1) (by decide) rfl (Nat.le_of_ble_eq_true rfl) ?_
  intro p e s m args below meth c Q Sx hK ls hl hret
  obtain ⟨hx, hb, hml, hown, hts⟩ := id Sx
  have hl : lv_has ls 3 [(0, .ref (oa 0)), (1, .int d), (2, .int o)] := hl
  have f12 := hts _ (List.mem_cons_of_mem _ mfX_12)
  have inX_ : ∀ w ∈ wsX0, w ∈ wsX_beats := fun w h => List.mem_cons_of_mem _ (inX_all w h)
  have f21 := hts _ (List.mem_cons_of_mem _ mfX_21)
  refine lv_aload_n hx hb dX_beats_0 rfl (lv_at hl 0 rfl) ?_
  refine va_get (D := D) (ci := 1) (v := .ref (oa 1)) (C := RX) (T := TX) (N := 6) hx hb hts inX_ hown hK hP 0 rfl hcl.1 0 (by decide) f12 (fun _ h9 => h9) rfl dX_beats_1 ?_
  refine lv_iload_n hx hb dX_beats_4 rfl (lv_at hl 1 rfl) ?_
  refine ro_callV (r := (.int (mr_Sh_hasDesign nD d))) (As := [.int d]) (rest := []) Sx (c_Sh_hasDesign l D cl hcl oa ca ck F G hP nD d k1) (cwV 1 hts gX_beats_Sh_hasDesign rfl rfl rfl (by decide +kernel) ⟨Nat.le_of_ble_eq_true rfl, Nat.le_of_ble_eq_true rfl⟩) hK (va_recv hK hP (ci := 2) (q0 := 1) hcl.2.1 rfl) rfl hl.1 rfl (Nat.le_of_ble_eq_true rfl) dX_beats_5 ⟨Nat.zero_le _, Nat.zero_le _⟩ ?_
  refine lv_if_eq (tgt := 22) hx hb dX_beats_8 (by decide) (fun c8 => ?_) (fun c8 => ?_)
  · exact absurd hnx (by rw [mrx_X_beats, if_pos c8]; decide)
  · have xd := ix_cl (hasDesign_ix c8 (by omega)) (by omega)
    have xd2 := xd.2
    refine lv_aload_n hx hb dX_beats_11 rfl (lv_at hl 0 rfl) ?_
    refine va_get (D := D) (ci := 1) (v := .ref (oa 1)) (C := RX) (T := TX) (N := 6) hx hb hts inX_ hown hK hP 0 rfl hcl.1 0 (by decide) f12 (fun _ h9 => h9) rfl dX_beats_12 ?_
    refine lv_iload_n hx hb dX_beats_15 rfl (lv_at hl 2 rfl) ?_
    refine ro_callV (r := (.int (mr_Sh_hasDesign nD o))) (As := [.int o]) (rest := []) Sx (c_Sh_hasDesign l D cl hcl oa ca ck F G hP nD o k1) (cwV 1 hts gX_beats_Sh_hasDesign rfl rfl rfl (by decide +kernel) ⟨Nat.le_of_ble_eq_true rfl, Nat.le_of_ble_eq_true rfl⟩) hK (va_recv hK hP (ci := 2) (q0 := 1) hcl.2.1 rfl) rfl hl.1 rfl (Nat.le_of_ble_eq_true rfl) dX_beats_16 ⟨Nat.zero_le _, Nat.zero_le _⟩ ?_
    refine lv_if_ne (tgt := 32) hx hb dX_beats_19 (by decide) (fun c19 => ?_) (fun c19 => ?_)
    · have xo := ix_cl (hasDesign_ix c19 (by omega)) (by omega)
      have xo2 := xo.2
      refine lv_aload_n hx hb dX_beats_32 rfl (lv_at hl 0 rfl) ?_
      refine va_get (D := D) (ci := 1) (v := .ref (oa 3)) (C := RX) (T := TX) (N := 6) hx hb hts inX_ hown hK hP 0 rfl hcl.1 1 (by decide) f21 (fun _ h9 => h9) rfl dX_beats_33 ?_
      refine lv_iload_n hx hb dX_beats_36 rfl (lv_at hl 1 rfl) ?_
      refine wt_i (r := nI (d.toNatClampNeg)) (by exact xd.1) ?_
      refine ro_callV (r := (.int (mr_Bo_allows (G 8) (G 9) (G 10) (G 11) (d.toNatClampNeg)))) (As := [.int (nI (d.toNatClampNeg))]) (rest := []) Sx (c_Bo_allows l D cl hcl oa ca ck F G hP (d.toNatClampNeg) (by omega)) (cwV 1 hts gX_beats_Bo_allows rfl rfl rfl (by decide +kernel) ⟨Nat.le_of_ble_eq_true rfl, Nat.le_of_ble_eq_true rfl⟩) hK (va_recv hK hP (ci := 4) (q0 := 3) hcl.2.2.2.1 rfl) rfl hl.1 rfl (Nat.le_of_ble_eq_true rfl) dX_beats_37 ⟨Nat.zero_le _, Nat.zero_le _⟩ ?_
      refine lv_if_eq (tgt := 54) hx hb dX_beats_40 (by decide) (fun c40 => ?_) (fun c40 => ?_)
      · exact absurd hnx (by rw [mrx_X_beats, if_neg c8, if_neg c19, if_pos c40]; decide)
      · refine lv_aload_n hx hb dX_beats_43 rfl (lv_at hl 0 rfl) ?_
        refine va_get (D := D) (ci := 1) (v := .ref (oa 3)) (C := RX) (T := TX) (N := 6) hx hb hts inX_ hown hK hP 0 rfl hcl.1 1 (by decide) f21 (fun _ h9 => h9) rfl dX_beats_44 ?_
        refine lv_iload_n hx hb dX_beats_47 rfl (lv_at hl 2 rfl) ?_
        refine wt_i (r := nI (o.toNatClampNeg)) (by exact xo.1) ?_
        refine ro_callV (r := (.int (mr_Bo_allows (G 8) (G 9) (G 10) (G 11) (o.toNatClampNeg)))) (As := [.int (nI (o.toNatClampNeg))]) (rest := []) Sx (c_Bo_allows l D cl hcl oa ca ck F G hP (o.toNatClampNeg) (by omega)) (cwV 1 hts gX_beats_Bo_allows rfl rfl rfl (by decide +kernel) ⟨Nat.le_of_ble_eq_true rfl, Nat.le_of_ble_eq_true rfl⟩) hK (va_recv hK hP (ci := 4) (q0 := 3) hcl.2.2.2.1 rfl) rfl hl.1 rfl (Nat.le_of_ble_eq_true rfl) dX_beats_48 ⟨Nat.zero_le _, Nat.zero_le _⟩ ?_
        refine lv_if_ne (tgt := 64) hx hb dX_beats_51 (by decide) (fun c51 => ?_) (fun c51 => ?_)
        · refine lv_aload_n hx hb dX_beats_64 rfl (lv_at hl 0 rfl) ?_
          refine va_get (D := D) (ci := 1) (v := .ref (oa 3)) (C := RX) (T := TX) (N := 6) hx hb hts inX_ hown hK hP 0 rfl hcl.1 1 (by decide) f21 (fun _ h9 => h9) rfl dX_beats_65 ?_
          refine lv_iload_n hx hb dX_beats_68 rfl (lv_at hl 1 rfl) ?_
          refine wt_i (r := nI (d.toNatClampNeg)) (by exact xd.1) ?_
          refine lv_iload_n hx hb dX_beats_69 rfl (lv_at hl 2 rfl) ?_
          refine wt_i (r := nI (o.toNatClampNeg)) (by exact xo.1) ?_
          refine ro_callV (r := (.int (mr_Bo_isAtMost (G 10) (d.toNatClampNeg) (o.toNatClampNeg)))) (As := [.int (nI (d.toNatClampNeg)), .int (nI (o.toNatClampNeg))]) (rest := []) Sx (c_Bo_isAtMost l D cl hcl oa ca ck F G hP (d.toNatClampNeg) (o.toNatClampNeg) (by omega) (by omega)) (cwV 2 hts gX_beats_Bo_isAtMost rfl rfl rfl (by decide +kernel) ⟨Nat.le_of_ble_eq_true rfl, Nat.le_of_ble_eq_true rfl⟩) hK (va_recv hK hP (ci := 4) (q0 := 3) hcl.2.2.2.1 rfl) rfl hl.1 rfl (Nat.le_of_ble_eq_true rfl) dX_beats_70 ⟨Nat.zero_le _, Nat.zero_le _⟩ ?_
          have j93 : ∀ (ls : Array Slot), lv_has ls 3 [(0, .ref (oa 0)), (1, .int d), (2, .int o)] → W p l e ({ frames := 2, cells := 0, slots := 0, locals := 44 } : Room) s m args below meth c H [] 0 0 Q (F0 m 93 ls [.int ((if (mr_Bo_isAtMost (G 10) (d.toNatClampNeg) (o.toNatClampNeg)) = 0 then 0 else (if (mr_Bo_isAtMost (G 10) (o.toNatClampNeg) (d.toNatClampNeg)) = 0 then 1 else 0)) : Int32)]) := by
            intro ls hl
            exact hret _ _ _ (by rw [mr_X_beats, if_neg c8, if_neg c19, if_neg c40, if_neg c51]) dX_beats_93
          refine lv_if_eq (tgt := 92) hx hb dX_beats_73 (by decide) (fun c73 => ?_) (fun c73 => ?_)
          · refine lv_iconst (v := 0) hx hb dX_beats_92 (by decide) ?_
            exact wt_i (by rw [if_pos c73]) (j93 ls hl)
          · refine lv_aload_n hx hb dX_beats_76 rfl (lv_at hl 0 rfl) ?_
            refine va_get (D := D) (ci := 1) (v := .ref (oa 3)) (C := RX) (T := TX) (N := 6) hx hb hts inX_ hown hK hP 0 rfl hcl.1 1 (by decide) f21 (fun _ h9 => h9) rfl dX_beats_77 ?_
            refine lv_iload_n hx hb dX_beats_80 rfl (lv_at hl 2 rfl) ?_
            refine wt_i (r := nI (o.toNatClampNeg)) (by exact xo.1) ?_
            refine lv_iload_n hx hb dX_beats_81 rfl (lv_at hl 1 rfl) ?_
            refine wt_i (r := nI (d.toNatClampNeg)) (by exact xd.1) ?_
            refine ro_callV (r := (.int (mr_Bo_isAtMost (G 10) (o.toNatClampNeg) (d.toNatClampNeg)))) (As := [.int (nI (o.toNatClampNeg)), .int (nI (d.toNatClampNeg))]) (rest := []) Sx (c_Bo_isAtMost l D cl hcl oa ca ck F G hP (o.toNatClampNeg) (d.toNatClampNeg) (by omega) (by omega)) (cwV 2 hts gX_beats_Bo_isAtMost rfl rfl rfl (by decide +kernel) ⟨Nat.le_of_ble_eq_true rfl, Nat.le_of_ble_eq_true rfl⟩) hK (va_recv hK hP (ci := 4) (q0 := 3) hcl.2.2.2.1 rfl) rfl hl.1 rfl (Nat.le_of_ble_eq_true rfl) dX_beats_82 ⟨Nat.zero_le _, Nat.zero_le _⟩ ?_
            refine lv_if_ne (tgt := 92) hx hb dX_beats_85 (by decide) (fun c85 => ?_) (fun c85 => ?_)
            · refine lv_iconst (v := 0) hx hb dX_beats_92 (by decide) ?_
              exact wt_i (by rw [if_neg c73, if_neg c85]) (j93 ls hl)
            · refine lv_iconst (v := 1) hx hb dX_beats_88 (by decide) ?_
              refine lv_goto (tgt := 93) hx hb dX_beats_89 (by decide) ?_
              exact wt_i (by rw [if_neg c73, if_pos c85]) (j93 ls hl)
        · exact absurd hnx (by rw [mrx_X_beats, if_neg c8, if_neg c19, if_neg c40, if_pos c51]; decide)
    · exact absurd hnx (by rw [mrx_X_beats, if_neg c8, if_pos c19]; decide)
set_option maxHeartbeats 4000000 in
set_option maxRecDepth 100000 in
theorem t_X_beats (l : Launch) (hlt : l.stackTraces = false) (Z : State) (hZ : ∀ w ∈ xws ++ sALL, w.before #[] Z = true) (D : va_G) (cl : List vw_C) (hcl : cOK cl) (oa ca : Nat → Nat) (ck : Nat → ClassId) (F : Nat → Int32) (G : Nat → Nat → Int32) {H : Heap} (hP : va_P D cl (cW oa ca ck F G) H) (hD : va_D (fun _ => True) (cW oa ca ck F G)) (hZ0 : Z.heap.size ≤ H.size) (hZH : ∀ q : Nat, q < Z.heap.size → H[q]? = Z.heap[q]?) (hZA : ∀ q : Nat, q < Z.heap.size → ¬ va_A (cW oa ca ck F G) H.size q) (nD : Nat) (d : Int32) (o : Int32) (k1 : F 1 = nI nD) (hN : nD ≤ 4096) (hnx : ¬ mrx_X_beats (G 8) (G 9) (G 10) (G 11) nD d o = 0) : tx_Met l yX_beats wsX_beats ({ frames := 6, cells := 1, slots := 6, locals := 82 } : Room) (tx_P Z D cl (cT ck) H [.ref (oa 0), .int d, .int o]) (exn (mrx_X_beats (G 8) (G 9) (G 10) (G 11) nD d o)) 1 6 (va_A (cW oa ca ck F G) H.size) (fun H1 => va_P D cl (cW oa ca ck F G) H1 ∧ va_D (va_A (cW oa ca ck F G) H.size) (cW oa ca ck F G)) := by
  refine tx_met (by decide) rfl (Nat.le_of_ble_eq_true rfl) hP hD ?_
  intro p e s m args below meth c Q A hAe hQ Sx hK hZw hlk hno hP hD hS hA ls hl
  obtain ⟨hx, hb, hml, hown, hts⟩ := id Sx
  have hl : lv_has ls 3 [(0, .ref (oa 0)), (1, .int d), (2, .int o)] := hl
  have hD : va_D (fun _ => True) (cW oa ca ck F G) := hD.weaken (fun _ _ _ _ => trivial)
  have f12 := hts _ (List.mem_cons_of_mem _ mfX_12)
  have inX_ : ∀ w ∈ wsX0, w ∈ wsX_beats := fun w h => List.mem_cons_of_mem _ (inX_all w h)
  have wx98 := hts _ (List.mem_cons_of_mem _ mxX_98)
  have wn1 := hts _ (List.mem_cons_of_mem _ mnE_1)
  have wt1 := hts _ (List.mem_cons_of_mem _ mtE_1)
  have f21 := hts _ (List.mem_cons_of_mem _ mfX_21)
  have wx58 := hts _ (List.mem_cons_of_mem _ mxX_58)
  have wn2 := hts _ (List.mem_cons_of_mem _ mnE_2)
  have wt2 := hts _ (List.mem_cons_of_mem _ mtE_2)
  refine lv_aload_n hx hb dX_beats_0 rfl (lv_at hl 0 rfl) ?_
  refine va_get (D := D) (ci := 1) (v := .ref (oa 1)) (C := RX) (T := TX) (N := 6) hx hb hts inX_ hown hK hP 0 rfl hcl.1 0 (by decide) f12 (fun _ h9 => h9) rfl dX_beats_1 ?_
  refine lv_iload_n hx hb dX_beats_4 rfl (lv_at hl 1 rfl) ?_
  refine ro_callV (r := (.int (mr_Sh_hasDesign nD d))) (As := [.int d]) (rest := []) Sx (c_Sh_hasDesign l D cl hcl oa ca ck F G hP nD d k1) (cwV 1 hts gX_beats_Sh_hasDesign rfl rfl rfl (by decide +kernel) ⟨Nat.le_of_ble_eq_true rfl, Nat.le_of_ble_eq_true rfl⟩) hK (va_recv hK hP (ci := 2) (q0 := 1) hcl.2.1 rfl) rfl hl.1 rfl (Nat.le_of_ble_eq_true rfl) dX_beats_5 ⟨Nat.zero_le _, Nat.zero_le _⟩ ?_
  refine lv_if_eq (tgt := 22) hx hb dX_beats_8 (by decide) (fun c8 => ?_) (fun c8 => ?_)
  · have ex : mrx_X_beats (G 8) (G 9) (G 10) (G 11) nD d o = 1 := by rw [mrx_X_beats, if_pos c8]
    rw [hQ, ex, exn_1]
    exact tx_new (A := A) (i1 := 98) (i2 := 161) (i3 := 102) (own := RX) (up := xup) (tx := strsX_161) hlt hx hb (hml.trans hl.1.symm) hlk (hno _) hown (by decide +kernel) (by decide +kernel) (xo_use xo_1 hts) wt1 wx98 wn1 hZw (fun w9 h9 => hZ w9 (List.mem_append_left _ h9)) (hZ _ (List.mem_append_right _ mrX_161)) hZH (fun x9 h9 => absurd h9 List.not_mem_nil) dX_beats_22 dX_beats_25 dX_beats_26 dX_beats_28 dX_beats_31 (Nat.le_refl _) (Nat.le_refl _) (by decide) (by decide) rfl rfl (fun H1 h1 h2 => ⟨va_old hP h2, hD.self⟩)
  · have xd := ix_cl (hasDesign_ix c8 (by omega)) (by omega)
    have xd2 := xd.2
    refine lv_aload_n hx hb dX_beats_11 rfl (lv_at hl 0 rfl) ?_
    refine va_get (D := D) (ci := 1) (v := .ref (oa 1)) (C := RX) (T := TX) (N := 6) hx hb hts inX_ hown hK hP 0 rfl hcl.1 0 (by decide) f12 (fun _ h9 => h9) rfl dX_beats_12 ?_
    refine lv_iload_n hx hb dX_beats_15 rfl (lv_at hl 2 rfl) ?_
    refine ro_callV (r := (.int (mr_Sh_hasDesign nD o))) (As := [.int o]) (rest := []) Sx (c_Sh_hasDesign l D cl hcl oa ca ck F G hP nD o k1) (cwV 1 hts gX_beats_Sh_hasDesign rfl rfl rfl (by decide +kernel) ⟨Nat.le_of_ble_eq_true rfl, Nat.le_of_ble_eq_true rfl⟩) hK (va_recv hK hP (ci := 2) (q0 := 1) hcl.2.1 rfl) rfl hl.1 rfl (Nat.le_of_ble_eq_true rfl) dX_beats_16 ⟨Nat.zero_le _, Nat.zero_le _⟩ ?_
    refine lv_if_ne (tgt := 32) hx hb dX_beats_19 (by decide) (fun c19 => ?_) (fun c19 => ?_)
    · have xo := ix_cl (hasDesign_ix c19 (by omega)) (by omega)
      have xo2 := xo.2
      refine lv_aload_n hx hb dX_beats_32 rfl (lv_at hl 0 rfl) ?_
      refine va_get (D := D) (ci := 1) (v := .ref (oa 3)) (C := RX) (T := TX) (N := 6) hx hb hts inX_ hown hK hP 0 rfl hcl.1 1 (by decide) f21 (fun _ h9 => h9) rfl dX_beats_33 ?_
      refine lv_iload_n hx hb dX_beats_36 rfl (lv_at hl 1 rfl) ?_
      refine wt_i (r := nI (d.toNatClampNeg)) (by exact xd.1) ?_
      refine ro_callV (r := (.int (mr_Bo_allows (G 8) (G 9) (G 10) (G 11) (d.toNatClampNeg)))) (As := [.int (nI (d.toNatClampNeg))]) (rest := []) Sx (c_Bo_allows l D cl hcl oa ca ck F G hP (d.toNatClampNeg) (by omega)) (cwV 1 hts gX_beats_Bo_allows rfl rfl rfl (by decide +kernel) ⟨Nat.le_of_ble_eq_true rfl, Nat.le_of_ble_eq_true rfl⟩) hK (va_recv hK hP (ci := 4) (q0 := 3) hcl.2.2.2.1 rfl) rfl hl.1 rfl (Nat.le_of_ble_eq_true rfl) dX_beats_37 ⟨Nat.zero_le _, Nat.zero_le _⟩ ?_
      refine lv_if_eq (tgt := 54) hx hb dX_beats_40 (by decide) (fun c40 => ?_) (fun c40 => ?_)
      · have ex : mrx_X_beats (G 8) (G 9) (G 10) (G 11) nD d o = 2 := by rw [mrx_X_beats, if_neg c8, if_neg c19, if_pos c40]
        rw [hQ, ex, exn_2]
        exact tx_new (A := A) (i1 := 58) (i2 := 163) (i3 := 62) (own := RX) (up := xup) (tx := strsX_163) hlt hx hb (hml.trans hl.1.symm) hlk (hno _) hown (by decide +kernel) (by decide +kernel) (xo_use xo_2 hts) wt2 wx58 wn2 hZw (fun w9 h9 => hZ w9 (List.mem_append_left _ h9)) (hZ _ (List.mem_append_right _ mrX_163)) hZH (fun x9 h9 => absurd h9 List.not_mem_nil) dX_beats_54 dX_beats_57 dX_beats_58 dX_beats_60 dX_beats_63 (Nat.le_refl _) (Nat.le_refl _) (by decide) (by decide) rfl rfl (fun H1 h1 h2 => ⟨va_old hP h2, hD.self⟩)
      · refine lv_aload_n hx hb dX_beats_43 rfl (lv_at hl 0 rfl) ?_
        refine va_get (D := D) (ci := 1) (v := .ref (oa 3)) (C := RX) (T := TX) (N := 6) hx hb hts inX_ hown hK hP 0 rfl hcl.1 1 (by decide) f21 (fun _ h9 => h9) rfl dX_beats_44 ?_
        refine lv_iload_n hx hb dX_beats_47 rfl (lv_at hl 2 rfl) ?_
        refine wt_i (r := nI (o.toNatClampNeg)) (by exact xo.1) ?_
        refine ro_callV (r := (.int (mr_Bo_allows (G 8) (G 9) (G 10) (G 11) (o.toNatClampNeg)))) (As := [.int (nI (o.toNatClampNeg))]) (rest := []) Sx (c_Bo_allows l D cl hcl oa ca ck F G hP (o.toNatClampNeg) (by omega)) (cwV 1 hts gX_beats_Bo_allows rfl rfl rfl (by decide +kernel) ⟨Nat.le_of_ble_eq_true rfl, Nat.le_of_ble_eq_true rfl⟩) hK (va_recv hK hP (ci := 4) (q0 := 3) hcl.2.2.2.1 rfl) rfl hl.1 rfl (Nat.le_of_ble_eq_true rfl) dX_beats_48 ⟨Nat.zero_le _, Nat.zero_le _⟩ ?_
        refine lv_if_ne (tgt := 64) hx hb dX_beats_51 (by decide) (fun c51 => ?_) (fun c51 => ?_)
        · exact absurd (by rw [mrx_X_beats, if_neg c8, if_neg c19, if_neg c40, if_neg c51]) hnx
        · have ex : mrx_X_beats (G 8) (G 9) (G 10) (G 11) nD d o = 2 := by rw [mrx_X_beats, if_neg c8, if_neg c19, if_neg c40, if_pos c51]
          rw [hQ, ex, exn_2]
          exact tx_new (A := A) (i1 := 58) (i2 := 163) (i3 := 62) (own := RX) (up := xup) (tx := strsX_163) hlt hx hb (hml.trans hl.1.symm) hlk (hno _) hown (by decide +kernel) (by decide +kernel) (xo_use xo_2 hts) wt2 wx58 wn2 hZw (fun w9 h9 => hZ w9 (List.mem_append_left _ h9)) (hZ _ (List.mem_append_right _ mrX_163)) hZH (fun x9 h9 => absurd h9 List.not_mem_nil) dX_beats_54 dX_beats_57 dX_beats_58 dX_beats_60 dX_beats_63 (Nat.le_refl _) (Nat.le_refl _) (by decide) (by decide) rfl rfl (fun H1 h1 h2 => ⟨va_old hP h2, hD.self⟩)
    · have ex : mrx_X_beats (G 8) (G 9) (G 10) (G 11) nD d o = 1 := by rw [mrx_X_beats, if_neg c8, if_pos c19]
      rw [hQ, ex, exn_1]
      exact tx_new (A := A) (i1 := 98) (i2 := 161) (i3 := 102) (own := RX) (up := xup) (tx := strsX_161) hlt hx hb (hml.trans hl.1.symm) hlk (hno _) hown (by decide +kernel) (by decide +kernel) (xo_use xo_1 hts) wt1 wx98 wn1 hZw (fun w9 h9 => hZ w9 (List.mem_append_left _ h9)) (hZ _ (List.mem_append_right _ mrX_161)) hZH (fun x9 h9 => absurd h9 List.not_mem_nil) dX_beats_22 dX_beats_25 dX_beats_26 dX_beats_28 dX_beats_31 (Nat.le_refl _) (Nat.le_refl _) (by decide) (by decide) rfl rfl (fun H1 h1 h2 => ⟨va_old hP h2, hD.self⟩)
def mr_X_undominated (f4 : Int32) (f5 : Int32) (g8 : Nat → Int32) (g9 : Nat → Int32) (g10 : Nat → Int32) (g11 : Nat → Int32) (g12 : Nat → Int32) (g13 : Nat → Int32) (nD : Nat) : Int32 × Int32 × Int32 × (Nat → Int32) × (Nat → Int32) := ((mr_Fr_refresh f4 f5 g8 g9 g10 g11 g12 g13 nD).1, (mr_Fr_refresh f4 f5 g8 g9 g10 g11 g12 g13 nD).1, (mr_Fr_refresh f4 f5 g8 g9 g10 g11 g12 g13 nD).2.1, (mr_Fr_refresh f4 f5 g8 g9 g10 g11 g12 g13 nD).2.2.1, (mr_Fr_refresh f4 f5 g8 g9 g10 g11 g12 g13 nD).2.2.2)
set_option maxHeartbeats 4000000 in
set_option maxRecDepth 100000 in
theorem c_X_undominated (l : Launch) (D : va_G) (cl : List vw_C) (hcl : cOK cl) (oa ca : Nat → Nat) (ck : Nat → ClassId) (F : Nat → Int32) (G : Nat → Nat → Int32) {H0 : Heap} (hP : va_P D cl (cW oa ca ck F G) H0) (hD : va_D (fun _ => True) (cW oa ca ck F G)) (nD : Nat) (k1 : F 1 = nI nD) (hN : nD ≤ 4096) : ww_Met l yX_undominated wsX_undominated ({ frames := 4, cells := 0, slots := 0, locals := 90 } : Room) D cl (cT ck) H0 [.ref (oa 0)] (cW oa ca ck F G) (some (.int ((mr_X_undominated (F 4) (F 5) (G 8) (G 9) (G 10) (G 11) (G 12) (G 13) nD).1))) (cW oa ca ck (upd (upd F 4 ((mr_X_undominated (F 4) (F 5) (G 8) (G 9) (G 10) (G 11) (G 12) (G 13) nD).2.1)) 5 ((mr_X_undominated (F 4) (F 5) (G 8) (G 9) (G 10) (G 11) (G 12) (G 13) nD).2.2.1)) (va_up (va_up G 12 ((mr_X_undominated (F 4) (F 5) (G 8) (G 9) (G 10) (G 11) (G 12) (G 13) nD).2.2.2.1)) 13 ((mr_X_undominated (F 4) (F 5) (G 8) (G 9) (G 10) (G 11) (G 12) (G 13) nD).2.2.2.2))) := by
  refine ww_metI (by decide) rfl (Nat.le_of_ble_eq_true rfl) hP hD ?_
  intro p e s m args below meth c Q A Sx hK hP hD hS hA ls hl hret
  obtain ⟨hx, hb, hml, hown, hts⟩ := id Sx
  have hl : lv_has ls 1 [(0, .ref (oa 0))] := hl
  obtain ⟨H, eH⟩ : ∃ H : Heap, H = H0 := ⟨_, rfl⟩
  obtain ⟨locs, eL⟩ : ∃ L : List Loc, L = [] := ⟨_, rfl⟩
  have hP : va_P D cl (cW oa ca ck F G) H := by rw [eH]; exact hP
  have hS : va_S A H0 H locs := by rw [eH, eL]; exact hS
  rw [show W p l e ({ frames := 4, cells := 0, slots := 0, locals := 90 } : Room) s m args below meth c H0 [] 0 0 Q (F0 m 0 ls []) = W p l e ({ frames := 4, cells := 0, slots := 0, locals := 90 } : Room) s m args below meth c H locs 0 0 Q (F0 m 0 ls []) by rw [eH, eL]]
  clear eH eL
  have f30 := hts _ (List.mem_cons_of_mem _ mfX_30)
  have inX_ : ∀ w ∈ wsX0, w ∈ wsX_undominated := fun w h => List.mem_cons_of_mem _ (inX_all w h)
  have f171 := hts _ (List.mem_cons_of_mem _ mfX_171)
  have inFr_ : ∀ w ∈ wsFr0, w ∈ wsX_undominated := fun w h => List.mem_cons_of_mem _ (inFr_all w h)
  refine lv_aload_n hx hb dX_undominated_0 rfl (lv_at hl 0 rfl) ?_
  refine va_get (D := D) (ci := 1) (v := .ref (oa 4)) (C := RX) (T := TX) (N := 6) hx hb hts inX_ hown hK hP 0 rfl hcl.1 2 (by decide) f30 (fun _ h9 => h9) rfl dX_undominated_1 ?_
  refine ww_callV (r := none) (w' := cW oa ca ck (upd (upd F 4 ((mr_Fr_refresh (F 4) (F 5) (G 8) (G 9) (G 10) (G 11) (G 12) (G 13) nD).1)) 5 ((mr_Fr_refresh (F 4) (F 5) (G 8) (G 9) (G 10) (G 11) (G 12) (G 13) nD).2.1)) (va_up (va_up G 12 ((mr_Fr_refresh (F 4) (F 5) (G 8) (G 9) (G 10) (G 11) (G 12) (G 13) nD).2.2.1)) 13 ((mr_Fr_refresh (F 4) (F 5) (G 8) (G 9) (G 10) (G 11) (G 12) (G 13) nD).2.2.2))) (As := []) (rest := []) Sx (c_Fr_refresh l D cl hcl oa ca ck F G hP (hD.weaken (fun _ _ _ _ => trivial)) nD k1 hN) (cwV 0 hts gX_undominated_Fr_refresh rfl rfl rfl (by decide +kernel) ⟨Nat.le_of_ble_eq_true rfl, Nat.le_of_ble_eq_true rfl⟩) hK (va_recv hK hP (ci := 5) (q0 := 4) hcl.2.2.2.2.1 rfl) rfl hl.1 rfl (Nat.le_of_ble_eq_true rfl) dX_undominated_4 ⟨Nat.zero_le _, Nat.zero_le _⟩ hD hS hA (fun H locs hP hD hS => ?_)
  refine lv_aload_n hx hb dX_undominated_7 rfl (lv_at hl 0 rfl) ?_
  refine va_get (D := D) (ci := 1) (v := .ref (oa 4)) (C := RX) (T := TX) (N := 6) hx hb hts inX_ hown hK hP 0 rfl hcl.1 2 (by decide) f30 (fun _ h9 => h9) rfl dX_undominated_8 ?_
  have ef11 : (upd (upd F 4 ((mr_Fr_refresh (F 4) (F 5) (G 8) (G 9) (G 10) (G 11) (G 12) (G 13) nD).1)) 5 ((mr_Fr_refresh (F 4) (F 5) (G 8) (G 9) (G 10) (G 11) (G 12) (G 13) nD).2.1)) 4 = (mr_Fr_refresh (F 4) (F 5) (G 8) (G 9) (G 10) (G 11) (G 12) (G 13) nD).1 := by rw [pk_un (k := 5) (j := 4) (by decide), pk_us]
  refine va_get (D := D) (ci := 5) (v := .int ((mr_Fr_refresh (F 4) (F 5) (G 8) (G 9) (G 10) (G 11) (G 12) (G 13) nD).1)) (C := RFr) (T := TFr) (N := 6) hx hb hts inFr_ hown hK hP 4 rfl hcl.2.2.2.2.1 4 (by decide) f171 (fun _ h9 => h9) (congrArg (fun z => some (Value.int z)) ef11) dX_undominated_11 ?_
  have em : mr_X_undominated (F 4) (F 5) (G 8) (G 9) (G 10) (G 11) (G 12) (G 13) nD = ((mr_Fr_refresh (F 4) (F 5) (G 8) (G 9) (G 10) (G 11) (G 12) (G 13) nD).1, (mr_Fr_refresh (F 4) (F 5) (G 8) (G 9) (G 10) (G 11) (G 12) (G 13) nD).1, (mr_Fr_refresh (F 4) (F 5) (G 8) (G 9) (G 10) (G 11) (G 12) (G 13) nD).2.1, (mr_Fr_refresh (F 4) (F 5) (G 8) (G 9) (G 10) (G 11) (G 12) (G 13) nD).2.2.1, (mr_Fr_refresh (F 4) (F 5) (G 8) (G 9) (G 10) (G 11) (G 12) (G 13) nD).2.2.2) := by rw [mr_X_undominated]
  exact hret _ _ _ _ _ _ (by simp only [em]) (by simp only [em]) hP hD hS dX_undominated_14
def mr_X_at (f4 : Int32) (f5 : Int32) (g8 : Nat → Int32) (g9 : Nat → Int32) (g10 : Nat → Int32) (g11 : Nat → Int32) (g12 : Nat → Int32) (g13 : Nat → Int32) (nD : Nat) (sz : Nat) (k : Int32) : Int32 × Int32 × Int32 × (Nat → Int32) × (Nat → Int32) := (if k < 0 then (0, (mr_Fr_refresh f4 f5 g8 g9 g10 g11 g12 g13 nD).1, (mr_Fr_refresh f4 f5 g8 g9 g10 g11 g12 g13 nD).2.1, (mr_Fr_refresh f4 f5 g8 g9 g10 g11 g12 g13 nD).2.2.1, (mr_Fr_refresh f4 f5 g8 g9 g10 g11 g12 g13 nD).2.2.2) else (if k < (nI (((mr_Fr_refresh f4 f5 g8 g9 g10 g11 g12 g13 nD).1).toNatClampNeg)) then (((mr_Fr_refresh f4 f5 g8 g9 g10 g11 g12 g13 nD).2.2.1) (k.toNatClampNeg), (mr_Fr_refresh f4 f5 g8 g9 g10 g11 g12 g13 nD).1, (mr_Fr_refresh f4 f5 g8 g9 g10 g11 g12 g13 nD).2.1, (mr_Fr_refresh f4 f5 g8 g9 g10 g11 g12 g13 nD).2.2.1, (mr_Fr_refresh f4 f5 g8 g9 g10 g11 g12 g13 nD).2.2.2) else (0, (mr_Fr_refresh f4 f5 g8 g9 g10 g11 g12 g13 nD).1, (mr_Fr_refresh f4 f5 g8 g9 g10 g11 g12 g13 nD).2.1, (mr_Fr_refresh f4 f5 g8 g9 g10 g11 g12 g13 nD).2.2.1, (mr_Fr_refresh f4 f5 g8 g9 g10 g11 g12 g13 nD).2.2.2)))
def mrx_X_at (f4 : Int32) (f5 : Int32) (g8 : Nat → Int32) (g9 : Nat → Int32) (g10 : Nat → Int32) (g11 : Nat → Int32) (g12 : Nat → Int32) (g13 : Nat → Int32) (nD : Nat) (sz : Nat) (k : Int32) : Int32 := (if k < 0 then 1 else (if k < (nI (((mr_Fr_refresh f4 f5 g8 g9 g10 g11 g12 g13 nD).1).toNatClampNeg)) then 0 else 1))
set_option maxHeartbeats 4000000 in
set_option maxRecDepth 100000 in
theorem c_X_at (l : Launch) (D : va_G) (cl : List vw_C) (hcl : cOK cl) (oa ca : Nat → Nat) (ck : Nat → ClassId) (F : Nat → Int32) (G : Nat → Nat → Int32) {H0 : Heap} (hP : va_P D cl (cW oa ca ck F G) H0) (hD : va_D (fun _ => True) (cW oa ca ck F G)) (nD : Nat) (sz : Nat) (k : Int32) (k1 : F 1 = nI nD) (hN : nD ≤ 4096) (k4 : F 4 = nI sz) (hsz : sz ≤ nD) (hnx : mrx_X_at (F 4) (F 5) (G 8) (G 9) (G 10) (G 11) (G 12) (G 13) nD sz k = 0) : ww_Met l yX_at wsX_at ({ frames := 4, cells := 0, slots := 0, locals := 90 } : Room) D cl (cT ck) H0 [.ref (oa 0), .int k] (cW oa ca ck F G) (some (.int ((mr_X_at (F 4) (F 5) (G 8) (G 9) (G 10) (G 11) (G 12) (G 13) nD sz k).1))) (cW oa ca ck (upd (upd F 4 ((mr_X_at (F 4) (F 5) (G 8) (G 9) (G 10) (G 11) (G 12) (G 13) nD sz k).2.1)) 5 ((mr_X_at (F 4) (F 5) (G 8) (G 9) (G 10) (G 11) (G 12) (G 13) nD sz k).2.2.1)) (va_up (va_up G 12 ((mr_X_at (F 4) (F 5) (G 8) (G 9) (G 10) (G 11) (G 12) (G 13) nD sz k).2.2.2.1)) 13 ((mr_X_at (F 4) (F 5) (G 8) (G 9) (G 10) (G 11) (G 12) (G 13) nD sz k).2.2.2.2))) := by
  refine ww_metI (by decide) rfl (Nat.le_of_ble_eq_true rfl) hP hD ?_
  intro p e s m args below meth c Q A Sx hK hP hD hS hA ls hl hret
  obtain ⟨hx, hb, hml, hown, hts⟩ := id Sx
  have hl : lv_has ls 2 [(0, .ref (oa 0)), (1, .int k)] := hl
  obtain ⟨H, eH⟩ : ∃ H : Heap, H = H0 := ⟨_, rfl⟩
  obtain ⟨locs, eL⟩ : ∃ L : List Loc, L = [] := ⟨_, rfl⟩
  have hP : va_P D cl (cW oa ca ck F G) H := by rw [eH]; exact hP
  have hS : va_S A H0 H locs := by rw [eH, eL]; exact hS
  rw [show W p l e ({ frames := 4, cells := 0, slots := 0, locals := 90 } : Room) s m args below meth c H0 [] 0 0 Q (F0 m 0 ls []) = W p l e ({ frames := 4, cells := 0, slots := 0, locals := 90 } : Room) s m args below meth c H locs 0 0 Q (F0 m 0 ls []) by rw [eH, eL]]
  clear eH eL
  have f30 := hts _ (List.mem_cons_of_mem _ mfX_30)
  have inX_ : ∀ w ∈ wsX0, w ∈ wsX_at := fun w h => List.mem_cons_of_mem _ (inX_all w h)
  have f171 := hts _ (List.mem_cons_of_mem _ mfX_171)
  have inFr_ : ∀ w ∈ wsFr0, w ∈ wsX_at := fun w h => List.mem_cons_of_mem _ (inFr_all w h)
  have f176 := hts _ (List.mem_cons_of_mem _ mfX_176)
  refine lv_aload_n hx hb dX_at_0 rfl (lv_at hl 0 rfl) ?_
  refine va_get (D := D) (ci := 1) (v := .ref (oa 4)) (C := RX) (T := TX) (N := 6) hx hb hts inX_ hown hK hP 0 rfl hcl.1 2 (by decide) f30 (fun _ h9 => h9) rfl dX_at_1 ?_
  refine ww_callV (r := none) (w' := cW oa ca ck (upd (upd F 4 ((mr_Fr_refresh (F 4) (F 5) (G 8) (G 9) (G 10) (G 11) (G 12) (G 13) nD).1)) 5 ((mr_Fr_refresh (F 4) (F 5) (G 8) (G 9) (G 10) (G 11) (G 12) (G 13) nD).2.1)) (va_up (va_up G 12 ((mr_Fr_refresh (F 4) (F 5) (G 8) (G 9) (G 10) (G 11) (G 12) (G 13) nD).2.2.1)) 13 ((mr_Fr_refresh (F 4) (F 5) (G 8) (G 9) (G 10) (G 11) (G 12) (G 13) nD).2.2.2))) (As := []) (rest := []) Sx (c_Fr_refresh l D cl hcl oa ca ck F G hP (hD.weaken (fun _ _ _ _ => trivial)) nD k1 hN) (cwV 0 hts gX_at_Fr_refresh rfl rfl rfl (by decide +kernel) ⟨Nat.le_of_ble_eq_true rfl, Nat.le_of_ble_eq_true rfl⟩) hK (va_recv hK hP (ci := 5) (q0 := 4) hcl.2.2.2.2.1 rfl) rfl hl.1 rfl (Nat.le_of_ble_eq_true rfl) dX_at_4 ⟨Nat.zero_le _, Nat.zero_le _⟩ hD hS hA (fun H locs hP hD hS => ?_)
  have xs := ix_cl (rf_ok (f4 := F 4) (g13 := G 13) k4 hsz hN : ∃ j : Nat, j < nD + 1 ∧ (mr_Fr_refresh (F 4) (F 5) (G 8) (G 9) (G 10) (G 11) (G 12) (G 13) nD).1 = nI j) (by omega)
  have xs2 := xs.2
  refine lv_iload_n hx hb dX_at_7 rfl (lv_at hl 1 rfl) ?_
  refine lv_if_lt (tgt := 22) hx hb dX_at_8 (by decide) (fun c8 => ?_) (fun c8 => ?_)
  · exact absurd hnx (by rw [mrx_X_at, if_pos c8]; decide)
  · refine lv_iload_n hx hb dX_at_11 rfl (lv_at hl 1 rfl) ?_
    refine lv_aload_n hx hb dX_at_12 rfl (lv_at hl 0 rfl) ?_
    refine va_get (D := D) (ci := 1) (v := .ref (oa 4)) (C := RX) (T := TX) (N := 6) hx hb hts inX_ hown hK hP 0 rfl hcl.1 2 (by decide) f30 (fun _ h9 => h9) rfl dX_at_13 ?_
    have ef16 : (upd (upd F 4 ((mr_Fr_refresh (F 4) (F 5) (G 8) (G 9) (G 10) (G 11) (G 12) (G 13) nD).1)) 5 ((mr_Fr_refresh (F 4) (F 5) (G 8) (G 9) (G 10) (G 11) (G 12) (G 13) nD).2.1)) 4 = (mr_Fr_refresh (F 4) (F 5) (G 8) (G 9) (G 10) (G 11) (G 12) (G 13) nD).1 := by rw [pk_un (k := 5) (j := 4) (by decide), pk_us]
    refine va_get (D := D) (ci := 5) (v := .int ((mr_Fr_refresh (F 4) (F 5) (G 8) (G 9) (G 10) (G 11) (G 12) (G 13) nD).1)) (C := RFr) (T := TFr) (N := 6) hx hb hts inFr_ hown hK hP 4 rfl hcl.2.2.2.2.1 4 (by decide) f171 (fun _ h9 => h9) (congrArg (fun z => some (Value.int z)) ef16) dX_at_16 ?_
    refine wt_i (r := nI (((mr_Fr_refresh (F 4) (F 5) (G 8) (G 9) (G 10) (G 11) (G 12) (G 13) nD).1).toNatClampNeg)) (by exact xs.1) ?_
    refine lv_icmp_lt (tgt := 32) hx hb dX_at_19 (by decide) (fun c19 => ?_) (fun c19 => ?_)
    · have xk := ix_cl (lt_ix c8 c19 (by omega)) (by omega)
      have xk2 := xk.2
      refine lv_aload_n hx hb dX_at_32 rfl (lv_at hl 0 rfl) ?_
      refine va_get (D := D) (ci := 1) (v := .ref (oa 4)) (C := RX) (T := TX) (N := 6) hx hb hts inX_ hown hK hP 0 rfl hcl.1 2 (by decide) f30 (fun _ h9 => h9) rfl dX_at_33 ?_
      refine va_get (D := D) (ci := 5) (v := .ref (ca 12)) (C := RFr) (T := TFr) (N := 6) hx hb hts inFr_ hown hK hP 4 rfl hcl.2.2.2.2.1 2 (by decide) f176 (fun _ h9 => h9) rfl dX_at_36 ?_
      refine lv_iload_n hx hb dX_at_39 rfl (lv_at hl 1 rfl) ?_
      refine wt_i (r := nI (k.toNatClampNeg)) (by exact xk.1) ?_
      have sd40 : (k.toNatClampNeg) < 4096 := by omega
      have eg40 : (va_up (va_up G 12 ((mr_Fr_refresh (F 4) (F 5) (G 8) (G 9) (G 10) (G 11) (G 12) (G 13) nD).2.2.1)) 13 ((mr_Fr_refresh (F 4) (F 5) (G 8) (G 9) (G 10) (G 11) (G 12) (G 13) nD).2.2.2)) 12 = (mr_Fr_refresh (F 4) (F 5) (G 8) (G 9) (G 10) (G 11) (G 12) (G 13) nD).2.2.1 := by rw [vup_un (k := 13) (j := 12) (by decide), vup_us]
      refine wn_iald (f := (mr_Fr_refresh (F 4) (F 5) (G 8) (G 9) (G 10) (G 11) (G 12) (G 13) nD).2.2.1) hx hb hK hP 20 12 (congrArg (fun z : Nat → Int32 => (some ((ca 12), (.inl ((ck 12), 4096, .inl z) : va_E)) : Option (Nat × va_E))) eg40) rfl (k.toNatClampNeg) rfl sd40 (by decide) dX_at_40 ?_
      have em : mr_X_at (F 4) (F 5) (G 8) (G 9) (G 10) (G 11) (G 12) (G 13) nD sz k = (((mr_Fr_refresh (F 4) (F 5) (G 8) (G 9) (G 10) (G 11) (G 12) (G 13) nD).2.2.1) (k.toNatClampNeg), (mr_Fr_refresh (F 4) (F 5) (G 8) (G 9) (G 10) (G 11) (G 12) (G 13) nD).1, (mr_Fr_refresh (F 4) (F 5) (G 8) (G 9) (G 10) (G 11) (G 12) (G 13) nD).2.1, (mr_Fr_refresh (F 4) (F 5) (G 8) (G 9) (G 10) (G 11) (G 12) (G 13) nD).2.2.1, (mr_Fr_refresh (F 4) (F 5) (G 8) (G 9) (G 10) (G 11) (G 12) (G 13) nD).2.2.2) := by rw [mr_X_at, if_neg c8, if_pos c19]
      exact hret _ _ _ _ _ _ (by simp only [em]) (by simp only [em]) hP hD hS dX_at_41
    · exact absurd hnx (by rw [mrx_X_at, if_neg c8, if_neg c19]; decide)
set_option maxHeartbeats 4000000 in
set_option maxRecDepth 100000 in
theorem t_X_at (l : Launch) (hlt : l.stackTraces = false) (Z : State) (hZ : ∀ w ∈ xws ++ sALL, w.before #[] Z = true) (D : va_G) (cl : List vw_C) (hcl : cOK cl) (oa ca : Nat → Nat) (ck : Nat → ClassId) (F : Nat → Int32) (G : Nat → Nat → Int32) {H0 : Heap} (hP : va_P D cl (cW oa ca ck F G) H0) (hD : va_D (fun _ => True) (cW oa ca ck F G)) (hZ0 : Z.heap.size ≤ H0.size) (hZH : ∀ q : Nat, q < Z.heap.size → H0[q]? = Z.heap[q]?) (hZA : ∀ q : Nat, q < Z.heap.size → ¬ va_A (cW oa ca ck F G) H0.size q) (nD : Nat) (sz : Nat) (k : Int32) (k1 : F 1 = nI nD) (hN : nD ≤ 4096) (k4 : F 4 = nI sz) (hsz : sz ≤ nD) (hnx : ¬ mrx_X_at (F 4) (F 5) (G 8) (G 9) (G 10) (G 11) (G 12) (G 13) nD sz k = 0) : tx_Met l yX_at wsX_at ({ frames := 6, cells := 1, slots := 6, locals := 90 } : Room) (tx_P Z D cl (cT ck) H0 [.ref (oa 0), .int k]) (exn (mrx_X_at (F 4) (F 5) (G 8) (G 9) (G 10) (G 11) (G 12) (G 13) nD sz k)) 1 6 (va_A (cW oa ca ck F G) H0.size) (fun H1 => va_P D cl (cW oa ca ck (upd (upd F 4 ((mr_X_at (F 4) (F 5) (G 8) (G 9) (G 10) (G 11) (G 12) (G 13) nD sz k).2.1)) 5 ((mr_X_at (F 4) (F 5) (G 8) (G 9) (G 10) (G 11) (G 12) (G 13) nD sz k).2.2.1)) (va_up (va_up G 12 ((mr_X_at (F 4) (F 5) (G 8) (G 9) (G 10) (G 11) (G 12) (G 13) nD sz k).2.2.2.1)) 13 ((mr_X_at (F 4) (F 5) (G 8) (G 9) (G 10) (G 11) (G 12) (G 13) nD sz k).2.2.2.2))) H1 ∧ va_D (va_A (cW oa ca ck F G) H0.size) (cW oa ca ck (upd (upd F 4 ((mr_X_at (F 4) (F 5) (G 8) (G 9) (G 10) (G 11) (G 12) (G 13) nD sz k).2.1)) 5 ((mr_X_at (F 4) (F 5) (G 8) (G 9) (G 10) (G 11) (G 12) (G 13) nD sz k).2.2.1)) (va_up (va_up G 12 ((mr_X_at (F 4) (F 5) (G 8) (G 9) (G 10) (G 11) (G 12) (G 13) nD sz k).2.2.2.1)) 13 ((mr_X_at (F 4) (F 5) (G 8) (G 9) (G 10) (G 11) (G 12) (G 13) nD sz k).2.2.2.2)))) := by
  refine tx_met (by decide) rfl (Nat.le_of_ble_eq_true rfl) hP hD ?_
  intro p e s m args below meth c Q A hAe hQ Sx hK hZw hlk hno hP hD hS hA ls hl
  obtain ⟨hx, hb, hml, hown, hts⟩ := id Sx
  have hl : lv_has ls 2 [(0, .ref (oa 0)), (1, .int k)] := hl
  obtain ⟨H, eH⟩ : ∃ H : Heap, H = H0 := ⟨_, rfl⟩
  obtain ⟨locs, eL⟩ : ∃ L : List Loc, L = [] := ⟨_, rfl⟩
  have hP : va_P D cl (cW oa ca ck F G) H := by rw [eH]; exact hP
  have hS : va_S A H0 H locs := by rw [eH, eL]; exact hS
  rw [show W p l e ({ frames := 6, cells := 1, slots := 6, locals := 90 } : Room) s m args below meth c H0 [] 0 0 Q (F0 m 0 ls []) = W p l e ({ frames := 6, cells := 1, slots := 6, locals := 90 } : Room) s m args below meth c H locs 0 0 Q (F0 m 0 ls []) by rw [eH, eL]]
  clear eH eL
  have f30 := hts _ (List.mem_cons_of_mem _ mfX_30)
  have inX_ : ∀ w ∈ wsX0, w ∈ wsX_at := fun w h => List.mem_cons_of_mem _ (inX_all w h)
  have wx98 := hts _ (List.mem_cons_of_mem _ mxX_98)
  have wn1 := hts _ (List.mem_cons_of_mem _ mnE_1)
  have wt1 := hts _ (List.mem_cons_of_mem _ mtE_1)
  have f171 := hts _ (List.mem_cons_of_mem _ mfX_171)
  have inFr_ : ∀ w ∈ wsFr0, w ∈ wsX_at := fun w h => List.mem_cons_of_mem _ (inFr_all w h)
  refine lv_aload_n hx hb dX_at_0 rfl (lv_at hl 0 rfl) ?_
  refine va_get (D := D) (ci := 1) (v := .ref (oa 4)) (C := RX) (T := TX) (N := 6) hx hb hts inX_ hown hK hP 0 rfl hcl.1 2 (by decide) f30 (fun _ h9 => h9) rfl dX_at_1 ?_
  refine ww_callV (r := none) (w' := cW oa ca ck (upd (upd F 4 ((mr_Fr_refresh (F 4) (F 5) (G 8) (G 9) (G 10) (G 11) (G 12) (G 13) nD).1)) 5 ((mr_Fr_refresh (F 4) (F 5) (G 8) (G 9) (G 10) (G 11) (G 12) (G 13) nD).2.1)) (va_up (va_up G 12 ((mr_Fr_refresh (F 4) (F 5) (G 8) (G 9) (G 10) (G 11) (G 12) (G 13) nD).2.2.1)) 13 ((mr_Fr_refresh (F 4) (F 5) (G 8) (G 9) (G 10) (G 11) (G 12) (G 13) nD).2.2.2))) (As := []) (rest := []) Sx (c_Fr_refresh l D cl hcl oa ca ck F G hP (hD.weaken (fun _ _ _ _ => trivial)) nD k1 hN) (cwV 0 hts gX_at_Fr_refresh rfl rfl rfl (by decide +kernel) ⟨Nat.le_of_ble_eq_true rfl, Nat.le_of_ble_eq_true rfl⟩) hK (va_recv hK hP (ci := 5) (q0 := 4) hcl.2.2.2.2.1 rfl) rfl hl.1 rfl (Nat.le_of_ble_eq_true rfl) dX_at_4 ⟨Nat.zero_le _, Nat.zero_le _⟩ hD hS hA (fun H locs hP hD hS => ?_)
  have xs := ix_cl (rf_ok (f4 := F 4) (g13 := G 13) k4 hsz hN : ∃ j : Nat, j < nD + 1 ∧ (mr_Fr_refresh (F 4) (F 5) (G 8) (G 9) (G 10) (G 11) (G 12) (G 13) nD).1 = nI j) (by omega)
  have xs2 := xs.2
  refine lv_iload_n hx hb dX_at_7 rfl (lv_at hl 1 rfl) ?_
  refine lv_if_lt (tgt := 22) hx hb dX_at_8 (by decide) (fun c8 => ?_) (fun c8 => ?_)
  · have ex : mrx_X_at (F 4) (F 5) (G 8) (G 9) (G 10) (G 11) (G 12) (G 13) nD sz k = 1 := by rw [mrx_X_at, if_pos c8]
    rw [hQ, ex, exn_1]
    have em : mr_X_at (F 4) (F 5) (G 8) (G 9) (G 10) (G 11) (G 12) (G 13) nD sz k = (0, (mr_Fr_refresh (F 4) (F 5) (G 8) (G 9) (G 10) (G 11) (G 12) (G 13) nD).1, (mr_Fr_refresh (F 4) (F 5) (G 8) (G 9) (G 10) (G 11) (G 12) (G 13) nD).2.1, (mr_Fr_refresh (F 4) (F 5) (G 8) (G 9) (G 10) (G 11) (G 12) (G 13) nD).2.2.1, (mr_Fr_refresh (F 4) (F 5) (G 8) (G 9) (G 10) (G 11) (G 12) (G 13) nD).2.2.2) := by rw [mr_X_at, if_pos c8]
    have hP9 : va_P D cl (cW oa ca ck (upd (upd F 4 ((mr_X_at (F 4) (F 5) (G 8) (G 9) (G 10) (G 11) (G 12) (G 13) nD sz k).2.1)) 5 ((mr_X_at (F 4) (F 5) (G 8) (G 9) (G 10) (G 11) (G 12) (G 13) nD sz k).2.2.1)) (va_up (va_up G 12 ((mr_X_at (F 4) (F 5) (G 8) (G 9) (G 10) (G 11) (G 12) (G 13) nD sz k).2.2.2.1)) 13 ((mr_X_at (F 4) (F 5) (G 8) (G 9) (G 10) (G 11) (G 12) (G 13) nD sz k).2.2.2.2))) H := by simp only [em]; exact hP
    have hD9 : va_D A (cW oa ca ck (upd (upd F 4 ((mr_X_at (F 4) (F 5) (G 8) (G 9) (G 10) (G 11) (G 12) (G 13) nD sz k).2.1)) 5 ((mr_X_at (F 4) (F 5) (G 8) (G 9) (G 10) (G 11) (G 12) (G 13) nD sz k).2.2.1)) (va_up (va_up G 12 ((mr_X_at (F 4) (F 5) (G 8) (G 9) (G 10) (G 11) (G 12) (G 13) nD sz k).2.2.2.1)) 13 ((mr_X_at (F 4) (F 5) (G 8) (G 9) (G 10) (G 11) (G 12) (G 13) nD sz k).2.2.2.2))) := by simp only [em]; exact hD
    exact tx_new (A := A) (i1 := 98) (i2 := 174) (i3 := 102) (own := RX) (up := xup) (tx := strsX_174) hlt hx hb (hml.trans hl.1.symm) hlk (hno _) hown (by decide +kernel) (by decide +kernel) (xo_use xo_1 hts) wt1 wx98 wn1 hZw (fun w9 h9 => hZ w9 (List.mem_append_left _ h9)) (hZ _ (List.mem_append_right _ mrX_174)) (fun q hq => (hS.2.1 q (Nat.lt_of_lt_of_le hq hZ0) (by rw [hAe]; exact hZA q hq)).trans (hZH q hq)) hS.2.2 dX_at_22 dX_at_25 dX_at_26 dX_at_28 dX_at_31 (Nat.le_refl _) (Nat.le_refl _) (by decide) (by decide) rfl rfl (fun H1 h1 h2 => ⟨va_old hP9 h2, by rw [← hAe]; exact hD9⟩)
  · refine lv_iload_n hx hb dX_at_11 rfl (lv_at hl 1 rfl) ?_
    refine lv_aload_n hx hb dX_at_12 rfl (lv_at hl 0 rfl) ?_
    refine va_get (D := D) (ci := 1) (v := .ref (oa 4)) (C := RX) (T := TX) (N := 6) hx hb hts inX_ hown hK hP 0 rfl hcl.1 2 (by decide) f30 (fun _ h9 => h9) rfl dX_at_13 ?_
    have ef16 : (upd (upd F 4 ((mr_Fr_refresh (F 4) (F 5) (G 8) (G 9) (G 10) (G 11) (G 12) (G 13) nD).1)) 5 ((mr_Fr_refresh (F 4) (F 5) (G 8) (G 9) (G 10) (G 11) (G 12) (G 13) nD).2.1)) 4 = (mr_Fr_refresh (F 4) (F 5) (G 8) (G 9) (G 10) (G 11) (G 12) (G 13) nD).1 := by rw [pk_un (k := 5) (j := 4) (by decide), pk_us]
    refine va_get (D := D) (ci := 5) (v := .int ((mr_Fr_refresh (F 4) (F 5) (G 8) (G 9) (G 10) (G 11) (G 12) (G 13) nD).1)) (C := RFr) (T := TFr) (N := 6) hx hb hts inFr_ hown hK hP 4 rfl hcl.2.2.2.2.1 4 (by decide) f171 (fun _ h9 => h9) (congrArg (fun z => some (Value.int z)) ef16) dX_at_16 ?_
    refine wt_i (r := nI (((mr_Fr_refresh (F 4) (F 5) (G 8) (G 9) (G 10) (G 11) (G 12) (G 13) nD).1).toNatClampNeg)) (by exact xs.1) ?_
    refine lv_icmp_lt (tgt := 32) hx hb dX_at_19 (by decide) (fun c19 => ?_) (fun c19 => ?_)
    · have xk := ix_cl (lt_ix c8 c19 (by omega)) (by omega)
      have xk2 := xk.2
      exact absurd (by rw [mrx_X_at, if_neg c8, if_pos c19]) hnx
    · have ex : mrx_X_at (F 4) (F 5) (G 8) (G 9) (G 10) (G 11) (G 12) (G 13) nD sz k = 1 := by rw [mrx_X_at, if_neg c8, if_neg c19]
      rw [hQ, ex, exn_1]
      have em : mr_X_at (F 4) (F 5) (G 8) (G 9) (G 10) (G 11) (G 12) (G 13) nD sz k = (0, (mr_Fr_refresh (F 4) (F 5) (G 8) (G 9) (G 10) (G 11) (G 12) (G 13) nD).1, (mr_Fr_refresh (F 4) (F 5) (G 8) (G 9) (G 10) (G 11) (G 12) (G 13) nD).2.1, (mr_Fr_refresh (F 4) (F 5) (G 8) (G 9) (G 10) (G 11) (G 12) (G 13) nD).2.2.1, (mr_Fr_refresh (F 4) (F 5) (G 8) (G 9) (G 10) (G 11) (G 12) (G 13) nD).2.2.2) := by rw [mr_X_at, if_neg c8, if_neg c19]
      have hP9 : va_P D cl (cW oa ca ck (upd (upd F 4 ((mr_X_at (F 4) (F 5) (G 8) (G 9) (G 10) (G 11) (G 12) (G 13) nD sz k).2.1)) 5 ((mr_X_at (F 4) (F 5) (G 8) (G 9) (G 10) (G 11) (G 12) (G 13) nD sz k).2.2.1)) (va_up (va_up G 12 ((mr_X_at (F 4) (F 5) (G 8) (G 9) (G 10) (G 11) (G 12) (G 13) nD sz k).2.2.2.1)) 13 ((mr_X_at (F 4) (F 5) (G 8) (G 9) (G 10) (G 11) (G 12) (G 13) nD sz k).2.2.2.2))) H := by simp only [em]; exact hP
      have hD9 : va_D A (cW oa ca ck (upd (upd F 4 ((mr_X_at (F 4) (F 5) (G 8) (G 9) (G 10) (G 11) (G 12) (G 13) nD sz k).2.1)) 5 ((mr_X_at (F 4) (F 5) (G 8) (G 9) (G 10) (G 11) (G 12) (G 13) nD sz k).2.2.1)) (va_up (va_up G 12 ((mr_X_at (F 4) (F 5) (G 8) (G 9) (G 10) (G 11) (G 12) (G 13) nD sz k).2.2.2.1)) 13 ((mr_X_at (F 4) (F 5) (G 8) (G 9) (G 10) (G 11) (G 12) (G 13) nD sz k).2.2.2.2))) := by simp only [em]; exact hD
      exact tx_new (A := A) (i1 := 98) (i2 := 174) (i3 := 102) (own := RX) (up := xup) (tx := strsX_174) hlt hx hb (hml.trans hl.1.symm) hlk (hno _) hown (by decide +kernel) (by decide +kernel) (xo_use xo_1 hts) wt1 wx98 wn1 hZw (fun w9 h9 => hZ w9 (List.mem_append_left _ h9)) (hZ _ (List.mem_append_right _ mrX_174)) (fun q hq => (hS.2.1 q (Nat.lt_of_lt_of_le hq hZ0) (by rw [hAe]; exact hZA q hq)).trans (hZH q hq)) hS.2.2 dX_at_22 dX_at_25 dX_at_26 dX_at_28 dX_at_31 (Nat.le_refl _) (Nat.le_refl _) (by decide) (by decide) rfl rfl (fun H1 h1 h2 => ⟨va_old hP9 h2, by rw [← hAe]; exact hD9⟩)
def mr_X_best (f6 : Int32) (f7 : Int32) (f8 : Int32) (g0 : Nat → Int32) (g1 : Nat → Int32) (g2 : Nat → Int32) (g3 : Nat → Int32) (g4 : Nat → Int32) (g5 : Nat → Int32) (g6 : Nat → Int32) (g7 : Nat → Int32) (g8 : Nat → Int32) (g9 : Nat → Int32) (g10 : Nat → Int32) (g14 : Nat → Int32) (nC : Nat) (nD : Nat) (nR : Nat) (nu : Int32) : Int32 × Int32 × Int32 × Int32 × (Nat → Int32) := (if (mr_X_isNumber nu) = 0 then (0, f6, f7, f8, g14) else ((mr_Se_leastOf f6 f8 g0 g1 g2 g3 g4 g5 g6 g7 g8 g9 g10 g14 nC nD nR (nu.toNatClampNeg)).1, (mr_Se_leastOf f6 f8 g0 g1 g2 g3 g4 g5 g6 g7 g8 g9 g10 g14 nC nD nR (nu.toNatClampNeg)).2.1, (mr_Se_leastOf f6 f8 g0 g1 g2 g3 g4 g5 g6 g7 g8 g9 g10 g14 nC nD nR (nu.toNatClampNeg)).2.2.1, (mr_Se_leastOf f6 f8 g0 g1 g2 g3 g4 g5 g6 g7 g8 g9 g10 g14 nC nD nR (nu.toNatClampNeg)).2.2.2.1, (mr_Se_leastOf f6 f8 g0 g1 g2 g3 g4 g5 g6 g7 g8 g9 g10 g14 nC nD nR (nu.toNatClampNeg)).2.2.2.2))
def mrx_X_best (nC : Nat) (nD : Nat) (nR : Nat) (nu : Int32) : Int32 := (if (mr_X_isNumber nu) = 0 then 1 else 0)
set_option maxHeartbeats 4000000 in
set_option maxRecDepth 100000 in
theorem c_X_best (l : Launch) (D : va_G) (cl : List vw_C) (hcl : cOK cl) (oa ca : Nat → Nat) (ck : Nat → ClassId) (F : Nat → Int32) (G : Nat → Nat → Int32) {H0 : Heap} (hP : va_P D cl (cW oa ca ck F G) H0) (hD : va_D (fun _ => True) (cW oa ca ck F G)) (nC : Nat) (nD : Nat) (nR : Nat) (nu : Int32) (k0 : F 0 = nI nC) (hC : nC ≤ 8) (s0 : ∀ c, c < nC → ∃ z : Nat, G 0 c = nI z ∧ 2 ≤ z ∧ z ≤ 6) (s1 : ∀ c, c < nC → G 1 c = nI (pc_ (zg (G 0)) nC c)) (hmp : mp (zg (G 0)) 0 nC = nD) (hN : nD ≤ 4096) (mA : ∀ s, s < 440 → ∃ x : Nat, x < 8 ∧ G 2 s = nI x) (mB : ∀ s, s < 440 → G 4 s = -1 ∨ ∃ x : Nat, x < 8 ∧ G 4 s = nI x) (mQ : ∀ n, n < 4 → ∃ t : Nat, t < 101 ∧ G 6 n = nI t) (k3 : F 3 = nI nR) (hR : nR ≤ 40) (hnx : mrx_X_best nC nD nR nu = 0) : ww_Met l yX_best wsX_best ({ frames := 5, cells := 0, slots := 0, locals := 121 } : Room) D cl (cT ck) H0 [.ref (oa 0), .int nu] (cW oa ca ck F G) (some (.int ((mr_X_best (F 6) (F 7) (F 8) (G 0) (G 1) (G 2) (G 3) (G 4) (G 5) (G 6) (G 7) (G 8) (G 9) (G 10) (G 14) nC nD nR nu).1))) (cW oa ca ck (upd (upd (upd F 6 ((mr_X_best (F 6) (F 7) (F 8) (G 0) (G 1) (G 2) (G 3) (G 4) (G 5) (G 6) (G 7) (G 8) (G 9) (G 10) (G 14) nC nD nR nu).2.1)) 7 ((mr_X_best (F 6) (F 7) (F 8) (G 0) (G 1) (G 2) (G 3) (G 4) (G 5) (G 6) (G 7) (G 8) (G 9) (G 10) (G 14) nC nD nR nu).2.2.1)) 8 ((mr_X_best (F 6) (F 7) (F 8) (G 0) (G 1) (G 2) (G 3) (G 4) (G 5) (G 6) (G 7) (G 8) (G 9) (G 10) (G 14) nC nD nR nu).2.2.2.1)) (va_up G 14 ((mr_X_best (F 6) (F 7) (F 8) (G 0) (G 1) (G 2) (G 3) (G 4) (G 5) (G 6) (G 7) (G 8) (G 9) (G 10) (G 14) nC nD nR nu).2.2.2.2))) := by
  refine ww_metI (by decide) rfl (Nat.le_of_ble_eq_true rfl) hP hD ?_
  intro p e s m args below meth c Q A Sx hK hP hD hS hA ls hl hret
  obtain ⟨hx, hb, hml, hown, hts⟩ := id Sx
  have hl : lv_has ls 2 [(0, .ref (oa 0)), (1, .int nu)] := hl
  obtain ⟨H, eH⟩ : ∃ H : Heap, H = H0 := ⟨_, rfl⟩
  obtain ⟨locs, eL⟩ : ∃ L : List Loc, L = [] := ⟨_, rfl⟩
  have hP : va_P D cl (cW oa ca ck F G) H := by rw [eH]; exact hP
  have hS : va_S A H0 H locs := by rw [eH, eL]; exact hS
  rw [show W p l e ({ frames := 5, cells := 0, slots := 0, locals := 121 } : Room) s m args below meth c H0 [] 0 0 Q (F0 m 0 ls []) = W p l e ({ frames := 5, cells := 0, slots := 0, locals := 121 } : Room) s m args below meth c H locs 0 0 Q (F0 m 0 ls []) by rw [eH, eL]]
  clear eH eL
  have f37 := hts _ (List.mem_cons_of_mem _ mfX_37)
  have inX_ : ∀ w ∈ wsX0, w ∈ wsX_best := fun w h => List.mem_cons_of_mem _ (inX_all w h)
  refine lv_iload_n hx hb dX_best_0 rfl (lv_at hl 1 rfl) ?_
  refine ro_callS (r := (.int (mr_X_isNumber nu))) (As := [.int nu]) (rest := []) Sx (c_X_isNumber l D cl hcl oa ca ck F G hP nu) (va_cwS 1 hts gX_best_X_isNumber rfl rfl rfl (by decide +kernel) ⟨Nat.le_of_ble_eq_true rfl, Nat.le_of_ble_eq_true rfl⟩) hK rfl hl.1 rfl (Nat.le_of_ble_eq_true rfl) dX_best_1 ⟨Nat.zero_le _, Nat.zero_le _⟩ ?_
  refine lv_if_ne (tgt := 17) hx hb dX_best_4 (by decide) (fun c4 => ?_) (fun c4 => ?_)
  · have xn := ix_cl (num_ix c4) (by omega)
    refine lv_aload_n hx hb dX_best_17 rfl (lv_at hl 0 rfl) ?_
    refine va_get (D := D) (ci := 1) (v := .ref (oa 5)) (C := RX) (T := TX) (N := 6) hx hb hts inX_ hown hK hP 0 rfl hcl.1 3 (by decide) f37 (fun _ h9 => h9) rfl dX_best_18 ?_
    refine lv_iload_n hx hb dX_best_21 rfl (lv_at hl 1 rfl) ?_
    refine wt_i (r := nI (nu.toNatClampNeg)) (by exact xn.1) ?_
    refine ww_callV (r := (some (.int ((mr_Se_leastOf (F 6) (F 8) (G 0) (G 1) (G 2) (G 3) (G 4) (G 5) (G 6) (G 7) (G 8) (G 9) (G 10) (G 14) nC nD nR (nu.toNatClampNeg)).1)))) (w' := cW oa ca ck (upd (upd (upd F 6 ((mr_Se_leastOf (F 6) (F 8) (G 0) (G 1) (G 2) (G 3) (G 4) (G 5) (G 6) (G 7) (G 8) (G 9) (G 10) (G 14) nC nD nR (nu.toNatClampNeg)).2.1)) 7 ((mr_Se_leastOf (F 6) (F 8) (G 0) (G 1) (G 2) (G 3) (G 4) (G 5) (G 6) (G 7) (G 8) (G 9) (G 10) (G 14) nC nD nR (nu.toNatClampNeg)).2.2.1)) 8 ((mr_Se_leastOf (F 6) (F 8) (G 0) (G 1) (G 2) (G 3) (G 4) (G 5) (G 6) (G 7) (G 8) (G 9) (G 10) (G 14) nC nD nR (nu.toNatClampNeg)).2.2.2.1)) (va_up G 14 ((mr_Se_leastOf (F 6) (F 8) (G 0) (G 1) (G 2) (G 3) (G 4) (G 5) (G 6) (G 7) (G 8) (G 9) (G 10) (G 14) nC nD nR (nu.toNatClampNeg)).2.2.2.2))) (As := [.int (nI (nu.toNatClampNeg))]) (rest := []) Sx (c_Se_leastOf l D cl hcl oa ca ck F G hP (hD.weaken (fun _ _ _ _ => trivial)) nC nD nR (nu.toNatClampNeg) k0 hC s0 s1 hmp hN mA mB mQ k3 hR xn.2) (cwV 1 hts gX_best_Se_leastOf rfl rfl rfl (by decide +kernel) ⟨Nat.le_of_ble_eq_true rfl, Nat.le_of_ble_eq_true rfl⟩) hK (va_recv hK hP (ci := 6) (q0 := 5) hcl.2.2.2.2.2.1 rfl) rfl hl.1 rfl (Nat.le_of_ble_eq_true rfl) dX_best_22 ⟨Nat.zero_le _, Nat.zero_le _⟩ hD hS hA (fun H locs hP hD hS => ?_)
    have em : mr_X_best (F 6) (F 7) (F 8) (G 0) (G 1) (G 2) (G 3) (G 4) (G 5) (G 6) (G 7) (G 8) (G 9) (G 10) (G 14) nC nD nR nu = ((mr_Se_leastOf (F 6) (F 8) (G 0) (G 1) (G 2) (G 3) (G 4) (G 5) (G 6) (G 7) (G 8) (G 9) (G 10) (G 14) nC nD nR (nu.toNatClampNeg)).1, (mr_Se_leastOf (F 6) (F 8) (G 0) (G 1) (G 2) (G 3) (G 4) (G 5) (G 6) (G 7) (G 8) (G 9) (G 10) (G 14) nC nD nR (nu.toNatClampNeg)).2.1, (mr_Se_leastOf (F 6) (F 8) (G 0) (G 1) (G 2) (G 3) (G 4) (G 5) (G 6) (G 7) (G 8) (G 9) (G 10) (G 14) nC nD nR (nu.toNatClampNeg)).2.2.1, (mr_Se_leastOf (F 6) (F 8) (G 0) (G 1) (G 2) (G 3) (G 4) (G 5) (G 6) (G 7) (G 8) (G 9) (G 10) (G 14) nC nD nR (nu.toNatClampNeg)).2.2.2.1, (mr_Se_leastOf (F 6) (F 8) (G 0) (G 1) (G 2) (G 3) (G 4) (G 5) (G 6) (G 7) (G 8) (G 9) (G 10) (G 14) nC nD nR (nu.toNatClampNeg)).2.2.2.2) := by rw [mr_X_best, if_neg c4]
    exact hret _ _ _ _ _ _ (by simp only [em]) (by simp only [em]) hP hD hS dX_best_25
  · exact absurd hnx (by rw [mrx_X_best, if_pos c4]; decide)
set_option maxHeartbeats 4000000 in
set_option maxRecDepth 100000 in
theorem t_X_best (l : Launch) (hlt : l.stackTraces = false) (Z : State) (hZ : ∀ w ∈ xws ++ sALL, w.before #[] Z = true) (D : va_G) (cl : List vw_C) (hcl : cOK cl) (oa ca : Nat → Nat) (ck : Nat → ClassId) (F : Nat → Int32) (G : Nat → Nat → Int32) {H0 : Heap} (hP : va_P D cl (cW oa ca ck F G) H0) (hD : va_D (fun _ => True) (cW oa ca ck F G)) (hZ0 : Z.heap.size ≤ H0.size) (hZH : ∀ q : Nat, q < Z.heap.size → H0[q]? = Z.heap[q]?) (hZA : ∀ q : Nat, q < Z.heap.size → ¬ va_A (cW oa ca ck F G) H0.size q) (nC : Nat) (nD : Nat) (nR : Nat) (nu : Int32) (k0 : F 0 = nI nC) (hC : nC ≤ 8) (s0 : ∀ c, c < nC → ∃ z : Nat, G 0 c = nI z ∧ 2 ≤ z ∧ z ≤ 6) (s1 : ∀ c, c < nC → G 1 c = nI (pc_ (zg (G 0)) nC c)) (hmp : mp (zg (G 0)) 0 nC = nD) (hN : nD ≤ 4096) (mA : ∀ s, s < 440 → ∃ x : Nat, x < 8 ∧ G 2 s = nI x) (mB : ∀ s, s < 440 → G 4 s = -1 ∨ ∃ x : Nat, x < 8 ∧ G 4 s = nI x) (mQ : ∀ n, n < 4 → ∃ t : Nat, t < 101 ∧ G 6 n = nI t) (k3 : F 3 = nI nR) (hR : nR ≤ 40) (hnx : ¬ mrx_X_best nC nD nR nu = 0) : tx_Met l yX_best wsX_best ({ frames := 6, cells := 1, slots := 6, locals := 121 } : Room) (tx_P Z D cl (cT ck) H0 [.ref (oa 0), .int nu]) (exn (mrx_X_best nC nD nR nu)) 1 6 (va_A (cW oa ca ck F G) H0.size) (fun H1 => va_P D cl (cW oa ca ck (upd (upd (upd F 6 ((mr_X_best (F 6) (F 7) (F 8) (G 0) (G 1) (G 2) (G 3) (G 4) (G 5) (G 6) (G 7) (G 8) (G 9) (G 10) (G 14) nC nD nR nu).2.1)) 7 ((mr_X_best (F 6) (F 7) (F 8) (G 0) (G 1) (G 2) (G 3) (G 4) (G 5) (G 6) (G 7) (G 8) (G 9) (G 10) (G 14) nC nD nR nu).2.2.1)) 8 ((mr_X_best (F 6) (F 7) (F 8) (G 0) (G 1) (G 2) (G 3) (G 4) (G 5) (G 6) (G 7) (G 8) (G 9) (G 10) (G 14) nC nD nR nu).2.2.2.1)) (va_up G 14 ((mr_X_best (F 6) (F 7) (F 8) (G 0) (G 1) (G 2) (G 3) (G 4) (G 5) (G 6) (G 7) (G 8) (G 9) (G 10) (G 14) nC nD nR nu).2.2.2.2))) H1 ∧ va_D (va_A (cW oa ca ck F G) H0.size) (cW oa ca ck (upd (upd (upd F 6 ((mr_X_best (F 6) (F 7) (F 8) (G 0) (G 1) (G 2) (G 3) (G 4) (G 5) (G 6) (G 7) (G 8) (G 9) (G 10) (G 14) nC nD nR nu).2.1)) 7 ((mr_X_best (F 6) (F 7) (F 8) (G 0) (G 1) (G 2) (G 3) (G 4) (G 5) (G 6) (G 7) (G 8) (G 9) (G 10) (G 14) nC nD nR nu).2.2.1)) 8 ((mr_X_best (F 6) (F 7) (F 8) (G 0) (G 1) (G 2) (G 3) (G 4) (G 5) (G 6) (G 7) (G 8) (G 9) (G 10) (G 14) nC nD nR nu).2.2.2.1)) (va_up G 14 ((mr_X_best (F 6) (F 7) (F 8) (G 0) (G 1) (G 2) (G 3) (G 4) (G 5) (G 6) (G 7) (G 8) (G 9) (G 10) (G 14) nC nD nR nu).2.2.2.2)))) := by
  refine tx_met (by decide) rfl (Nat.le_of_ble_eq_true rfl) hP hD ?_
  intro p e s m args below meth c Q A hAe hQ Sx hK hZw hlk hno hP hD hS hA ls hl
  obtain ⟨hx, hb, hml, hown, hts⟩ := id Sx
  have hl : lv_has ls 2 [(0, .ref (oa 0)), (1, .int nu)] := hl
  obtain ⟨H, eH⟩ : ∃ H : Heap, H = H0 := ⟨_, rfl⟩
  obtain ⟨locs, eL⟩ : ∃ L : List Loc, L = [] := ⟨_, rfl⟩
  have hP : va_P D cl (cW oa ca ck F G) H := by rw [eH]; exact hP
  have hS : va_S A H0 H locs := by rw [eH, eL]; exact hS
  rw [show W p l e ({ frames := 6, cells := 1, slots := 6, locals := 121 } : Room) s m args below meth c H0 [] 0 0 Q (F0 m 0 ls []) = W p l e ({ frames := 6, cells := 1, slots := 6, locals := 121 } : Room) s m args below meth c H locs 0 0 Q (F0 m 0 ls []) by rw [eH, eL]]
  clear eH eL
  have wx98 := hts _ (List.mem_cons_of_mem _ mxX_98)
  have wn1 := hts _ (List.mem_cons_of_mem _ mnE_1)
  have wt1 := hts _ (List.mem_cons_of_mem _ mtE_1)
  refine lv_iload_n hx hb dX_best_0 rfl (lv_at hl 1 rfl) ?_
  refine ro_callS (r := (.int (mr_X_isNumber nu))) (As := [.int nu]) (rest := []) Sx (c_X_isNumber l D cl hcl oa ca ck F G hP nu) (va_cwS 1 hts gX_best_X_isNumber rfl rfl rfl (by decide +kernel) ⟨Nat.le_of_ble_eq_true rfl, Nat.le_of_ble_eq_true rfl⟩) hK rfl hl.1 rfl (Nat.le_of_ble_eq_true rfl) dX_best_1 ⟨Nat.zero_le _, Nat.zero_le _⟩ ?_
  refine lv_if_ne (tgt := 17) hx hb dX_best_4 (by decide) (fun c4 => ?_) (fun c4 => ?_)
  · have xn := ix_cl (num_ix c4) (by omega)
    exact absurd (by rw [mrx_X_best, if_neg c4]) hnx
  · have ex : mrx_X_best nC nD nR nu = 1 := by rw [mrx_X_best, if_pos c4]
    rw [hQ, ex, exn_1]
    have em : mr_X_best (F 6) (F 7) (F 8) (G 0) (G 1) (G 2) (G 3) (G 4) (G 5) (G 6) (G 7) (G 8) (G 9) (G 10) (G 14) nC nD nR nu = (0, F 6, F 7, F 8, G 14) := by rw [mr_X_best, if_pos c4]
    have hP9 : va_P D cl (cW oa ca ck (upd (upd (upd F 6 ((mr_X_best (F 6) (F 7) (F 8) (G 0) (G 1) (G 2) (G 3) (G 4) (G 5) (G 6) (G 7) (G 8) (G 9) (G 10) (G 14) nC nD nR nu).2.1)) 7 ((mr_X_best (F 6) (F 7) (F 8) (G 0) (G 1) (G 2) (G 3) (G 4) (G 5) (G 6) (G 7) (G 8) (G 9) (G 10) (G 14) nC nD nR nu).2.2.1)) 8 ((mr_X_best (F 6) (F 7) (F 8) (G 0) (G 1) (G 2) (G 3) (G 4) (G 5) (G 6) (G 7) (G 8) (G 9) (G 10) (G 14) nC nD nR nu).2.2.2.1)) (va_up G 14 ((mr_X_best (F 6) (F 7) (F 8) (G 0) (G 1) (G 2) (G 3) (G 4) (G 5) (G 6) (G 7) (G 8) (G 9) (G 10) (G 14) nC nD nR nu).2.2.2.2))) H := by simp only [em]; rw [upd_keep (f := F) (j := 6) (x := F 6) rfl, upd_keep (f := F) (j := 7) (x := F 7) rfl, upd_keep (f := F) (j := 8) (x := F 8) rfl, vup_keep (f := G) (j := 14) (x := G 14) rfl]; exact hP
    have hD9 : va_D A (cW oa ca ck (upd (upd (upd F 6 ((mr_X_best (F 6) (F 7) (F 8) (G 0) (G 1) (G 2) (G 3) (G 4) (G 5) (G 6) (G 7) (G 8) (G 9) (G 10) (G 14) nC nD nR nu).2.1)) 7 ((mr_X_best (F 6) (F 7) (F 8) (G 0) (G 1) (G 2) (G 3) (G 4) (G 5) (G 6) (G 7) (G 8) (G 9) (G 10) (G 14) nC nD nR nu).2.2.1)) 8 ((mr_X_best (F 6) (F 7) (F 8) (G 0) (G 1) (G 2) (G 3) (G 4) (G 5) (G 6) (G 7) (G 8) (G 9) (G 10) (G 14) nC nD nR nu).2.2.2.1)) (va_up G 14 ((mr_X_best (F 6) (F 7) (F 8) (G 0) (G 1) (G 2) (G 3) (G 4) (G 5) (G 6) (G 7) (G 8) (G 9) (G 10) (G 14) nC nD nR nu).2.2.2.2))) := by simp only [em]; rw [upd_keep (f := F) (j := 6) (x := F 6) rfl, upd_keep (f := F) (j := 7) (x := F 7) rfl, upd_keep (f := F) (j := 8) (x := F 8) rfl, vup_keep (f := G) (j := 14) (x := G 14) rfl]; exact hD
    exact tx_new (A := A) (i1 := 98) (i2 := 129) (i3 := 102) (own := RX) (up := xup) (tx := strsX_129) hlt hx hb (hml.trans hl.1.symm) hlk (hno _) hown (by decide +kernel) (by decide +kernel) (xo_use xo_1 hts) wt1 wx98 wn1 hZw (fun w9 h9 => hZ w9 (List.mem_append_left _ h9)) (hZ _ (List.mem_append_right _ mrX_129)) (fun q hq => (hS.2.1 q (Nat.lt_of_lt_of_le hq hZ0) (by rw [hAe]; exact hZA q hq)).trans (hZH q hq)) hS.2.2 dX_best_7 dX_best_10 dX_best_11 dX_best_13 dX_best_16 (Nat.le_refl _) (Nat.le_refl _) (by decide) (by decide) rfl rfl (fun H1 h1 h2 => ⟨va_old hP9 h2, by rw [← hAe]; exact hD9⟩)
def mr_X_looked (f6 : Int32) : Int32 := f6
set_option maxHeartbeats 4000000 in
set_option maxRecDepth 100000 in
theorem c_X_looked (l : Launch) (D : va_G) (cl : List vw_C) (hcl : cOK cl) (oa ca : Nat → Nat) (ck : Nat → ClassId) (F : Nat → Int32) (G : Nat → Nat → Int32) {H : Heap} (hP : va_P D cl (cW oa ca ck F G) H) : ro_Met l yX_looked wsX_looked ({ frames := 0, cells := 0, slots := 0, locals := 0 } : Room) D cl (cT ck) H [.ref (oa 0)] (.int (mr_X_looked (F 6))) := by
  refine ro_metI (by decide) rfl (Nat.le_of_ble_eq_true rfl) ?_
  intro p e s m args below meth c Q Sx hK ls hl hret
  obtain ⟨hx, hb, hml, hown, hts⟩ := id Sx
  have hl : lv_has ls 1 [(0, .ref (oa 0))] := hl
  have f37 := hts _ (List.mem_cons_of_mem _ mfX_37)
  have inX_ : ∀ w ∈ wsX0, w ∈ wsX_looked := fun w h => List.mem_cons_of_mem _ (inX_all w h)
  have f183 := hts _ (List.mem_cons_of_mem _ mfX_183)
  have inSe_ : ∀ w ∈ wsSe0, w ∈ wsX_looked := fun w h => List.mem_cons_of_mem _ (inSe_all w h)
  refine lv_aload_n hx hb dX_looked_0 rfl (lv_at hl 0 rfl) ?_
  refine va_get (D := D) (ci := 1) (v := .ref (oa 5)) (C := RX) (T := TX) (N := 6) hx hb hts inX_ hown hK hP 0 rfl hcl.1 3 (by decide) f37 (fun _ h9 => h9) rfl dX_looked_1 ?_
  refine va_get (D := D) (ci := 6) (v := .int (F 6)) (C := RSe) (T := TSe) (N := 6) hx hb hts inSe_ hown hK hP 5 rfl hcl.2.2.2.2.2.1 3 (by decide) f183 (fun _ h9 => h9) rfl dX_looked_4 ?_
  exact hret _ _ _ (by rw [mr_X_looked]) dX_looked_7
def mr_X_lowest (f11 : Int32) : Int32 := f11
set_option maxHeartbeats 4000000 in
set_option maxRecDepth 100000 in
theorem c_X_lowest (l : Launch) (D : va_G) (cl : List vw_C) (hcl : cOK cl) (oa ca : Nat → Nat) (ck : Nat → ClassId) (F : Nat → Int32) (G : Nat → Nat → Int32) {H : Heap} (hP : va_P D cl (cW oa ca ck F G) H) : ro_Met l yX_lowest wsX_lowest ({ frames := 0, cells := 0, slots := 0, locals := 0 } : Room) D cl (cT ck) H [.ref (oa 0)] (.int (mr_X_lowest (F 11))) := by
  refine ro_metI (by decide) rfl (Nat.le_of_ble_eq_true rfl) ?_
  intro p e s m args below meth c Q Sx hK ls hl hret
  obtain ⟨hx, hb, hml, hown, hts⟩ := id Sx
  have hl : lv_has ls 1 [(0, .ref (oa 0))] := hl
  have f47 := hts _ (List.mem_cons_of_mem _ mfX_47)
  have inX_ : ∀ w ∈ wsX0, w ∈ wsX_lowest := fun w h => List.mem_cons_of_mem _ (inX_all w h)
  have f216 := hts _ (List.mem_cons_of_mem _ mfX_216)
  have inWa_ : ∀ w ∈ wsWa0, w ∈ wsX_lowest := fun w h => List.mem_cons_of_mem _ (inWa_all w h)
  refine lv_aload_n hx hb dX_lowest_0 rfl (lv_at hl 0 rfl) ?_
  refine va_get (D := D) (ci := 1) (v := .ref (oa 6)) (C := RX) (T := TX) (N := 6) hx hb hts inX_ hown hK hP 0 rfl hcl.1 4 (by decide) f47 (fun _ h9 => h9) rfl dX_lowest_1 ?_
  refine va_get (D := D) (ci := 7) (v := .int (F 11)) (C := RWa) (T := TWa) (N := 6) hx hb hts inWa_ hown hK hP 6 rfl hcl.2.2.2.2.2.2.1 4 (by decide) f216 (fun _ h9 => h9) rfl dX_lowest_4 ?_
  exact hret _ _ _ (by rw [mr_X_lowest]) dX_lowest_7
def mr_X_bound (g0 : Nat → Int32) (g1 : Nat → Int32) (g2 : Nat → Int32) (g3 : Nat → Int32) (g4 : Nat → Int32) (g5 : Nat → Int32) (g6 : Nat → Int32) (g7 : Nat → Int32) (g14 : Nat → Int32) (nC : Nat) (nD : Nat) (nu : Int32) (d : Int32) (sx : Int32) : Int32 × (Nat → Int32) := (if (mr_X_isNumber nu) = 0 then (0, g14) else (if (mr_Sh_hasDesign nD d) = 0 then (0, g14) else (if sx < 0 then (0, g14) else (if sx ≤ (nI nC) then ((mr_Se_boundFor g0 g1 g2 g3 g4 g5 g6 g7 g14 (nu.toNatClampNeg) (sx.toNatClampNeg) d).1, (mr_Se_boundFor g0 g1 g2 g3 g4 g5 g6 g7 g14 (nu.toNatClampNeg) (sx.toNatClampNeg) d).2) else (0, g14)))))
def mrx_X_bound (nC : Nat) (nD : Nat) (nu : Int32) (d : Int32) (sx : Int32) : Int32 := (if (mr_X_isNumber nu) = 0 then 1 else (if (mr_Sh_hasDesign nD d) = 0 then 1 else (if sx < 0 then 1 else (if sx ≤ (nI nC) then 0 else 1))))
set_option maxHeartbeats 4000000 in
set_option maxRecDepth 100000 in
theorem c_X_bound (l : Launch) (D : va_G) (cl : List vw_C) (hcl : cOK cl) (oa ca : Nat → Nat) (ck : Nat → ClassId) (F : Nat → Int32) (G : Nat → Nat → Int32) {H0 : Heap} (hP : va_P D cl (cW oa ca ck F G) H0) (hD : va_D (fun _ => True) (cW oa ca ck F G)) (nC : Nat) (nD : Nat) (nu : Int32) (d : Int32) (sx : Int32) (k0 : F 0 = nI nC) (hC : nC ≤ 8) (k1 : F 1 = nI nD) (hN : nD ≤ 4096) (mA : ∀ s, s < 440 → ∃ x : Nat, x < 8 ∧ G 2 s = nI x) (mB : ∀ s, s < 440 → G 4 s = -1 ∨ ∃ x : Nat, x < 8 ∧ G 4 s = nI x) (mQ : ∀ n, n < 4 → ∃ t : Nat, t < 101 ∧ G 6 n = nI t) (hnx : mrx_X_bound nC nD nu d sx = 0) : ww_Met l yX_bound wsX_bound ({ frames := 3, cells := 0, slots := 0, locals := 76 } : Room) D cl (cT ck) H0 [.ref (oa 0), .int nu, .int d, .int sx] (cW oa ca ck F G) (some (.int ((mr_X_bound (G 0) (G 1) (G 2) (G 3) (G 4) (G 5) (G 6) (G 7) (G 14) nC nD nu d sx).1))) (cW oa ca ck F (va_up G 14 ((mr_X_bound (G 0) (G 1) (G 2) (G 3) (G 4) (G 5) (G 6) (G 7) (G 14) nC nD nu d sx).2))) := by
  refine ww_metI (by decide) rfl (Nat.le_of_ble_eq_true rfl) hP hD ?_
  intro p e s m args below meth c Q A Sx hK hP hD hS hA ls hl hret
  obtain ⟨hx, hb, hml, hown, hts⟩ := id Sx
  have hl : lv_has ls 4 [(0, .ref (oa 0)), (1, .int nu), (2, .int d), (3, .int sx)] := hl
  obtain ⟨H, eH⟩ : ∃ H : Heap, H = H0 := ⟨_, rfl⟩
  obtain ⟨locs, eL⟩ : ∃ L : List Loc, L = [] := ⟨_, rfl⟩
  have hP : va_P D cl (cW oa ca ck F G) H := by rw [eH]; exact hP
  have hS : va_S A H0 H locs := by rw [eH, eL]; exact hS
  rw [show W p l e ({ frames := 3, cells := 0, slots := 0, locals := 76 } : Room) s m args below meth c H0 [] 0 0 Q (F0 m 0 ls []) = W p l e ({ frames := 3, cells := 0, slots := 0, locals := 76 } : Room) s m args below meth c H locs 0 0 Q (F0 m 0 ls []) by rw [eH, eL]]
  clear eH eL
  have f12 := hts _ (List.mem_cons_of_mem _ mfX_12)
  have inX_ : ∀ w ∈ wsX0, w ∈ wsX_bound := fun w h => List.mem_cons_of_mem _ (inX_all w h)
  have f87 := hts _ (List.mem_cons_of_mem _ mfX_87)
  have inSh_ : ∀ w ∈ wsSh0, w ∈ wsX_bound := fun w h => List.mem_cons_of_mem _ (inSh_all w h)
  have f37 := hts _ (List.mem_cons_of_mem _ mfX_37)
  refine lv_iload_n hx hb dX_bound_0 rfl (lv_at hl 1 rfl) ?_
  refine ro_callS (r := (.int (mr_X_isNumber nu))) (As := [.int nu]) (rest := []) Sx (c_X_isNumber l D cl hcl oa ca ck F G hP nu) (va_cwS 1 hts gX_bound_X_isNumber rfl rfl rfl (by decide +kernel) ⟨Nat.le_of_ble_eq_true rfl, Nat.le_of_ble_eq_true rfl⟩) hK rfl hl.1 rfl (Nat.le_of_ble_eq_true rfl) dX_bound_1 ⟨Nat.zero_le _, Nat.zero_le _⟩ ?_
  refine lv_if_eq (tgt := 33) hx hb dX_bound_4 (by decide) (fun c4 => ?_) (fun c4 => ?_)
  · exact absurd hnx (by rw [mrx_X_bound, if_pos c4]; decide)
  · have xn := ix_cl (num_ix c4) (by omega)
    refine lv_aload_n hx hb dX_bound_7 rfl (lv_at hl 0 rfl) ?_
    refine va_get (D := D) (ci := 1) (v := .ref (oa 1)) (C := RX) (T := TX) (N := 6) hx hb hts inX_ hown hK hP 0 rfl hcl.1 0 (by decide) f12 (fun _ h9 => h9) rfl dX_bound_8 ?_
    refine lv_iload_n hx hb dX_bound_11 rfl (lv_at hl 2 rfl) ?_
    refine ro_callV (r := (.int (mr_Sh_hasDesign nD d))) (As := [.int d]) (rest := []) Sx (c_Sh_hasDesign l D cl hcl oa ca ck F G hP nD d k1) (cwV 1 hts gX_bound_Sh_hasDesign rfl rfl rfl (by decide +kernel) ⟨Nat.le_of_ble_eq_true rfl, Nat.le_of_ble_eq_true rfl⟩) hK (va_recv hK hP (ci := 2) (q0 := 1) hcl.2.1 rfl) rfl hl.1 rfl (Nat.le_of_ble_eq_true rfl) dX_bound_12 ⟨Nat.zero_le _, Nat.zero_le _⟩ ?_
    refine lv_if_eq (tgt := 33) hx hb dX_bound_15 (by decide) (fun c15 => ?_) (fun c15 => ?_)
    · exact absurd hnx (by rw [mrx_X_bound, if_neg c4, if_pos c15]; decide)
    · refine lv_iload_n hx hb dX_bound_18 rfl (lv_at hl 3 rfl) ?_
      refine lv_if_lt (tgt := 33) hx hb dX_bound_19 (by decide) (fun c19 => ?_) (fun c19 => ?_)
      · exact absurd hnx (by rw [mrx_X_bound, if_neg c4, if_neg c15, if_pos c19]; decide)
      · refine lv_iload_n hx hb dX_bound_22 rfl (lv_at hl 3 rfl) ?_
        refine lv_aload_n hx hb dX_bound_23 rfl (lv_at hl 0 rfl) ?_
        refine va_get (D := D) (ci := 1) (v := .ref (oa 1)) (C := RX) (T := TX) (N := 6) hx hb hts inX_ hown hK hP 0 rfl hcl.1 0 (by decide) f12 (fun _ h9 => h9) rfl dX_bound_24 ?_
        refine va_get (D := D) (ci := 2) (v := .int (F 0)) (C := RSh) (T := TSh) (N := 4) hx hb hts inSh_ hown hK hP 1 rfl hcl.2.1 2 (by decide) f87 (fun _ h9 => h9) rfl dX_bound_27 ?_
        refine wt_i k0 ?_
        refine lv_icmp_le (tgt := 43) hx hb dX_bound_30 (by decide) (fun c30 => ?_) (fun c30 => ?_)
        · have xs := ix_cl (le_ix c19 c30 (by omega)) (by omega)
          have xs2 := xs.2
          refine lv_aload_n hx hb dX_bound_43 rfl (lv_at hl 0 rfl) ?_
          refine va_get (D := D) (ci := 1) (v := .ref (oa 5)) (C := RX) (T := TX) (N := 6) hx hb hts inX_ hown hK hP 0 rfl hcl.1 3 (by decide) f37 (fun _ h9 => h9) rfl dX_bound_44 ?_
          refine lv_iload_n hx hb dX_bound_47 rfl (lv_at hl 1 rfl) ?_
          refine wt_i (r := nI (nu.toNatClampNeg)) (by exact xn.1) ?_
          refine lv_iload_n hx hb dX_bound_48 rfl (lv_at hl 2 rfl) ?_
          refine lv_iload_n hx hb dX_bound_49 rfl (lv_at hl 3 rfl) ?_
          refine wt_i (r := nI (sx.toNatClampNeg)) (by exact xs.1) ?_
          refine ww_callV (r := (some (.int ((mr_Se_boundFor (G 0) (G 1) (G 2) (G 3) (G 4) (G 5) (G 6) (G 7) (G 14) (nu.toNatClampNeg) (sx.toNatClampNeg) d).1)))) (w' := cW oa ca ck F (va_up G 14 ((mr_Se_boundFor (G 0) (G 1) (G 2) (G 3) (G 4) (G 5) (G 6) (G 7) (G 14) (nu.toNatClampNeg) (sx.toNatClampNeg) d).2))) (As := [.int (nI (nu.toNatClampNeg)), .int d, .int (nI (sx.toNatClampNeg))]) (rest := []) Sx (c_Se_boundFor l D cl hcl oa ca ck F G hP (hD.weaken (fun _ _ _ _ => trivial)) (nu.toNatClampNeg) (sx.toNatClampNeg) d mA mB xn.2 (by omega) (mQ _ xn.2)) (cwV 3 hts gX_bound_Se_boundFor rfl rfl rfl (by decide +kernel) ⟨Nat.le_of_ble_eq_true rfl, Nat.le_of_ble_eq_true rfl⟩) hK (va_recv hK hP (ci := 6) (q0 := 5) hcl.2.2.2.2.2.1 rfl) rfl hl.1 rfl (Nat.le_of_ble_eq_true rfl) dX_bound_50 ⟨Nat.zero_le _, Nat.zero_le _⟩ hD hS hA (fun H locs hP hD hS => ?_)
          have em : mr_X_bound (G 0) (G 1) (G 2) (G 3) (G 4) (G 5) (G 6) (G 7) (G 14) nC nD nu d sx = ((mr_Se_boundFor (G 0) (G 1) (G 2) (G 3) (G 4) (G 5) (G 6) (G 7) (G 14) (nu.toNatClampNeg) (sx.toNatClampNeg) d).1, (mr_Se_boundFor (G 0) (G 1) (G 2) (G 3) (G 4) (G 5) (G 6) (G 7) (G 14) (nu.toNatClampNeg) (sx.toNatClampNeg) d).2) := by rw [mr_X_bound, if_neg c4, if_neg c15, if_neg c19, if_pos c30]
          exact hret _ _ _ _ _ _ (by simp only [em]) (by simp only [em]) hP hD hS dX_bound_53
        · exact absurd hnx (by rw [mrx_X_bound, if_neg c4, if_neg c15, if_neg c19, if_neg c30]; decide)
set_option maxHeartbeats 4000000 in
set_option maxRecDepth 100000 in
theorem t_X_bound (l : Launch) (hlt : l.stackTraces = false) (Z : State) (hZ : ∀ w ∈ xws ++ sALL, w.before #[] Z = true) (D : va_G) (cl : List vw_C) (hcl : cOK cl) (oa ca : Nat → Nat) (ck : Nat → ClassId) (F : Nat → Int32) (G : Nat → Nat → Int32) {H0 : Heap} (hP : va_P D cl (cW oa ca ck F G) H0) (hD : va_D (fun _ => True) (cW oa ca ck F G)) (hZ0 : Z.heap.size ≤ H0.size) (hZH : ∀ q : Nat, q < Z.heap.size → H0[q]? = Z.heap[q]?) (hZA : ∀ q : Nat, q < Z.heap.size → ¬ va_A (cW oa ca ck F G) H0.size q) (nC : Nat) (nD : Nat) (nu : Int32) (d : Int32) (sx : Int32) (k0 : F 0 = nI nC) (hC : nC ≤ 8) (k1 : F 1 = nI nD) (hN : nD ≤ 4096) (mA : ∀ s, s < 440 → ∃ x : Nat, x < 8 ∧ G 2 s = nI x) (mB : ∀ s, s < 440 → G 4 s = -1 ∨ ∃ x : Nat, x < 8 ∧ G 4 s = nI x) (mQ : ∀ n, n < 4 → ∃ t : Nat, t < 101 ∧ G 6 n = nI t) (hnx : ¬ mrx_X_bound nC nD nu d sx = 0) : tx_Met l yX_bound wsX_bound ({ frames := 6, cells := 1, slots := 6, locals := 82 } : Room) (tx_P Z D cl (cT ck) H0 [.ref (oa 0), .int nu, .int d, .int sx]) (exn (mrx_X_bound nC nD nu d sx)) 1 6 (va_A (cW oa ca ck F G) H0.size) (fun H1 => va_P D cl (cW oa ca ck F (va_up G 14 ((mr_X_bound (G 0) (G 1) (G 2) (G 3) (G 4) (G 5) (G 6) (G 7) (G 14) nC nD nu d sx).2))) H1 ∧ va_D (va_A (cW oa ca ck F G) H0.size) (cW oa ca ck F (va_up G 14 ((mr_X_bound (G 0) (G 1) (G 2) (G 3) (G 4) (G 5) (G 6) (G 7) (G 14) nC nD nu d sx).2)))) := by
  refine tx_met (by decide) rfl (Nat.le_of_ble_eq_true rfl) hP hD ?_
  intro p e s m args below meth c Q A hAe hQ Sx hK hZw hlk hno hP hD hS hA ls hl
  obtain ⟨hx, hb, hml, hown, hts⟩ := id Sx
  have hl : lv_has ls 4 [(0, .ref (oa 0)), (1, .int nu), (2, .int d), (3, .int sx)] := hl
  obtain ⟨H, eH⟩ : ∃ H : Heap, H = H0 := ⟨_, rfl⟩
  obtain ⟨locs, eL⟩ : ∃ L : List Loc, L = [] := ⟨_, rfl⟩
  have hP : va_P D cl (cW oa ca ck F G) H := by rw [eH]; exact hP
  have hS : va_S A H0 H locs := by rw [eH, eL]; exact hS
  rw [show W p l e ({ frames := 6, cells := 1, slots := 6, locals := 82 } : Room) s m args below meth c H0 [] 0 0 Q (F0 m 0 ls []) = W p l e ({ frames := 6, cells := 1, slots := 6, locals := 82 } : Room) s m args below meth c H locs 0 0 Q (F0 m 0 ls []) by rw [eH, eL]]
  clear eH eL
  have wx98 := hts _ (List.mem_cons_of_mem _ mxX_98)
  have wn1 := hts _ (List.mem_cons_of_mem _ mnE_1)
  have wt1 := hts _ (List.mem_cons_of_mem _ mtE_1)
  have f12 := hts _ (List.mem_cons_of_mem _ mfX_12)
  have inX_ : ∀ w ∈ wsX0, w ∈ wsX_bound := fun w h => List.mem_cons_of_mem _ (inX_all w h)
  have f87 := hts _ (List.mem_cons_of_mem _ mfX_87)
  have inSh_ : ∀ w ∈ wsSh0, w ∈ wsX_bound := fun w h => List.mem_cons_of_mem _ (inSh_all w h)
  refine lv_iload_n hx hb dX_bound_0 rfl (lv_at hl 1 rfl) ?_
  refine ro_callS (r := (.int (mr_X_isNumber nu))) (As := [.int nu]) (rest := []) Sx (c_X_isNumber l D cl hcl oa ca ck F G hP nu) (va_cwS 1 hts gX_bound_X_isNumber rfl rfl rfl (by decide +kernel) ⟨Nat.le_of_ble_eq_true rfl, Nat.le_of_ble_eq_true rfl⟩) hK rfl hl.1 rfl (Nat.le_of_ble_eq_true rfl) dX_bound_1 ⟨Nat.zero_le _, Nat.zero_le _⟩ ?_
  refine lv_if_eq (tgt := 33) hx hb dX_bound_4 (by decide) (fun c4 => ?_) (fun c4 => ?_)
  · have ex : mrx_X_bound nC nD nu d sx = 1 := by rw [mrx_X_bound, if_pos c4]
    rw [hQ, ex, exn_1]
    have em : mr_X_bound (G 0) (G 1) (G 2) (G 3) (G 4) (G 5) (G 6) (G 7) (G 14) nC nD nu d sx = (0, G 14) := by rw [mr_X_bound, if_pos c4]
    have hP9 : va_P D cl (cW oa ca ck F (va_up G 14 ((mr_X_bound (G 0) (G 1) (G 2) (G 3) (G 4) (G 5) (G 6) (G 7) (G 14) nC nD nu d sx).2))) H := by simp only [em]; rw [vup_keep (f := G) (j := 14) (x := G 14) rfl]; exact hP
    have hD9 : va_D A (cW oa ca ck F (va_up G 14 ((mr_X_bound (G 0) (G 1) (G 2) (G 3) (G 4) (G 5) (G 6) (G 7) (G 14) nC nD nu d sx).2))) := by simp only [em]; rw [vup_keep (f := G) (j := 14) (x := G 14) rfl]; exact hD
    exact tx_new (A := A) (i1 := 98) (i2 := 186) (i3 := 102) (own := RX) (up := xup) (tx := strsX_186) hlt hx hb (hml.trans hl.1.symm) hlk (hno _) hown (by decide +kernel) (by decide +kernel) (xo_use xo_1 hts) wt1 wx98 wn1 hZw (fun w9 h9 => hZ w9 (List.mem_append_left _ h9)) (hZ _ (List.mem_append_right _ mrX_186)) (fun q hq => (hS.2.1 q (Nat.lt_of_lt_of_le hq hZ0) (by rw [hAe]; exact hZA q hq)).trans (hZH q hq)) hS.2.2 dX_bound_33 dX_bound_36 dX_bound_37 dX_bound_39 dX_bound_42 (Nat.le_refl _) (Nat.le_refl _) (by decide) (by decide) rfl rfl (fun H1 h1 h2 => ⟨va_old hP9 h2, by rw [← hAe]; exact hD9⟩)
  · have xn := ix_cl (num_ix c4) (by omega)
    refine lv_aload_n hx hb dX_bound_7 rfl (lv_at hl 0 rfl) ?_
    refine va_get (D := D) (ci := 1) (v := .ref (oa 1)) (C := RX) (T := TX) (N := 6) hx hb hts inX_ hown hK hP 0 rfl hcl.1 0 (by decide) f12 (fun _ h9 => h9) rfl dX_bound_8 ?_
    refine lv_iload_n hx hb dX_bound_11 rfl (lv_at hl 2 rfl) ?_
    refine ro_callV (r := (.int (mr_Sh_hasDesign nD d))) (As := [.int d]) (rest := []) Sx (c_Sh_hasDesign l D cl hcl oa ca ck F G hP nD d k1) (cwV 1 hts gX_bound_Sh_hasDesign rfl rfl rfl (by decide +kernel) ⟨Nat.le_of_ble_eq_true rfl, Nat.le_of_ble_eq_true rfl⟩) hK (va_recv hK hP (ci := 2) (q0 := 1) hcl.2.1 rfl) rfl hl.1 rfl (Nat.le_of_ble_eq_true rfl) dX_bound_12 ⟨Nat.zero_le _, Nat.zero_le _⟩ ?_
    refine lv_if_eq (tgt := 33) hx hb dX_bound_15 (by decide) (fun c15 => ?_) (fun c15 => ?_)
    · have ex : mrx_X_bound nC nD nu d sx = 1 := by rw [mrx_X_bound, if_neg c4, if_pos c15]
      rw [hQ, ex, exn_1]
      have em : mr_X_bound (G 0) (G 1) (G 2) (G 3) (G 4) (G 5) (G 6) (G 7) (G 14) nC nD nu d sx = (0, G 14) := by rw [mr_X_bound, if_neg c4, if_pos c15]
      have hP9 : va_P D cl (cW oa ca ck F (va_up G 14 ((mr_X_bound (G 0) (G 1) (G 2) (G 3) (G 4) (G 5) (G 6) (G 7) (G 14) nC nD nu d sx).2))) H := by simp only [em]; rw [vup_keep (f := G) (j := 14) (x := G 14) rfl]; exact hP
      have hD9 : va_D A (cW oa ca ck F (va_up G 14 ((mr_X_bound (G 0) (G 1) (G 2) (G 3) (G 4) (G 5) (G 6) (G 7) (G 14) nC nD nu d sx).2))) := by simp only [em]; rw [vup_keep (f := G) (j := 14) (x := G 14) rfl]; exact hD
      exact tx_new (A := A) (i1 := 98) (i2 := 186) (i3 := 102) (own := RX) (up := xup) (tx := strsX_186) hlt hx hb (hml.trans hl.1.symm) hlk (hno _) hown (by decide +kernel) (by decide +kernel) (xo_use xo_1 hts) wt1 wx98 wn1 hZw (fun w9 h9 => hZ w9 (List.mem_append_left _ h9)) (hZ _ (List.mem_append_right _ mrX_186)) (fun q hq => (hS.2.1 q (Nat.lt_of_lt_of_le hq hZ0) (by rw [hAe]; exact hZA q hq)).trans (hZH q hq)) hS.2.2 dX_bound_33 dX_bound_36 dX_bound_37 dX_bound_39 dX_bound_42 (Nat.le_refl _) (Nat.le_refl _) (by decide) (by decide) rfl rfl (fun H1 h1 h2 => ⟨va_old hP9 h2, by rw [← hAe]; exact hD9⟩)
    · refine lv_iload_n hx hb dX_bound_18 rfl (lv_at hl 3 rfl) ?_
      refine lv_if_lt (tgt := 33) hx hb dX_bound_19 (by decide) (fun c19 => ?_) (fun c19 => ?_)
      · have ex : mrx_X_bound nC nD nu d sx = 1 := by rw [mrx_X_bound, if_neg c4, if_neg c15, if_pos c19]
        rw [hQ, ex, exn_1]
        have em : mr_X_bound (G 0) (G 1) (G 2) (G 3) (G 4) (G 5) (G 6) (G 7) (G 14) nC nD nu d sx = (0, G 14) := by rw [mr_X_bound, if_neg c4, if_neg c15, if_pos c19]
        have hP9 : va_P D cl (cW oa ca ck F (va_up G 14 ((mr_X_bound (G 0) (G 1) (G 2) (G 3) (G 4) (G 5) (G 6) (G 7) (G 14) nC nD nu d sx).2))) H := by simp only [em]; rw [vup_keep (f := G) (j := 14) (x := G 14) rfl]; exact hP
        have hD9 : va_D A (cW oa ca ck F (va_up G 14 ((mr_X_bound (G 0) (G 1) (G 2) (G 3) (G 4) (G 5) (G 6) (G 7) (G 14) nC nD nu d sx).2))) := by simp only [em]; rw [vup_keep (f := G) (j := 14) (x := G 14) rfl]; exact hD
        exact tx_new (A := A) (i1 := 98) (i2 := 186) (i3 := 102) (own := RX) (up := xup) (tx := strsX_186) hlt hx hb (hml.trans hl.1.symm) hlk (hno _) hown (by decide +kernel) (by decide +kernel) (xo_use xo_1 hts) wt1 wx98 wn1 hZw (fun w9 h9 => hZ w9 (List.mem_append_left _ h9)) (hZ _ (List.mem_append_right _ mrX_186)) (fun q hq => (hS.2.1 q (Nat.lt_of_lt_of_le hq hZ0) (by rw [hAe]; exact hZA q hq)).trans (hZH q hq)) hS.2.2 dX_bound_33 dX_bound_36 dX_bound_37 dX_bound_39 dX_bound_42 (Nat.le_refl _) (Nat.le_refl _) (by decide) (by decide) rfl rfl (fun H1 h1 h2 => ⟨va_old hP9 h2, by rw [← hAe]; exact hD9⟩)
      · refine lv_iload_n hx hb dX_bound_22 rfl (lv_at hl 3 rfl) ?_
        refine lv_aload_n hx hb dX_bound_23 rfl (lv_at hl 0 rfl) ?_
        refine va_get (D := D) (ci := 1) (v := .ref (oa 1)) (C := RX) (T := TX) (N := 6) hx hb hts inX_ hown hK hP 0 rfl hcl.1 0 (by decide) f12 (fun _ h9 => h9) rfl dX_bound_24 ?_
        refine va_get (D := D) (ci := 2) (v := .int (F 0)) (C := RSh) (T := TSh) (N := 4) hx hb hts inSh_ hown hK hP 1 rfl hcl.2.1 2 (by decide) f87 (fun _ h9 => h9) rfl dX_bound_27 ?_
        refine wt_i k0 ?_
        refine lv_icmp_le (tgt := 43) hx hb dX_bound_30 (by decide) (fun c30 => ?_) (fun c30 => ?_)
        · have xs := ix_cl (le_ix c19 c30 (by omega)) (by omega)
          have xs2 := xs.2
          exact absurd (by rw [mrx_X_bound, if_neg c4, if_neg c15, if_neg c19, if_pos c30]) hnx
        · have ex : mrx_X_bound nC nD nu d sx = 1 := by rw [mrx_X_bound, if_neg c4, if_neg c15, if_neg c19, if_neg c30]
          rw [hQ, ex, exn_1]
          have em : mr_X_bound (G 0) (G 1) (G 2) (G 3) (G 4) (G 5) (G 6) (G 7) (G 14) nC nD nu d sx = (0, G 14) := by rw [mr_X_bound, if_neg c4, if_neg c15, if_neg c19, if_neg c30]
          have hP9 : va_P D cl (cW oa ca ck F (va_up G 14 ((mr_X_bound (G 0) (G 1) (G 2) (G 3) (G 4) (G 5) (G 6) (G 7) (G 14) nC nD nu d sx).2))) H := by simp only [em]; rw [vup_keep (f := G) (j := 14) (x := G 14) rfl]; exact hP
          have hD9 : va_D A (cW oa ca ck F (va_up G 14 ((mr_X_bound (G 0) (G 1) (G 2) (G 3) (G 4) (G 5) (G 6) (G 7) (G 14) nC nD nu d sx).2))) := by simp only [em]; rw [vup_keep (f := G) (j := 14) (x := G 14) rfl]; exact hD
          exact tx_new (A := A) (i1 := 98) (i2 := 186) (i3 := 102) (own := RX) (up := xup) (tx := strsX_186) hlt hx hb (hml.trans hl.1.symm) hlk (hno _) hown (by decide +kernel) (by decide +kernel) (xo_use xo_1 hts) wt1 wx98 wn1 hZw (fun w9 h9 => hZ w9 (List.mem_append_left _ h9)) (hZ _ (List.mem_append_right _ mrX_186)) (fun q hq => (hS.2.1 q (Nat.lt_of_lt_of_le hq hZ0) (by rw [hAe]; exact hZA q hq)).trans (hZH q hq)) hS.2.2 dX_bound_33 dX_bound_36 dX_bound_37 dX_bound_39 dX_bound_42 (Nat.le_refl _) (Nat.le_refl _) (by decide) (by decide) rfl rfl (fun H1 h1 h2 => ⟨va_old hP9 h2, by rw [← hAe]; exact hD9⟩)
def mr_X_near (g0 : Nat → Int32) (g1 : Nat → Int32) (nC : Nat) (nD : Nat) (d : Int32) (k : Int32) : Int32 := (if (mr_Sh_hasDesign nD d) = 0 then 0 else (if k < 0 then 0 else (if k < (mr_Sh_neighbours g0 nC) then (mr_Sh_neighbour g0 g1 nC d k) else 0)))
def mrx_X_near (g0 : Nat → Int32) (nC : Nat) (nD : Nat) (d : Int32) (k : Int32) : Int32 := (if (mr_Sh_hasDesign nD d) = 0 then 1 else (if k < 0 then 1 else (if k < (mr_Sh_neighbours g0 nC) then 0 else 1)))
set_option maxHeartbeats 4000000 in
set_option maxRecDepth 100000 in
theorem c_X_near (l : Launch) (D : va_G) (cl : List vw_C) (hcl : cOK cl) (oa ca : Nat → Nat) (ck : Nat → ClassId) (F : Nat → Int32) (G : Nat → Nat → Int32) {H : Heap} (hP : va_P D cl (cW oa ca ck F G) H) (nC : Nat) (nD : Nat) (d : Int32) (k : Int32) (k0 : F 0 = nI nC) (hC : nC ≤ 8) (k1 : F 1 = nI nD) (hnx : mrx_X_near (G 0) nC nD d k = 0) : ro_Met l yX_near wsX_near ({ frames := 2, cells := 0, slots := 0, locals := 51 } : Room) D cl (cT ck) H [.ref (oa 0), .int d, .int k] (.int (mr_X_near (G 0) (G 1) nC nD d k)) := by
  refine ro_metI (by decide) rfl (Nat.le_of_ble_eq_true rfl) ?_
  intro p e s m args below meth c Q Sx hK ls hl hret
  obtain ⟨hx, hb, hml, hown, hts⟩ := id Sx
  have hl : lv_has ls 3 [(0, .ref (oa 0)), (1, .int d), (2, .int k)] := hl
  have f12 := hts _ (List.mem_cons_of_mem _ mfX_12)
  have inX_ : ∀ w ∈ wsX0, w ∈ wsX_near := fun w h => List.mem_cons_of_mem _ (inX_all w h)
  refine lv_aload_n hx hb dX_near_0 rfl (lv_at hl 0 rfl) ?_
  refine va_get (D := D) (ci := 1) (v := .ref (oa 1)) (C := RX) (T := TX) (N := 6) hx hb hts inX_ hown hK hP 0 rfl hcl.1 0 (by decide) f12 (fun _ h9 => h9) rfl dX_near_1 ?_
  refine lv_iload_n hx hb dX_near_4 rfl (lv_at hl 1 rfl) ?_
  refine ro_callV (r := (.int (mr_Sh_hasDesign nD d))) (As := [.int d]) (rest := []) Sx (c_Sh_hasDesign l D cl hcl oa ca ck F G hP nD d k1) (cwV 1 hts gX_near_Sh_hasDesign rfl rfl rfl (by decide +kernel) ⟨Nat.le_of_ble_eq_true rfl, Nat.le_of_ble_eq_true rfl⟩) hK (va_recv hK hP (ci := 2) (q0 := 1) hcl.2.1 rfl) rfl hl.1 rfl (Nat.le_of_ble_eq_true rfl) dX_near_5 ⟨Nat.zero_le _, Nat.zero_le _⟩ ?_
  refine lv_if_eq (tgt := 26) hx hb dX_near_8 (by decide) (fun c8 => ?_) (fun c8 => ?_)
  · exact absurd hnx (by rw [mrx_X_near, if_pos c8]; decide)
  · refine lv_iload_n hx hb dX_near_11 rfl (lv_at hl 2 rfl) ?_
    refine lv_if_lt (tgt := 26) hx hb dX_near_12 (by decide) (fun c12 => ?_) (fun c12 => ?_)
    · exact absurd hnx (by rw [mrx_X_near, if_neg c8, if_pos c12]; decide)
    · refine lv_iload_n hx hb dX_near_15 rfl (lv_at hl 2 rfl) ?_
      refine lv_aload_n hx hb dX_near_16 rfl (lv_at hl 0 rfl) ?_
      refine va_get (D := D) (ci := 1) (v := .ref (oa 1)) (C := RX) (T := TX) (N := 6) hx hb hts inX_ hown hK hP 0 rfl hcl.1 0 (by decide) f12 (fun _ h9 => h9) rfl dX_near_17 ?_
      refine ro_callV (r := (.int (mr_Sh_neighbours (G 0) nC))) (As := []) (rest := [.int k]) Sx (c_Sh_neighbours l D cl hcl oa ca ck F G hP nC k0 hC) (cwV 0 hts gX_near_Sh_neighbours rfl rfl rfl (by decide +kernel) ⟨Nat.le_of_ble_eq_true rfl, Nat.le_of_ble_eq_true rfl⟩) hK (va_recv hK hP (ci := 2) (q0 := 1) hcl.2.1 rfl) rfl hl.1 rfl (Nat.le_of_ble_eq_true rfl) dX_near_20 ⟨Nat.zero_le _, Nat.zero_le _⟩ ?_
      refine lv_icmp_lt (tgt := 36) hx hb dX_near_23 (by decide) (fun c23 => ?_) (fun c23 => ?_)
      · refine lv_aload_n hx hb dX_near_36 rfl (lv_at hl 0 rfl) ?_
        refine va_get (D := D) (ci := 1) (v := .ref (oa 1)) (C := RX) (T := TX) (N := 6) hx hb hts inX_ hown hK hP 0 rfl hcl.1 0 (by decide) f12 (fun _ h9 => h9) rfl dX_near_37 ?_
        refine lv_iload_n hx hb dX_near_40 rfl (lv_at hl 1 rfl) ?_
        refine lv_iload_n hx hb dX_near_41 rfl (lv_at hl 2 rfl) ?_
        refine ro_callV (r := (.int (mr_Sh_neighbour (G 0) (G 1) nC d k))) (As := [.int d, .int k]) (rest := []) Sx (c_Sh_neighbour l D cl hcl oa ca ck F G hP nC d k k0 hC) (cwV 2 hts gX_near_Sh_neighbour rfl rfl rfl (by decide +kernel) ⟨Nat.le_of_ble_eq_true rfl, Nat.le_of_ble_eq_true rfl⟩) hK (va_recv hK hP (ci := 2) (q0 := 1) hcl.2.1 rfl) rfl hl.1 rfl (Nat.le_of_ble_eq_true rfl) dX_near_42 ⟨Nat.zero_le _, Nat.zero_le _⟩ ?_
        exact hret _ _ _ (by rw [mr_X_near, if_neg c8, if_neg c12, if_pos c23]) dX_near_45
      · exact absurd hnx (by rw [mrx_X_near, if_neg c8, if_neg c12, if_neg c23]; decide)
set_option maxHeartbeats 4000000 in
set_option maxRecDepth 100000 in
theorem t_X_near (l : Launch) (hlt : l.stackTraces = false) (Z : State) (hZ : ∀ w ∈ xws ++ sALL, w.before #[] Z = true) (D : va_G) (cl : List vw_C) (hcl : cOK cl) (oa ca : Nat → Nat) (ck : Nat → ClassId) (F : Nat → Int32) (G : Nat → Nat → Int32) {H : Heap} (hP : va_P D cl (cW oa ca ck F G) H) (hD : va_D (fun _ => True) (cW oa ca ck F G)) (hZ0 : Z.heap.size ≤ H.size) (hZH : ∀ q : Nat, q < Z.heap.size → H[q]? = Z.heap[q]?) (hZA : ∀ q : Nat, q < Z.heap.size → ¬ va_A (cW oa ca ck F G) H.size q) (nC : Nat) (nD : Nat) (d : Int32) (k : Int32) (k0 : F 0 = nI nC) (hC : nC ≤ 8) (k1 : F 1 = nI nD) (hnx : ¬ mrx_X_near (G 0) nC nD d k = 0) : tx_Met l yX_near wsX_near ({ frames := 6, cells := 1, slots := 6, locals := 82 } : Room) (tx_P Z D cl (cT ck) H [.ref (oa 0), .int d, .int k]) (exn (mrx_X_near (G 0) nC nD d k)) 1 6 (va_A (cW oa ca ck F G) H.size) (fun H1 => va_P D cl (cW oa ca ck F G) H1 ∧ va_D (va_A (cW oa ca ck F G) H.size) (cW oa ca ck F G)) := by
  refine tx_met (by decide) rfl (Nat.le_of_ble_eq_true rfl) hP hD ?_
  intro p e s m args below meth c Q A hAe hQ Sx hK hZw hlk hno hP hD hS hA ls hl
  obtain ⟨hx, hb, hml, hown, hts⟩ := id Sx
  have hl : lv_has ls 3 [(0, .ref (oa 0)), (1, .int d), (2, .int k)] := hl
  have hD : va_D (fun _ => True) (cW oa ca ck F G) := hD.weaken (fun _ _ _ _ => trivial)
  have f12 := hts _ (List.mem_cons_of_mem _ mfX_12)
  have inX_ : ∀ w ∈ wsX0, w ∈ wsX_near := fun w h => List.mem_cons_of_mem _ (inX_all w h)
  have wx98 := hts _ (List.mem_cons_of_mem _ mxX_98)
  have wn1 := hts _ (List.mem_cons_of_mem _ mnE_1)
  have wt1 := hts _ (List.mem_cons_of_mem _ mtE_1)
  refine lv_aload_n hx hb dX_near_0 rfl (lv_at hl 0 rfl) ?_
  refine va_get (D := D) (ci := 1) (v := .ref (oa 1)) (C := RX) (T := TX) (N := 6) hx hb hts inX_ hown hK hP 0 rfl hcl.1 0 (by decide) f12 (fun _ h9 => h9) rfl dX_near_1 ?_
  refine lv_iload_n hx hb dX_near_4 rfl (lv_at hl 1 rfl) ?_
  refine ro_callV (r := (.int (mr_Sh_hasDesign nD d))) (As := [.int d]) (rest := []) Sx (c_Sh_hasDesign l D cl hcl oa ca ck F G hP nD d k1) (cwV 1 hts gX_near_Sh_hasDesign rfl rfl rfl (by decide +kernel) ⟨Nat.le_of_ble_eq_true rfl, Nat.le_of_ble_eq_true rfl⟩) hK (va_recv hK hP (ci := 2) (q0 := 1) hcl.2.1 rfl) rfl hl.1 rfl (Nat.le_of_ble_eq_true rfl) dX_near_5 ⟨Nat.zero_le _, Nat.zero_le _⟩ ?_
  refine lv_if_eq (tgt := 26) hx hb dX_near_8 (by decide) (fun c8 => ?_) (fun c8 => ?_)
  · have ex : mrx_X_near (G 0) nC nD d k = 1 := by rw [mrx_X_near, if_pos c8]
    rw [hQ, ex, exn_1]
    exact tx_new (A := A) (i1 := 98) (i2 := 196) (i3 := 102) (own := RX) (up := xup) (tx := strsX_196) hlt hx hb (hml.trans hl.1.symm) hlk (hno _) hown (by decide +kernel) (by decide +kernel) (xo_use xo_1 hts) wt1 wx98 wn1 hZw (fun w9 h9 => hZ w9 (List.mem_append_left _ h9)) (hZ _ (List.mem_append_right _ mrX_196)) hZH (fun x9 h9 => absurd h9 List.not_mem_nil) dX_near_26 dX_near_29 dX_near_30 dX_near_32 dX_near_35 (Nat.le_refl _) (Nat.le_refl _) (by decide) (by decide) rfl rfl (fun H1 h1 h2 => ⟨va_old hP h2, hD.self⟩)
  · refine lv_iload_n hx hb dX_near_11 rfl (lv_at hl 2 rfl) ?_
    refine lv_if_lt (tgt := 26) hx hb dX_near_12 (by decide) (fun c12 => ?_) (fun c12 => ?_)
    · have ex : mrx_X_near (G 0) nC nD d k = 1 := by rw [mrx_X_near, if_neg c8, if_pos c12]
      rw [hQ, ex, exn_1]
      exact tx_new (A := A) (i1 := 98) (i2 := 196) (i3 := 102) (own := RX) (up := xup) (tx := strsX_196) hlt hx hb (hml.trans hl.1.symm) hlk (hno _) hown (by decide +kernel) (by decide +kernel) (xo_use xo_1 hts) wt1 wx98 wn1 hZw (fun w9 h9 => hZ w9 (List.mem_append_left _ h9)) (hZ _ (List.mem_append_right _ mrX_196)) hZH (fun x9 h9 => absurd h9 List.not_mem_nil) dX_near_26 dX_near_29 dX_near_30 dX_near_32 dX_near_35 (Nat.le_refl _) (Nat.le_refl _) (by decide) (by decide) rfl rfl (fun H1 h1 h2 => ⟨va_old hP h2, hD.self⟩)
    · refine lv_iload_n hx hb dX_near_15 rfl (lv_at hl 2 rfl) ?_
      refine lv_aload_n hx hb dX_near_16 rfl (lv_at hl 0 rfl) ?_
      refine va_get (D := D) (ci := 1) (v := .ref (oa 1)) (C := RX) (T := TX) (N := 6) hx hb hts inX_ hown hK hP 0 rfl hcl.1 0 (by decide) f12 (fun _ h9 => h9) rfl dX_near_17 ?_
      refine ro_callV (r := (.int (mr_Sh_neighbours (G 0) nC))) (As := []) (rest := [.int k]) Sx (c_Sh_neighbours l D cl hcl oa ca ck F G hP nC k0 hC) (cwV 0 hts gX_near_Sh_neighbours rfl rfl rfl (by decide +kernel) ⟨Nat.le_of_ble_eq_true rfl, Nat.le_of_ble_eq_true rfl⟩) hK (va_recv hK hP (ci := 2) (q0 := 1) hcl.2.1 rfl) rfl hl.1 rfl (Nat.le_of_ble_eq_true rfl) dX_near_20 ⟨Nat.zero_le _, Nat.zero_le _⟩ ?_
      refine lv_icmp_lt (tgt := 36) hx hb dX_near_23 (by decide) (fun c23 => ?_) (fun c23 => ?_)
      · exact absurd (by rw [mrx_X_near, if_neg c8, if_neg c12, if_pos c23]) hnx
      · have ex : mrx_X_near (G 0) nC nD d k = 1 := by rw [mrx_X_near, if_neg c8, if_neg c12, if_neg c23]
        rw [hQ, ex, exn_1]
        exact tx_new (A := A) (i1 := 98) (i2 := 196) (i3 := 102) (own := RX) (up := xup) (tx := strsX_196) hlt hx hb (hml.trans hl.1.symm) hlk (hno _) hown (by decide +kernel) (by decide +kernel) (xo_use xo_1 hts) wt1 wx98 wn1 hZw (fun w9 h9 => hZ w9 (List.mem_append_left _ h9)) (hZ _ (List.mem_append_right _ mrX_196)) hZH (fun x9 h9 => absurd h9 List.not_mem_nil) dX_near_26 dX_near_29 dX_near_30 dX_near_32 dX_near_35 (Nat.le_refl _) (Nat.le_refl _) (by decide) (by decide) rfl rfl (fun H1 h1 h2 => ⟨va_old hP h2, hD.self⟩)
def mr_X_slack (f10 : Int32) (x : Int32) : Int32 × Int32 := (if 0 ≤ x then (f10, x) else (0, f10))
def mrx_X_slack (x : Int32) : Int32 := (if 0 ≤ x then 0 else 2)
set_option maxHeartbeats 4000000 in
set_option maxRecDepth 100000 in
theorem c_X_slack (l : Launch) (D : va_G) (cl : List vw_C) (hcl : cOK cl) (oa ca : Nat → Nat) (ck : Nat → ClassId) (F : Nat → Int32) (G : Nat → Nat → Int32) {H0 : Heap} (hP : va_P D cl (cW oa ca ck F G) H0) (hD : va_D (fun _ => True) (cW oa ca ck F G)) (x : Int32) (hnx : mrx_X_slack x = 0) : ww_Met l yX_slack wsX_slack ({ frames := 0, cells := 0, slots := 0, locals := 0 } : Room) D cl (cT ck) H0 [.ref (oa 0), .int x] (cW oa ca ck F G) (some (.int ((mr_X_slack (F 10) x).1))) (cW oa ca ck (upd F 10 ((mr_X_slack (F 10) x).2)) G) := by
  refine ww_metI (by decide) rfl (Nat.le_of_ble_eq_true rfl) hP hD ?_
  intro p e s m args below meth c Q A Sx hK hP hD hS hA ls hl hret
  obtain ⟨hx, hb, hml, hown, hts⟩ := id Sx
  have hl : lv_has ls 3 [(0, .ref (oa 0)), (1, .int x)] := hl
  obtain ⟨H, eH⟩ : ∃ H : Heap, H = H0 := ⟨_, rfl⟩
  obtain ⟨locs, eL⟩ : ∃ L : List Loc, L = [] := ⟨_, rfl⟩
  have hP : va_P D cl (cW oa ca ck F G) H := by rw [eH]; exact hP
  have hS : va_S A H0 H locs := by rw [eH, eL]; exact hS
  rw [show W p l e ({ frames := 0, cells := 0, slots := 0, locals := 0 } : Room) s m args below meth c H0 [] 0 0 Q (F0 m 0 ls []) = W p l e ({ frames := 0, cells := 0, slots := 0, locals := 0 } : Room) s m args below meth c H locs 0 0 Q (F0 m 0 ls []) by rw [eH, eL]]
  clear eH eL
  have f47 := hts _ (List.mem_cons_of_mem _ mfX_47)
  have inX_ : ∀ w ∈ wsX0, w ∈ wsX_slack := fun w h => List.mem_cons_of_mem _ (inX_all w h)
  have f203 := hts _ (List.mem_cons_of_mem _ mfX_203)
  have inWa_ : ∀ w ∈ wsWa0, w ∈ wsX_slack := fun w h => List.mem_cons_of_mem _ (inWa_all w h)
  refine lv_iload_n hx hb dX_slack_0 rfl (lv_at hl 1 rfl) ?_
  refine lv_if_ge (tgt := 14) hx hb dX_slack_1 (by decide) (fun c1 => ?_) (fun c1 => ?_)
  · refine lv_aload_n hx hb dX_slack_14 rfl (lv_at hl 0 rfl) ?_
    refine va_get (D := D) (ci := 1) (v := .ref (oa 6)) (C := RX) (T := TX) (N := 6) hx hb hts inX_ hown hK hP 0 rfl hcl.1 4 (by decide) f47 (fun _ h9 => h9) rfl dX_slack_15 ?_
    refine va_get (D := D) (ci := 7) (v := .int (F 10)) (C := RWa) (T := TWa) (N := 6) hx hb hts inWa_ hown hK hP 6 rfl hcl.2.2.2.2.2.2.1 3 (by decide) f203 (fun _ h9 => h9) rfl dX_slack_18 ?_
    refine lv_istore_n (lv' := [(2, .int (F 10)), (0, .ref (oa 0)), (1, .int x)]) hx hb dX_slack_21 rfl hl (by decide) rfl (fun ls hl => ?_)
    refine lv_aload_n hx hb dX_slack_22 rfl (lv_at hl 1 rfl) ?_
    refine va_get (D := D) (ci := 1) (v := .ref (oa 6)) (C := RX) (T := TX) (N := 6) hx hb hts inX_ hown hK hP 0 rfl hcl.1 4 (by decide) f47 (fun _ h9 => h9) rfl dX_slack_23 ?_
    refine lv_iload_n hx hb dX_slack_26 rfl (lv_at hl 2 rfl) ?_
    refine va_put (D := D) (ci := 7) (fs := cWl6 oa ca F) (v := .int x) (ty := .int) (C := RWa) (T := TWa) (N := 6) hx hb hts inWa_ tyWa tyWa_ok nmWa hown hK hP hD hS 6 rfl hcl.2.2.2.2.2.2.1 3 (by decide) f203 (fun _ h9 => h9) rfl (by decide +kernel) rfl rfl (Nat.le_of_ble_eq_true rfl) dX_slack_27 (fun H locs hP hD hS => ?_)
    rw [cW_f10] at hP hD
    refine lv_iload_n hx hb dX_slack_30 rfl (lv_at hl 0 rfl) ?_
    have em : mr_X_slack (F 10) x = (F 10, x) := by rw [mr_X_slack, if_pos c1]
    exact hret _ _ _ _ _ _ (by simp only [em]) (by simp only [em]) hP hD hS dX_slack_31
  · exact absurd hnx (by rw [mrx_X_slack, if_neg c1]; decide)
set_option maxHeartbeats 4000000 in
set_option maxRecDepth 100000 in
theorem t_X_slack (l : Launch) (hlt : l.stackTraces = false) (Z : State) (hZ : ∀ w ∈ xws ++ sALL, w.before #[] Z = true) (D : va_G) (cl : List vw_C) (hcl : cOK cl) (oa ca : Nat → Nat) (ck : Nat → ClassId) (F : Nat → Int32) (G : Nat → Nat → Int32) {H0 : Heap} (hP : va_P D cl (cW oa ca ck F G) H0) (hD : va_D (fun _ => True) (cW oa ca ck F G)) (hZ0 : Z.heap.size ≤ H0.size) (hZH : ∀ q : Nat, q < Z.heap.size → H0[q]? = Z.heap[q]?) (hZA : ∀ q : Nat, q < Z.heap.size → ¬ va_A (cW oa ca ck F G) H0.size q) (x : Int32) (hnx : ¬ mrx_X_slack x = 0) : tx_Met l yX_slack wsX_slack ({ frames := 6, cells := 1, slots := 6, locals := 82 } : Room) (tx_P Z D cl (cT ck) H0 [.ref (oa 0), .int x]) (exn (mrx_X_slack x)) 1 6 (va_A (cW oa ca ck F G) H0.size) (fun H1 => va_P D cl (cW oa ca ck (upd F 10 ((mr_X_slack (F 10) x).2)) G) H1 ∧ va_D (va_A (cW oa ca ck F G) H0.size) (cW oa ca ck (upd F 10 ((mr_X_slack (F 10) x).2)) G)) := by
  refine tx_met (by decide) rfl (Nat.le_of_ble_eq_true rfl) hP hD ?_
  intro p e s m args below meth c Q A hAe hQ Sx hK hZw hlk hno hP hD hS hA ls hl
  obtain ⟨hx, hb, hml, hown, hts⟩ := id Sx
  have hl : lv_has ls 3 [(0, .ref (oa 0)), (1, .int x)] := hl
  obtain ⟨H, eH⟩ : ∃ H : Heap, H = H0 := ⟨_, rfl⟩
  obtain ⟨locs, eL⟩ : ∃ L : List Loc, L = [] := ⟨_, rfl⟩
  have hP : va_P D cl (cW oa ca ck F G) H := by rw [eH]; exact hP
  have hS : va_S A H0 H locs := by rw [eH, eL]; exact hS
  rw [show W p l e ({ frames := 6, cells := 1, slots := 6, locals := 82 } : Room) s m args below meth c H0 [] 0 0 Q (F0 m 0 ls []) = W p l e ({ frames := 6, cells := 1, slots := 6, locals := 82 } : Room) s m args below meth c H locs 0 0 Q (F0 m 0 ls []) by rw [eH, eL]]
  clear eH eL
  have wx58 := hts _ (List.mem_cons_of_mem _ mxX_58)
  have wn2 := hts _ (List.mem_cons_of_mem _ mnE_2)
  have wt2 := hts _ (List.mem_cons_of_mem _ mtE_2)
  refine lv_iload_n hx hb dX_slack_0 rfl (lv_at hl 1 rfl) ?_
  refine lv_if_ge (tgt := 14) hx hb dX_slack_1 (by decide) (fun c1 => ?_) (fun c1 => ?_)
  · exact absurd (by rw [mrx_X_slack, if_pos c1]) hnx
  · have ex : mrx_X_slack x = 2 := by rw [mrx_X_slack, if_neg c1]
    rw [hQ, ex, exn_2]
    have em : mr_X_slack (F 10) x = (0, F 10) := by rw [mr_X_slack, if_neg c1]
    have hP9 : va_P D cl (cW oa ca ck (upd F 10 ((mr_X_slack (F 10) x).2)) G) H := by simp only [em]; rw [upd_keep (f := F) (j := 10) (x := F 10) rfl]; exact hP
    have hD9 : va_D A (cW oa ca ck (upd F 10 ((mr_X_slack (F 10) x).2)) G) := by simp only [em]; rw [upd_keep (f := F) (j := 10) (x := F 10) rfl]; exact hD
    exact tx_new (A := A) (i1 := 58) (i2 := 201) (i3 := 62) (own := RX) (up := xup) (tx := strsX_201) hlt hx hb (hml.trans hl.1.symm) hlk (hno _) hown (by decide +kernel) (by decide +kernel) (xo_use xo_2 hts) wt2 wx58 wn2 hZw (fun w9 h9 => hZ w9 (List.mem_append_left _ h9)) (hZ _ (List.mem_append_right _ mrX_201)) (fun q hq => (hS.2.1 q (Nat.lt_of_lt_of_le hq hZ0) (by rw [hAe]; exact hZA q hq)).trans (hZH q hq)) hS.2.2 dX_slack_4 dX_slack_7 dX_slack_8 dX_slack_10 dX_slack_13 (Nat.le_refl _) (Nat.le_refl _) (by decide) (by decide) rfl rfl (fun H1 h1 h2 => ⟨va_old hP9 h2, by rw [← hAe]; exact hD9⟩)
def mr_X_walk (f9 : Int32) (f10 : Int32) (f11 : Int32) (f12 : Int32) (g0 : Nat → Int32) (g1 : Nat → Int32) (g8 : Nat → Int32) (g9 : Nat → Int32) (g10 : Nat → Int32) (g11 : Nat → Int32) (nC : Nat) (nD : Nat) (d : Int32) (sp : Int32) : Int32 × Int32 × Int32 × Int32 := (if (mr_Sh_hasDesign nD d) = 0 then (0, f9, f11, f12) else (if (mr_Bo_allows g8 g9 g10 g11 (d.toNatClampNeg)) = 0 then (0, f9, f11, f12) else (if sp < 1 then (0, f9, f11, f12) else (if sp ≤ 1000 then (if (nI nC) = 0 then (0, f9, f11, f12) else ((mr_Wa_go f9 f10 g0 g1 g8 g9 g10 g11 nC nD (d.toNatClampNeg) (sp.toNatClampNeg)).1, (mr_Wa_go f9 f10 g0 g1 g8 g9 g10 g11 nC nD (d.toNatClampNeg) (sp.toNatClampNeg)).2.1, (mr_Wa_go f9 f10 g0 g1 g8 g9 g10 g11 nC nD (d.toNatClampNeg) (sp.toNatClampNeg)).2.2.1, (mr_Wa_go f9 f10 g0 g1 g8 g9 g10 g11 nC nD (d.toNatClampNeg) (sp.toNatClampNeg)).2.2.2)) else (0, f9, f11, f12)))))
def mrx_X_walk (g8 : Nat → Int32) (g9 : Nat → Int32) (g10 : Nat → Int32) (g11 : Nat → Int32) (nC : Nat) (nD : Nat) (d : Int32) (sp : Int32) : Int32 := (if (mr_Sh_hasDesign nD d) = 0 then 1 else (if (mr_Bo_allows g8 g9 g10 g11 (d.toNatClampNeg)) = 0 then 2 else (if sp < 1 then 2 else (if sp ≤ 1000 then (if (nI nC) = 0 then 4 else 0) else 2))))
set_option maxHeartbeats 4000000 in
set_option maxRecDepth 100000 in
theorem c_X_walk (l : Launch) (D : va_G) (cl : List vw_C) (hcl : cOK cl) (oa ca : Nat → Nat) (ck : Nat → ClassId) (F : Nat → Int32) (G : Nat → Nat → Int32) {H0 : Heap} (hP : va_P D cl (cW oa ca ck F G) H0) (hD : va_D (fun _ => True) (cW oa ca ck F G)) (nC : Nat) (nD : Nat) (d : Int32) (sp : Int32) (k0 : F 0 = nI nC) (hC : nC ≤ 8) (s0 : ∀ c, c < nC → ∃ z : Nat, G 0 c = nI z ∧ 2 ≤ z ∧ z ≤ 6) (s1 : ∀ c, c < nC → G 1 c = nI (pc_ (zg (G 0)) nC c)) (hmp : mp (zg (G 0)) 0 nC = nD) (k1 : F 1 = nI nD) (hN : nD ≤ 4096) (hnx : mrx_X_walk (G 8) (G 9) (G 10) (G 11) nC nD d sp = 0) : ww_Met l yX_walk wsX_walk ({ frames := 4, cells := 0, slots := 0, locals := 104 } : Room) D cl (cT ck) H0 [.ref (oa 0), .int d, .int sp] (cW oa ca ck F G) (some (.int ((mr_X_walk (F 9) (F 10) (F 11) (F 12) (G 0) (G 1) (G 8) (G 9) (G 10) (G 11) nC nD d sp).1))) (cW oa ca ck (upd (upd (upd F 9 ((mr_X_walk (F 9) (F 10) (F 11) (F 12) (G 0) (G 1) (G 8) (G 9) (G 10) (G 11) nC nD d sp).2.1)) 11 ((mr_X_walk (F 9) (F 10) (F 11) (F 12) (G 0) (G 1) (G 8) (G 9) (G 10) (G 11) nC nD d sp).2.2.1)) 12 ((mr_X_walk (F 9) (F 10) (F 11) (F 12) (G 0) (G 1) (G 8) (G 9) (G 10) (G 11) nC nD d sp).2.2.2)) G) := by
  refine ww_metI (by decide) rfl (Nat.le_of_ble_eq_true rfl) hP hD ?_
  intro p e s m args below meth c Q A Sx hK hP hD hS hA ls hl hret
  obtain ⟨hx, hb, hml, hown, hts⟩ := id Sx
  have hl : lv_has ls 3 [(0, .ref (oa 0)), (1, .int d), (2, .int sp)] := hl
  obtain ⟨H, eH⟩ : ∃ H : Heap, H = H0 := ⟨_, rfl⟩
  obtain ⟨locs, eL⟩ : ∃ L : List Loc, L = [] := ⟨_, rfl⟩
  have hP : va_P D cl (cW oa ca ck F G) H := by rw [eH]; exact hP
  have hS : va_S A H0 H locs := by rw [eH, eL]; exact hS
  rw [show W p l e ({ frames := 4, cells := 0, slots := 0, locals := 104 } : Room) s m args below meth c H0 [] 0 0 Q (F0 m 0 ls []) = W p l e ({ frames := 4, cells := 0, slots := 0, locals := 104 } : Room) s m args below meth c H locs 0 0 Q (F0 m 0 ls []) by rw [eH, eL]]
  clear eH eL
  have f12 := hts _ (List.mem_cons_of_mem _ mfX_12)
  have inX_ : ∀ w ∈ wsX0, w ∈ wsX_walk := fun w h => List.mem_cons_of_mem _ (inX_all w h)
  have f21 := hts _ (List.mem_cons_of_mem _ mfX_21)
  have f87 := hts _ (List.mem_cons_of_mem _ mfX_87)
  have inSh_ : ∀ w ∈ wsSh0, w ∈ wsX_walk := fun w h => List.mem_cons_of_mem _ (inSh_all w h)
  have f47 := hts _ (List.mem_cons_of_mem _ mfX_47)
  refine lv_aload_n hx hb dX_walk_0 rfl (lv_at hl 0 rfl) ?_
  refine va_get (D := D) (ci := 1) (v := .ref (oa 1)) (C := RX) (T := TX) (N := 6) hx hb hts inX_ hown hK hP 0 rfl hcl.1 0 (by decide) f12 (fun _ h9 => h9) rfl dX_walk_1 ?_
  refine lv_iload_n hx hb dX_walk_4 rfl (lv_at hl 1 rfl) ?_
  refine ro_callV (r := (.int (mr_Sh_hasDesign nD d))) (As := [.int d]) (rest := []) Sx (c_Sh_hasDesign l D cl hcl oa ca ck F G hP nD d k1) (cwV 1 hts gX_walk_Sh_hasDesign rfl rfl rfl (by decide +kernel) ⟨Nat.le_of_ble_eq_true rfl, Nat.le_of_ble_eq_true rfl⟩) hK (va_recv hK hP (ci := 2) (q0 := 1) hcl.2.1 rfl) rfl hl.1 rfl (Nat.le_of_ble_eq_true rfl) dX_walk_5 ⟨Nat.zero_le _, Nat.zero_le _⟩ ?_
  refine lv_if_ne (tgt := 21) hx hb dX_walk_8 (by decide) (fun c8 => ?_) (fun c8 => ?_)
  · have xd := ix_cl (hasDesign_ix c8 (by omega)) (by omega)
    have xd2 := xd.2
    refine lv_aload_n hx hb dX_walk_21 rfl (lv_at hl 0 rfl) ?_
    refine va_get (D := D) (ci := 1) (v := .ref (oa 3)) (C := RX) (T := TX) (N := 6) hx hb hts inX_ hown hK hP 0 rfl hcl.1 1 (by decide) f21 (fun _ h9 => h9) rfl dX_walk_22 ?_
    refine lv_iload_n hx hb dX_walk_25 rfl (lv_at hl 1 rfl) ?_
    refine wt_i (r := nI (d.toNatClampNeg)) (by exact xd.1) ?_
    refine ro_callV (r := (.int (mr_Bo_allows (G 8) (G 9) (G 10) (G 11) (d.toNatClampNeg)))) (As := [.int (nI (d.toNatClampNeg))]) (rest := []) Sx (c_Bo_allows l D cl hcl oa ca ck F G hP (d.toNatClampNeg) (by omega)) (cwV 1 hts gX_walk_Bo_allows rfl rfl rfl (by decide +kernel) ⟨Nat.le_of_ble_eq_true rfl, Nat.le_of_ble_eq_true rfl⟩) hK (va_recv hK hP (ci := 4) (q0 := 3) hcl.2.2.2.1 rfl) rfl hl.1 rfl (Nat.le_of_ble_eq_true rfl) dX_walk_26 ⟨Nat.zero_le _, Nat.zero_le _⟩ ?_
    refine lv_if_eq (tgt := 44) hx hb dX_walk_29 (by decide) (fun c29 => ?_) (fun c29 => ?_)
    · exact absurd hnx (by rw [mrx_X_walk, if_neg c8, if_pos c29]; decide)
    · refine lv_iload_n hx hb dX_walk_32 rfl (lv_at hl 2 rfl) ?_
      refine lv_iconst (v := 1) hx hb dX_walk_33 (by decide) ?_
      refine lv_icmp_lt (tgt := 44) hx hb dX_walk_34 (by decide) (fun c34 => ?_) (fun c34 => ?_)
      · exact absurd hnx (by rw [mrx_X_walk, if_neg c8, if_neg c29, if_pos c34]; decide)
      · refine lv_iload_n hx hb dX_walk_37 rfl (lv_at hl 2 rfl) ?_
        refine lv_sipush (v := 1000) hx hb dX_walk_38 (by decide) ?_
        refine lv_icmp_le (tgt := 54) hx hb dX_walk_41 (by decide) (fun c41 => ?_) (fun c41 => ?_)
        · have xp := ix_cl (le_ix1 c34 c41 (n := 1000) (by decide)) (by decide)
          have xp2 := xp.2
          refine lv_aload_n hx hb dX_walk_54 rfl (lv_at hl 0 rfl) ?_
          refine va_get (D := D) (ci := 1) (v := .ref (oa 1)) (C := RX) (T := TX) (N := 6) hx hb hts inX_ hown hK hP 0 rfl hcl.1 0 (by decide) f12 (fun _ h9 => h9) rfl dX_walk_55 ?_
          refine va_get (D := D) (ci := 2) (v := .int (F 0)) (C := RSh) (T := TSh) (N := 4) hx hb hts inSh_ hown hK hP 1 rfl hcl.2.1 2 (by decide) f87 (fun _ h9 => h9) rfl dX_walk_58 ?_
          refine wt_i k0 ?_
          refine lv_if_ne (tgt := 74) hx hb dX_walk_61 (by decide) (fun c61 => ?_) (fun c61 => ?_)
          · have n61 : ¬ nC = 0 := fun h9 => c61 ((nI_eq (a := nC) (b := 0) (by omega) (by omega)).mpr h9)
            refine lv_aload_n hx hb dX_walk_74 rfl (lv_at hl 0 rfl) ?_
            refine va_get (D := D) (ci := 1) (v := .ref (oa 6)) (C := RX) (T := TX) (N := 6) hx hb hts inX_ hown hK hP 0 rfl hcl.1 4 (by decide) f47 (fun _ h9 => h9) rfl dX_walk_75 ?_
            refine lv_iload_n hx hb dX_walk_78 rfl (lv_at hl 1 rfl) ?_
            refine wt_i (r := nI (d.toNatClampNeg)) (by exact xd.1) ?_
            refine lv_iload_n hx hb dX_walk_79 rfl (lv_at hl 2 rfl) ?_
            refine wt_i (r := nI (sp.toNatClampNeg)) (by exact xp.1) ?_
            refine ww_callV (r := (some (.int ((mr_Wa_go (F 9) (F 10) (G 0) (G 1) (G 8) (G 9) (G 10) (G 11) nC nD (d.toNatClampNeg) (sp.toNatClampNeg)).1)))) (w' := cW oa ca ck (upd (upd (upd F 9 ((mr_Wa_go (F 9) (F 10) (G 0) (G 1) (G 8) (G 9) (G 10) (G 11) nC nD (d.toNatClampNeg) (sp.toNatClampNeg)).2.1)) 11 ((mr_Wa_go (F 9) (F 10) (G 0) (G 1) (G 8) (G 9) (G 10) (G 11) nC nD (d.toNatClampNeg) (sp.toNatClampNeg)).2.2.1)) 12 ((mr_Wa_go (F 9) (F 10) (G 0) (G 1) (G 8) (G 9) (G 10) (G 11) nC nD (d.toNatClampNeg) (sp.toNatClampNeg)).2.2.2)) G) (As := [.int (nI (d.toNatClampNeg)), .int (nI (sp.toNatClampNeg))]) (rest := []) Sx (c_Wa_go l D cl hcl oa ca ck F G hP (hD.weaken (fun _ _ _ _ => trivial)) nC nD (d.toNatClampNeg) (sp.toNatClampNeg) k0 hC s0 s1 hmp hN xd.2 (by omega)) (cwV 2 hts gX_walk_Wa_go rfl rfl rfl (by decide +kernel) ⟨Nat.le_of_ble_eq_true rfl, Nat.le_of_ble_eq_true rfl⟩) hK (va_recv hK hP (ci := 7) (q0 := 6) hcl.2.2.2.2.2.2.1 rfl) rfl hl.1 rfl (Nat.le_of_ble_eq_true rfl) dX_walk_80 ⟨Nat.zero_le _, Nat.zero_le _⟩ hD hS hA (fun H locs hP hD hS => ?_)
            have em : mr_X_walk (F 9) (F 10) (F 11) (F 12) (G 0) (G 1) (G 8) (G 9) (G 10) (G 11) nC nD d sp = ((mr_Wa_go (F 9) (F 10) (G 0) (G 1) (G 8) (G 9) (G 10) (G 11) nC nD (d.toNatClampNeg) (sp.toNatClampNeg)).1, (mr_Wa_go (F 9) (F 10) (G 0) (G 1) (G 8) (G 9) (G 10) (G 11) nC nD (d.toNatClampNeg) (sp.toNatClampNeg)).2.1, (mr_Wa_go (F 9) (F 10) (G 0) (G 1) (G 8) (G 9) (G 10) (G 11) nC nD (d.toNatClampNeg) (sp.toNatClampNeg)).2.2.1, (mr_Wa_go (F 9) (F 10) (G 0) (G 1) (G 8) (G 9) (G 10) (G 11) nC nD (d.toNatClampNeg) (sp.toNatClampNeg)).2.2.2) := by rw [mr_X_walk, if_neg c8, if_neg c29, if_neg c34, if_pos c41, if_neg c61]
            exact hret _ _ _ _ _ _ (by simp only [em]) (by simp only [em]) hP hD hS dX_walk_83
          · have n61 : nC = 0 := (nI_eq (a := nC) (b := 0) (by omega) (by omega)).mp c61
            exact absurd hnx (by rw [mrx_X_walk, if_neg c8, if_neg c29, if_neg c34, if_pos c41, if_pos c61]; decide)
        · exact absurd hnx (by rw [mrx_X_walk, if_neg c8, if_neg c29, if_neg c34, if_neg c41]; decide)
  · exact absurd hnx (by rw [mrx_X_walk, if_pos c8]; decide)
set_option maxHeartbeats 4000000 in
set_option maxRecDepth 100000 in
theorem t_X_walk (l : Launch) (hlt : l.stackTraces = false) (Z : State) (hZ : ∀ w ∈ xws ++ sALL, w.before #[] Z = true) (D : va_G) (cl : List vw_C) (hcl : cOK cl) (oa ca : Nat → Nat) (ck : Nat → ClassId) (F : Nat → Int32) (G : Nat → Nat → Int32) {H0 : Heap} (hP : va_P D cl (cW oa ca ck F G) H0) (hD : va_D (fun _ => True) (cW oa ca ck F G)) (hZ0 : Z.heap.size ≤ H0.size) (hZH : ∀ q : Nat, q < Z.heap.size → H0[q]? = Z.heap[q]?) (hZA : ∀ q : Nat, q < Z.heap.size → ¬ va_A (cW oa ca ck F G) H0.size q) (nC : Nat) (nD : Nat) (d : Int32) (sp : Int32) (k0 : F 0 = nI nC) (hC : nC ≤ 8) (s0 : ∀ c, c < nC → ∃ z : Nat, G 0 c = nI z ∧ 2 ≤ z ∧ z ≤ 6) (s1 : ∀ c, c < nC → G 1 c = nI (pc_ (zg (G 0)) nC c)) (hmp : mp (zg (G 0)) 0 nC = nD) (k1 : F 1 = nI nD) (hN : nD ≤ 4096) (hnx : ¬ mrx_X_walk (G 8) (G 9) (G 10) (G 11) nC nD d sp = 0) : tx_Met l yX_walk wsX_walk ({ frames := 6, cells := 1, slots := 6, locals := 104 } : Room) (tx_P Z D cl (cT ck) H0 [.ref (oa 0), .int d, .int sp]) (exn (mrx_X_walk (G 8) (G 9) (G 10) (G 11) nC nD d sp)) 1 6 (va_A (cW oa ca ck F G) H0.size) (fun H1 => va_P D cl (cW oa ca ck (upd (upd (upd F 9 ((mr_X_walk (F 9) (F 10) (F 11) (F 12) (G 0) (G 1) (G 8) (G 9) (G 10) (G 11) nC nD d sp).2.1)) 11 ((mr_X_walk (F 9) (F 10) (F 11) (F 12) (G 0) (G 1) (G 8) (G 9) (G 10) (G 11) nC nD d sp).2.2.1)) 12 ((mr_X_walk (F 9) (F 10) (F 11) (F 12) (G 0) (G 1) (G 8) (G 9) (G 10) (G 11) nC nD d sp).2.2.2)) G) H1 ∧ va_D (va_A (cW oa ca ck F G) H0.size) (cW oa ca ck (upd (upd (upd F 9 ((mr_X_walk (F 9) (F 10) (F 11) (F 12) (G 0) (G 1) (G 8) (G 9) (G 10) (G 11) nC nD d sp).2.1)) 11 ((mr_X_walk (F 9) (F 10) (F 11) (F 12) (G 0) (G 1) (G 8) (G 9) (G 10) (G 11) nC nD d sp).2.2.1)) 12 ((mr_X_walk (F 9) (F 10) (F 11) (F 12) (G 0) (G 1) (G 8) (G 9) (G 10) (G 11) nC nD d sp).2.2.2)) G)) := by
  refine tx_met (by decide) rfl (Nat.le_of_ble_eq_true rfl) hP hD ?_
  intro p e s m args below meth c Q A hAe hQ Sx hK hZw hlk hno hP hD hS hA ls hl
  obtain ⟨hx, hb, hml, hown, hts⟩ := id Sx
  have hl : lv_has ls 3 [(0, .ref (oa 0)), (1, .int d), (2, .int sp)] := hl
  obtain ⟨H, eH⟩ : ∃ H : Heap, H = H0 := ⟨_, rfl⟩
  obtain ⟨locs, eL⟩ : ∃ L : List Loc, L = [] := ⟨_, rfl⟩
  have hP : va_P D cl (cW oa ca ck F G) H := by rw [eH]; exact hP
  have hS : va_S A H0 H locs := by rw [eH, eL]; exact hS
  rw [show W p l e ({ frames := 6, cells := 1, slots := 6, locals := 104 } : Room) s m args below meth c H0 [] 0 0 Q (F0 m 0 ls []) = W p l e ({ frames := 6, cells := 1, slots := 6, locals := 104 } : Room) s m args below meth c H locs 0 0 Q (F0 m 0 ls []) by rw [eH, eL]]
  clear eH eL
  have f12 := hts _ (List.mem_cons_of_mem _ mfX_12)
  have inX_ : ∀ w ∈ wsX0, w ∈ wsX_walk := fun w h => List.mem_cons_of_mem _ (inX_all w h)
  have f21 := hts _ (List.mem_cons_of_mem _ mfX_21)
  have wx58 := hts _ (List.mem_cons_of_mem _ mxX_58)
  have wn2 := hts _ (List.mem_cons_of_mem _ mnE_2)
  have wt2 := hts _ (List.mem_cons_of_mem _ mtE_2)
  have f87 := hts _ (List.mem_cons_of_mem _ mfX_87)
  have inSh_ : ∀ w ∈ wsSh0, w ∈ wsX_walk := fun w h => List.mem_cons_of_mem _ (inSh_all w h)
  have wx208 := hts _ (List.mem_cons_of_mem _ mxX_208)
  have wn4 := hts _ (List.mem_cons_of_mem _ mnE_4)
  have wt4 := hts _ (List.mem_cons_of_mem _ mtE_4)
  have wx98 := hts _ (List.mem_cons_of_mem _ mxX_98)
  have wn1 := hts _ (List.mem_cons_of_mem _ mnE_1)
  have wt1 := hts _ (List.mem_cons_of_mem _ mtE_1)
  refine lv_aload_n hx hb dX_walk_0 rfl (lv_at hl 0 rfl) ?_
  refine va_get (D := D) (ci := 1) (v := .ref (oa 1)) (C := RX) (T := TX) (N := 6) hx hb hts inX_ hown hK hP 0 rfl hcl.1 0 (by decide) f12 (fun _ h9 => h9) rfl dX_walk_1 ?_
  refine lv_iload_n hx hb dX_walk_4 rfl (lv_at hl 1 rfl) ?_
  refine ro_callV (r := (.int (mr_Sh_hasDesign nD d))) (As := [.int d]) (rest := []) Sx (c_Sh_hasDesign l D cl hcl oa ca ck F G hP nD d k1) (cwV 1 hts gX_walk_Sh_hasDesign rfl rfl rfl (by decide +kernel) ⟨Nat.le_of_ble_eq_true rfl, Nat.le_of_ble_eq_true rfl⟩) hK (va_recv hK hP (ci := 2) (q0 := 1) hcl.2.1 rfl) rfl hl.1 rfl (Nat.le_of_ble_eq_true rfl) dX_walk_5 ⟨Nat.zero_le _, Nat.zero_le _⟩ ?_
  refine lv_if_ne (tgt := 21) hx hb dX_walk_8 (by decide) (fun c8 => ?_) (fun c8 => ?_)
  · have xd := ix_cl (hasDesign_ix c8 (by omega)) (by omega)
    have xd2 := xd.2
    refine lv_aload_n hx hb dX_walk_21 rfl (lv_at hl 0 rfl) ?_
    refine va_get (D := D) (ci := 1) (v := .ref (oa 3)) (C := RX) (T := TX) (N := 6) hx hb hts inX_ hown hK hP 0 rfl hcl.1 1 (by decide) f21 (fun _ h9 => h9) rfl dX_walk_22 ?_
    refine lv_iload_n hx hb dX_walk_25 rfl (lv_at hl 1 rfl) ?_
    refine wt_i (r := nI (d.toNatClampNeg)) (by exact xd.1) ?_
    refine ro_callV (r := (.int (mr_Bo_allows (G 8) (G 9) (G 10) (G 11) (d.toNatClampNeg)))) (As := [.int (nI (d.toNatClampNeg))]) (rest := []) Sx (c_Bo_allows l D cl hcl oa ca ck F G hP (d.toNatClampNeg) (by omega)) (cwV 1 hts gX_walk_Bo_allows rfl rfl rfl (by decide +kernel) ⟨Nat.le_of_ble_eq_true rfl, Nat.le_of_ble_eq_true rfl⟩) hK (va_recv hK hP (ci := 4) (q0 := 3) hcl.2.2.2.1 rfl) rfl hl.1 rfl (Nat.le_of_ble_eq_true rfl) dX_walk_26 ⟨Nat.zero_le _, Nat.zero_le _⟩ ?_
    refine lv_if_eq (tgt := 44) hx hb dX_walk_29 (by decide) (fun c29 => ?_) (fun c29 => ?_)
    · have ex : mrx_X_walk (G 8) (G 9) (G 10) (G 11) nC nD d sp = 2 := by rw [mrx_X_walk, if_neg c8, if_pos c29]
      rw [hQ, ex, exn_2]
      have em : mr_X_walk (F 9) (F 10) (F 11) (F 12) (G 0) (G 1) (G 8) (G 9) (G 10) (G 11) nC nD d sp = (0, F 9, F 11, F 12) := by rw [mr_X_walk, if_neg c8, if_pos c29]
      have hP9 : va_P D cl (cW oa ca ck (upd (upd (upd F 9 ((mr_X_walk (F 9) (F 10) (F 11) (F 12) (G 0) (G 1) (G 8) (G 9) (G 10) (G 11) nC nD d sp).2.1)) 11 ((mr_X_walk (F 9) (F 10) (F 11) (F 12) (G 0) (G 1) (G 8) (G 9) (G 10) (G 11) nC nD d sp).2.2.1)) 12 ((mr_X_walk (F 9) (F 10) (F 11) (F 12) (G 0) (G 1) (G 8) (G 9) (G 10) (G 11) nC nD d sp).2.2.2)) G) H := by simp only [em]; rw [upd_keep (f := F) (j := 9) (x := F 9) rfl, upd_keep (f := F) (j := 11) (x := F 11) rfl, upd_keep (f := F) (j := 12) (x := F 12) rfl]; exact hP
      have hD9 : va_D A (cW oa ca ck (upd (upd (upd F 9 ((mr_X_walk (F 9) (F 10) (F 11) (F 12) (G 0) (G 1) (G 8) (G 9) (G 10) (G 11) nC nD d sp).2.1)) 11 ((mr_X_walk (F 9) (F 10) (F 11) (F 12) (G 0) (G 1) (G 8) (G 9) (G 10) (G 11) nC nD d sp).2.2.1)) 12 ((mr_X_walk (F 9) (F 10) (F 11) (F 12) (G 0) (G 1) (G 8) (G 9) (G 10) (G 11) nC nD d sp).2.2.2)) G) := by simp only [em]; rw [upd_keep (f := F) (j := 9) (x := F 9) rfl, upd_keep (f := F) (j := 11) (x := F 11) rfl, upd_keep (f := F) (j := 12) (x := F 12) rfl]; exact hD
      exact tx_new (A := A) (i1 := 58) (i2 := 206) (i3 := 62) (own := RX) (up := xup) (tx := strsX_206) hlt hx hb (hml.trans hl.1.symm) hlk (hno _) hown (by decide +kernel) (by decide +kernel) (xo_use xo_2 hts) wt2 wx58 wn2 hZw (fun w9 h9 => hZ w9 (List.mem_append_left _ h9)) (hZ _ (List.mem_append_right _ mrX_206)) (fun q hq => (hS.2.1 q (Nat.lt_of_lt_of_le hq hZ0) (by rw [hAe]; exact hZA q hq)).trans (hZH q hq)) hS.2.2 dX_walk_44 dX_walk_47 dX_walk_48 dX_walk_50 dX_walk_53 (Nat.le_refl _) (Nat.le_refl _) (by decide) (by decide) rfl rfl (fun H1 h1 h2 => ⟨va_old hP9 h2, by rw [← hAe]; exact hD9⟩)
    · refine lv_iload_n hx hb dX_walk_32 rfl (lv_at hl 2 rfl) ?_
      refine lv_iconst (v := 1) hx hb dX_walk_33 (by decide) ?_
      refine lv_icmp_lt (tgt := 44) hx hb dX_walk_34 (by decide) (fun c34 => ?_) (fun c34 => ?_)
      · have ex : mrx_X_walk (G 8) (G 9) (G 10) (G 11) nC nD d sp = 2 := by rw [mrx_X_walk, if_neg c8, if_neg c29, if_pos c34]
        rw [hQ, ex, exn_2]
        have em : mr_X_walk (F 9) (F 10) (F 11) (F 12) (G 0) (G 1) (G 8) (G 9) (G 10) (G 11) nC nD d sp = (0, F 9, F 11, F 12) := by rw [mr_X_walk, if_neg c8, if_neg c29, if_pos c34]
        have hP9 : va_P D cl (cW oa ca ck (upd (upd (upd F 9 ((mr_X_walk (F 9) (F 10) (F 11) (F 12) (G 0) (G 1) (G 8) (G 9) (G 10) (G 11) nC nD d sp).2.1)) 11 ((mr_X_walk (F 9) (F 10) (F 11) (F 12) (G 0) (G 1) (G 8) (G 9) (G 10) (G 11) nC nD d sp).2.2.1)) 12 ((mr_X_walk (F 9) (F 10) (F 11) (F 12) (G 0) (G 1) (G 8) (G 9) (G 10) (G 11) nC nD d sp).2.2.2)) G) H := by simp only [em]; rw [upd_keep (f := F) (j := 9) (x := F 9) rfl, upd_keep (f := F) (j := 11) (x := F 11) rfl, upd_keep (f := F) (j := 12) (x := F 12) rfl]; exact hP
        have hD9 : va_D A (cW oa ca ck (upd (upd (upd F 9 ((mr_X_walk (F 9) (F 10) (F 11) (F 12) (G 0) (G 1) (G 8) (G 9) (G 10) (G 11) nC nD d sp).2.1)) 11 ((mr_X_walk (F 9) (F 10) (F 11) (F 12) (G 0) (G 1) (G 8) (G 9) (G 10) (G 11) nC nD d sp).2.2.1)) 12 ((mr_X_walk (F 9) (F 10) (F 11) (F 12) (G 0) (G 1) (G 8) (G 9) (G 10) (G 11) nC nD d sp).2.2.2)) G) := by simp only [em]; rw [upd_keep (f := F) (j := 9) (x := F 9) rfl, upd_keep (f := F) (j := 11) (x := F 11) rfl, upd_keep (f := F) (j := 12) (x := F 12) rfl]; exact hD
        exact tx_new (A := A) (i1 := 58) (i2 := 206) (i3 := 62) (own := RX) (up := xup) (tx := strsX_206) hlt hx hb (hml.trans hl.1.symm) hlk (hno _) hown (by decide +kernel) (by decide +kernel) (xo_use xo_2 hts) wt2 wx58 wn2 hZw (fun w9 h9 => hZ w9 (List.mem_append_left _ h9)) (hZ _ (List.mem_append_right _ mrX_206)) (fun q hq => (hS.2.1 q (Nat.lt_of_lt_of_le hq hZ0) (by rw [hAe]; exact hZA q hq)).trans (hZH q hq)) hS.2.2 dX_walk_44 dX_walk_47 dX_walk_48 dX_walk_50 dX_walk_53 (Nat.le_refl _) (Nat.le_refl _) (by decide) (by decide) rfl rfl (fun H1 h1 h2 => ⟨va_old hP9 h2, by rw [← hAe]; exact hD9⟩)
      · refine lv_iload_n hx hb dX_walk_37 rfl (lv_at hl 2 rfl) ?_
        refine lv_sipush (v := 1000) hx hb dX_walk_38 (by decide) ?_
        refine lv_icmp_le (tgt := 54) hx hb dX_walk_41 (by decide) (fun c41 => ?_) (fun c41 => ?_)
        · have xp := ix_cl (le_ix1 c34 c41 (n := 1000) (by decide)) (by decide)
          have xp2 := xp.2
          refine lv_aload_n hx hb dX_walk_54 rfl (lv_at hl 0 rfl) ?_
          refine va_get (D := D) (ci := 1) (v := .ref (oa 1)) (C := RX) (T := TX) (N := 6) hx hb hts inX_ hown hK hP 0 rfl hcl.1 0 (by decide) f12 (fun _ h9 => h9) rfl dX_walk_55 ?_
          refine va_get (D := D) (ci := 2) (v := .int (F 0)) (C := RSh) (T := TSh) (N := 4) hx hb hts inSh_ hown hK hP 1 rfl hcl.2.1 2 (by decide) f87 (fun _ h9 => h9) rfl dX_walk_58 ?_
          refine wt_i k0 ?_
          refine lv_if_ne (tgt := 74) hx hb dX_walk_61 (by decide) (fun c61 => ?_) (fun c61 => ?_)
          · have n61 : ¬ nC = 0 := fun h9 => c61 ((nI_eq (a := nC) (b := 0) (by omega) (by omega)).mpr h9)
            exact absurd (by rw [mrx_X_walk, if_neg c8, if_neg c29, if_neg c34, if_pos c41, if_neg c61]) hnx
          · have n61 : nC = 0 := (nI_eq (a := nC) (b := 0) (by omega) (by omega)).mp c61
            have ex : mrx_X_walk (G 8) (G 9) (G 10) (G 11) nC nD d sp = 4 := by rw [mrx_X_walk, if_neg c8, if_neg c29, if_neg c34, if_pos c41, if_pos c61]
            rw [hQ, ex, exn_4]
            have em : mr_X_walk (F 9) (F 10) (F 11) (F 12) (G 0) (G 1) (G 8) (G 9) (G 10) (G 11) nC nD d sp = (0, F 9, F 11, F 12) := by rw [mr_X_walk, if_neg c8, if_neg c29, if_neg c34, if_pos c41, if_pos c61]
            have hP9 : va_P D cl (cW oa ca ck (upd (upd (upd F 9 ((mr_X_walk (F 9) (F 10) (F 11) (F 12) (G 0) (G 1) (G 8) (G 9) (G 10) (G 11) nC nD d sp).2.1)) 11 ((mr_X_walk (F 9) (F 10) (F 11) (F 12) (G 0) (G 1) (G 8) (G 9) (G 10) (G 11) nC nD d sp).2.2.1)) 12 ((mr_X_walk (F 9) (F 10) (F 11) (F 12) (G 0) (G 1) (G 8) (G 9) (G 10) (G 11) nC nD d sp).2.2.2)) G) H := by simp only [em]; rw [upd_keep (f := F) (j := 9) (x := F 9) rfl, upd_keep (f := F) (j := 11) (x := F 11) rfl, upd_keep (f := F) (j := 12) (x := F 12) rfl]; exact hP
            have hD9 : va_D A (cW oa ca ck (upd (upd (upd F 9 ((mr_X_walk (F 9) (F 10) (F 11) (F 12) (G 0) (G 1) (G 8) (G 9) (G 10) (G 11) nC nD d sp).2.1)) 11 ((mr_X_walk (F 9) (F 10) (F 11) (F 12) (G 0) (G 1) (G 8) (G 9) (G 10) (G 11) nC nD d sp).2.2.1)) 12 ((mr_X_walk (F 9) (F 10) (F 11) (F 12) (G 0) (G 1) (G 8) (G 9) (G 10) (G 11) nC nD d sp).2.2.2)) G) := by simp only [em]; rw [upd_keep (f := F) (j := 9) (x := F 9) rfl, upd_keep (f := F) (j := 11) (x := F 11) rfl, upd_keep (f := F) (j := 12) (x := F 12) rfl]; exact hD
            exact tx_new (A := A) (i1 := 208) (i2 := 210) (i3 := 212) (own := RX) (up := xup) (tx := strsX_210) hlt hx hb (hml.trans hl.1.symm) hlk (hno _) hown (by decide +kernel) (by decide +kernel) (xo_use xo_4 hts) wt4 wx208 wn4 hZw (fun w9 h9 => hZ w9 (List.mem_append_left _ h9)) (hZ _ (List.mem_append_right _ mrX_210)) (fun q hq => (hS.2.1 q (Nat.lt_of_lt_of_le hq hZ0) (by rw [hAe]; exact hZA q hq)).trans (hZH q hq)) hS.2.2 dX_walk_64 dX_walk_67 dX_walk_68 dX_walk_70 dX_walk_73 (Nat.le_refl _) (Nat.le_refl _) (by decide) (by decide) rfl rfl (fun H1 h1 h2 => ⟨va_old hP9 h2, by rw [← hAe]; exact hD9⟩)
        · have ex : mrx_X_walk (G 8) (G 9) (G 10) (G 11) nC nD d sp = 2 := by rw [mrx_X_walk, if_neg c8, if_neg c29, if_neg c34, if_neg c41]
          rw [hQ, ex, exn_2]
          have em : mr_X_walk (F 9) (F 10) (F 11) (F 12) (G 0) (G 1) (G 8) (G 9) (G 10) (G 11) nC nD d sp = (0, F 9, F 11, F 12) := by rw [mr_X_walk, if_neg c8, if_neg c29, if_neg c34, if_neg c41]
          have hP9 : va_P D cl (cW oa ca ck (upd (upd (upd F 9 ((mr_X_walk (F 9) (F 10) (F 11) (F 12) (G 0) (G 1) (G 8) (G 9) (G 10) (G 11) nC nD d sp).2.1)) 11 ((mr_X_walk (F 9) (F 10) (F 11) (F 12) (G 0) (G 1) (G 8) (G 9) (G 10) (G 11) nC nD d sp).2.2.1)) 12 ((mr_X_walk (F 9) (F 10) (F 11) (F 12) (G 0) (G 1) (G 8) (G 9) (G 10) (G 11) nC nD d sp).2.2.2)) G) H := by simp only [em]; rw [upd_keep (f := F) (j := 9) (x := F 9) rfl, upd_keep (f := F) (j := 11) (x := F 11) rfl, upd_keep (f := F) (j := 12) (x := F 12) rfl]; exact hP
          have hD9 : va_D A (cW oa ca ck (upd (upd (upd F 9 ((mr_X_walk (F 9) (F 10) (F 11) (F 12) (G 0) (G 1) (G 8) (G 9) (G 10) (G 11) nC nD d sp).2.1)) 11 ((mr_X_walk (F 9) (F 10) (F 11) (F 12) (G 0) (G 1) (G 8) (G 9) (G 10) (G 11) nC nD d sp).2.2.1)) 12 ((mr_X_walk (F 9) (F 10) (F 11) (F 12) (G 0) (G 1) (G 8) (G 9) (G 10) (G 11) nC nD d sp).2.2.2)) G) := by simp only [em]; rw [upd_keep (f := F) (j := 9) (x := F 9) rfl, upd_keep (f := F) (j := 11) (x := F 11) rfl, upd_keep (f := F) (j := 12) (x := F 12) rfl]; exact hD
          exact tx_new (A := A) (i1 := 58) (i2 := 206) (i3 := 62) (own := RX) (up := xup) (tx := strsX_206) hlt hx hb (hml.trans hl.1.symm) hlk (hno _) hown (by decide +kernel) (by decide +kernel) (xo_use xo_2 hts) wt2 wx58 wn2 hZw (fun w9 h9 => hZ w9 (List.mem_append_left _ h9)) (hZ _ (List.mem_append_right _ mrX_206)) (fun q hq => (hS.2.1 q (Nat.lt_of_lt_of_le hq hZ0) (by rw [hAe]; exact hZA q hq)).trans (hZH q hq)) hS.2.2 dX_walk_44 dX_walk_47 dX_walk_48 dX_walk_50 dX_walk_53 (Nat.le_refl _) (Nat.le_refl _) (by decide) (by decide) rfl rfl (fun H1 h1 h2 => ⟨va_old hP9 h2, by rw [← hAe]; exact hD9⟩)
  · have ex : mrx_X_walk (G 8) (G 9) (G 10) (G 11) nC nD d sp = 1 := by rw [mrx_X_walk, if_pos c8]
    rw [hQ, ex, exn_1]
    have em : mr_X_walk (F 9) (F 10) (F 11) (F 12) (G 0) (G 1) (G 8) (G 9) (G 10) (G 11) nC nD d sp = (0, F 9, F 11, F 12) := by rw [mr_X_walk, if_pos c8]
    have hP9 : va_P D cl (cW oa ca ck (upd (upd (upd F 9 ((mr_X_walk (F 9) (F 10) (F 11) (F 12) (G 0) (G 1) (G 8) (G 9) (G 10) (G 11) nC nD d sp).2.1)) 11 ((mr_X_walk (F 9) (F 10) (F 11) (F 12) (G 0) (G 1) (G 8) (G 9) (G 10) (G 11) nC nD d sp).2.2.1)) 12 ((mr_X_walk (F 9) (F 10) (F 11) (F 12) (G 0) (G 1) (G 8) (G 9) (G 10) (G 11) nC nD d sp).2.2.2)) G) H := by simp only [em]; rw [upd_keep (f := F) (j := 9) (x := F 9) rfl, upd_keep (f := F) (j := 11) (x := F 11) rfl, upd_keep (f := F) (j := 12) (x := F 12) rfl]; exact hP
    have hD9 : va_D A (cW oa ca ck (upd (upd (upd F 9 ((mr_X_walk (F 9) (F 10) (F 11) (F 12) (G 0) (G 1) (G 8) (G 9) (G 10) (G 11) nC nD d sp).2.1)) 11 ((mr_X_walk (F 9) (F 10) (F 11) (F 12) (G 0) (G 1) (G 8) (G 9) (G 10) (G 11) nC nD d sp).2.2.1)) 12 ((mr_X_walk (F 9) (F 10) (F 11) (F 12) (G 0) (G 1) (G 8) (G 9) (G 10) (G 11) nC nD d sp).2.2.2)) G) := by simp only [em]; rw [upd_keep (f := F) (j := 9) (x := F 9) rfl, upd_keep (f := F) (j := 11) (x := F 11) rfl, upd_keep (f := F) (j := 12) (x := F 12) rfl]; exact hD
    exact tx_new (A := A) (i1 := 98) (i2 := 156) (i3 := 102) (own := RX) (up := xup) (tx := strsX_156) hlt hx hb (hml.trans hl.1.symm) hlk (hno _) hown (by decide +kernel) (by decide +kernel) (xo_use xo_1 hts) wt1 wx98 wn1 hZw (fun w9 h9 => hZ w9 (List.mem_append_left _ h9)) (hZ _ (List.mem_append_right _ mrX_156)) (fun q hq => (hS.2.1 q (Nat.lt_of_lt_of_le hq hZ0) (by rw [hAe]; exact hZA q hq)).trans (hZH q hq)) hS.2.2 dX_walk_11 dX_walk_14 dX_walk_15 dX_walk_17 dX_walk_20 (Nat.le_refl _) (Nat.le_refl _) (by decide) (by decide) rfl rfl (fun H1 h1 h2 => ⟨va_old hP9 h2, by rw [← hAe]; exact hD9⟩)
def mr_X_matters (g0 : Nat → Int32) (g1 : Nat → Int32) (g8 : Nat → Int32) (g9 : Nat → Int32) (g10 : Nat → Int32) (g11 : Nat → Int32) (nC : Nat) (nD : Nat) (ch : Int32) (nu : Int32) : Int64 := (if (mr_Sh_hasChoice nC ch) = 0 then 0 else (if (mr_X_isNumber nu) = 0 then 0 else (mr_Bo_greatestDifference g0 g1 g8 g9 g10 g11 nC nD (ch.toNatClampNeg) (nu.toNatClampNeg))))
def mrx_X_matters (nC : Nat) (nD : Nat) (ch : Int32) (nu : Int32) : Int32 := (if (mr_Sh_hasChoice nC ch) = 0 then 1 else (if (mr_X_isNumber nu) = 0 then 1 else 0))
set_option maxHeartbeats 4000000 in
set_option maxRecDepth 100000 in
theorem c_X_matters (l : Launch) (D : va_G) (cl : List vw_C) (hcl : cOK cl) (oa ca : Nat → Nat) (ck : Nat → ClassId) (F : Nat → Int32) (G : Nat → Nat → Int32) {H : Heap} (hP : va_P D cl (cW oa ca ck F G) H) (nC : Nat) (nD : Nat) (ch : Int32) (nu : Int32) (k0 : F 0 = nI nC) (hC : nC ≤ 8) (k1 : F 1 = nI nD) (hN : nD ≤ 4096) (s0 : ∀ c, c < nC → ∃ z : Nat, G 0 c = nI z ∧ 2 ≤ z ∧ z ≤ 6) (s1 : ∀ c, c < nC → G 1 c = nI (pc_ (zg (G 0)) nC c)) (hmp : mp (zg (G 0)) 0 nC = nD) (hnx : mrx_X_matters nC nD ch nu = 0) : ro_Met l yX_matters wsX_matters ({ frames := 4, cells := 0, slots := 0, locals := 101 } : Room) D cl (cT ck) H [.ref (oa 0), .int ch, .int nu] (.long (mr_X_matters (G 0) (G 1) (G 8) (G 9) (G 10) (G 11) nC nD ch nu)) := by
  refine ro_metJ (by decide) rfl (Nat.le_of_ble_eq_true rfl) ?_
  intro p e s m args below meth c Q Sx hK ls hl hret
  obtain ⟨hx, hb, hml, hown, hts⟩ := id Sx
  have hl : lv_has ls 3 [(0, .ref (oa 0)), (1, .int ch), (2, .int nu)] := hl
  have f12 := hts _ (List.mem_cons_of_mem _ mfX_12)
  have inX_ : ∀ w ∈ wsX0, w ∈ wsX_matters := fun w h => List.mem_cons_of_mem _ (inX_all w h)
  have f21 := hts _ (List.mem_cons_of_mem _ mfX_21)
  refine lv_aload_n hx hb dX_matters_0 rfl (lv_at hl 0 rfl) ?_
  refine va_get (D := D) (ci := 1) (v := .ref (oa 1)) (C := RX) (T := TX) (N := 6) hx hb hts inX_ hown hK hP 0 rfl hcl.1 0 (by decide) f12 (fun _ h9 => h9) rfl dX_matters_1 ?_
  refine lv_iload_n hx hb dX_matters_4 rfl (lv_at hl 1 rfl) ?_
  refine ro_callV (r := (.int (mr_Sh_hasChoice nC ch))) (As := [.int ch]) (rest := []) Sx (c_Sh_hasChoice l D cl hcl oa ca ck F G hP nC ch k0) (cwV 1 hts gX_matters_Sh_hasChoice rfl rfl rfl (by decide +kernel) ⟨Nat.le_of_ble_eq_true rfl, Nat.le_of_ble_eq_true rfl⟩) hK (va_recv hK hP (ci := 2) (q0 := 1) hcl.2.1 rfl) rfl hl.1 rfl (Nat.le_of_ble_eq_true rfl) dX_matters_5 ⟨Nat.zero_le _, Nat.zero_le _⟩ ?_
  refine lv_if_eq (tgt := 18) hx hb dX_matters_8 (by decide) (fun c8 => ?_) (fun c8 => ?_)
  · exact absurd hnx (by rw [mrx_X_matters, if_pos c8]; decide)
  · have xc := ix_cl (hasChoice_ix c8 (by omega)) (by omega)
    refine lv_iload_n hx hb dX_matters_11 rfl (lv_at hl 2 rfl) ?_
    refine ro_callS (r := (.int (mr_X_isNumber nu))) (As := [.int nu]) (rest := []) Sx (c_X_isNumber l D cl hcl oa ca ck F G hP nu) (va_cwS 1 hts gX_matters_X_isNumber rfl rfl rfl (by decide +kernel) ⟨Nat.le_of_ble_eq_true rfl, Nat.le_of_ble_eq_true rfl⟩) hK rfl hl.1 rfl (Nat.le_of_ble_eq_true rfl) dX_matters_12 ⟨Nat.zero_le _, Nat.zero_le _⟩ ?_
    refine lv_if_ne (tgt := 28) hx hb dX_matters_15 (by decide) (fun c15 => ?_) (fun c15 => ?_)
    · have xn := ix_cl (num_ix c15) (by omega)
      refine lv_aload_n hx hb dX_matters_28 rfl (lv_at hl 0 rfl) ?_
      refine va_get (D := D) (ci := 1) (v := .ref (oa 3)) (C := RX) (T := TX) (N := 6) hx hb hts inX_ hown hK hP 0 rfl hcl.1 1 (by decide) f21 (fun _ h9 => h9) rfl dX_matters_29 ?_
      refine lv_iload_n hx hb dX_matters_32 rfl (lv_at hl 1 rfl) ?_
      refine wt_i (r := nI (ch.toNatClampNeg)) (by exact xc.1) ?_
      refine lv_iload_n hx hb dX_matters_33 rfl (lv_at hl 2 rfl) ?_
      refine wt_i (r := nI (nu.toNatClampNeg)) (by exact xn.1) ?_
      refine ro_callV (r := (.long (mr_Bo_greatestDifference (G 0) (G 1) (G 8) (G 9) (G 10) (G 11) nC nD (ch.toNatClampNeg) (nu.toNatClampNeg)))) (As := [.int (nI (ch.toNatClampNeg)), .int (nI (nu.toNatClampNeg))]) (rest := []) Sx (c_Bo_greatestDifference l D cl hcl oa ca ck F G hP nC nD (ch.toNatClampNeg) (nu.toNatClampNeg) hC k1 hN s0 s1 hmp xc.2 xn.2) (cwV 2 hts gX_matters_Bo_greatestDifference rfl rfl rfl (by decide +kernel) ⟨Nat.le_of_ble_eq_true rfl, Nat.le_of_ble_eq_true rfl⟩) hK (va_recv hK hP (ci := 4) (q0 := 3) hcl.2.2.2.1 rfl) rfl hl.1 rfl (Nat.le_of_ble_eq_true rfl) dX_matters_34 ⟨Nat.zero_le _, Nat.zero_le _⟩ ?_
      exact hret _ _ _ (by rw [mr_X_matters, if_neg c8, if_neg c15]) dX_matters_37
    · exact absurd hnx (by rw [mrx_X_matters, if_neg c8, if_pos c15]; decide)
set_option maxHeartbeats 4000000 in
set_option maxRecDepth 100000 in
theorem t_X_matters (l : Launch) (hlt : l.stackTraces = false) (Z : State) (hZ : ∀ w ∈ xws ++ sALL, w.before #[] Z = true) (D : va_G) (cl : List vw_C) (hcl : cOK cl) (oa ca : Nat → Nat) (ck : Nat → ClassId) (F : Nat → Int32) (G : Nat → Nat → Int32) {H : Heap} (hP : va_P D cl (cW oa ca ck F G) H) (hD : va_D (fun _ => True) (cW oa ca ck F G)) (hZ0 : Z.heap.size ≤ H.size) (hZH : ∀ q : Nat, q < Z.heap.size → H[q]? = Z.heap[q]?) (hZA : ∀ q : Nat, q < Z.heap.size → ¬ va_A (cW oa ca ck F G) H.size q) (nC : Nat) (nD : Nat) (ch : Int32) (nu : Int32) (k0 : F 0 = nI nC) (hC : nC ≤ 8) (k1 : F 1 = nI nD) (hN : nD ≤ 4096) (s0 : ∀ c, c < nC → ∃ z : Nat, G 0 c = nI z ∧ 2 ≤ z ∧ z ≤ 6) (s1 : ∀ c, c < nC → G 1 c = nI (pc_ (zg (G 0)) nC c)) (hmp : mp (zg (G 0)) 0 nC = nD) (hnx : ¬ mrx_X_matters nC nD ch nu = 0) : tx_Met l yX_matters wsX_matters ({ frames := 6, cells := 1, slots := 6, locals := 101 } : Room) (tx_P Z D cl (cT ck) H [.ref (oa 0), .int ch, .int nu]) (exn (mrx_X_matters nC nD ch nu)) 1 6 (va_A (cW oa ca ck F G) H.size) (fun H1 => va_P D cl (cW oa ca ck F G) H1 ∧ va_D (va_A (cW oa ca ck F G) H.size) (cW oa ca ck F G)) := by
  refine tx_met (by decide) rfl (Nat.le_of_ble_eq_true rfl) hP hD ?_
  intro p e s m args below meth c Q A hAe hQ Sx hK hZw hlk hno hP hD hS hA ls hl
  obtain ⟨hx, hb, hml, hown, hts⟩ := id Sx
  have hl : lv_has ls 3 [(0, .ref (oa 0)), (1, .int ch), (2, .int nu)] := hl
  have hD : va_D (fun _ => True) (cW oa ca ck F G) := hD.weaken (fun _ _ _ _ => trivial)
  have f12 := hts _ (List.mem_cons_of_mem _ mfX_12)
  have inX_ : ∀ w ∈ wsX0, w ∈ wsX_matters := fun w h => List.mem_cons_of_mem _ (inX_all w h)
  have wx98 := hts _ (List.mem_cons_of_mem _ mxX_98)
  have wn1 := hts _ (List.mem_cons_of_mem _ mnE_1)
  have wt1 := hts _ (List.mem_cons_of_mem _ mtE_1)
  refine lv_aload_n hx hb dX_matters_0 rfl (lv_at hl 0 rfl) ?_
  refine va_get (D := D) (ci := 1) (v := .ref (oa 1)) (C := RX) (T := TX) (N := 6) hx hb hts inX_ hown hK hP 0 rfl hcl.1 0 (by decide) f12 (fun _ h9 => h9) rfl dX_matters_1 ?_
  refine lv_iload_n hx hb dX_matters_4 rfl (lv_at hl 1 rfl) ?_
  refine ro_callV (r := (.int (mr_Sh_hasChoice nC ch))) (As := [.int ch]) (rest := []) Sx (c_Sh_hasChoice l D cl hcl oa ca ck F G hP nC ch k0) (cwV 1 hts gX_matters_Sh_hasChoice rfl rfl rfl (by decide +kernel) ⟨Nat.le_of_ble_eq_true rfl, Nat.le_of_ble_eq_true rfl⟩) hK (va_recv hK hP (ci := 2) (q0 := 1) hcl.2.1 rfl) rfl hl.1 rfl (Nat.le_of_ble_eq_true rfl) dX_matters_5 ⟨Nat.zero_le _, Nat.zero_le _⟩ ?_
  refine lv_if_eq (tgt := 18) hx hb dX_matters_8 (by decide) (fun c8 => ?_) (fun c8 => ?_)
  · have ex : mrx_X_matters nC nD ch nu = 1 := by rw [mrx_X_matters, if_pos c8]
    rw [hQ, ex, exn_1]
    exact tx_new (A := A) (i1 := 98) (i2 := 219) (i3 := 102) (own := RX) (up := xup) (tx := strsX_219) hlt hx hb (hml.trans hl.1.symm) hlk (hno _) hown (by decide +kernel) (by decide +kernel) (xo_use xo_1 hts) wt1 wx98 wn1 hZw (fun w9 h9 => hZ w9 (List.mem_append_left _ h9)) (hZ _ (List.mem_append_right _ mrX_219)) hZH (fun x9 h9 => absurd h9 List.not_mem_nil) dX_matters_18 dX_matters_21 dX_matters_22 dX_matters_24 dX_matters_27 (Nat.le_refl _) (Nat.le_refl _) (by decide) (by decide) rfl rfl (fun H1 h1 h2 => ⟨va_old hP h2, hD.self⟩)
  · have xc := ix_cl (hasChoice_ix c8 (by omega)) (by omega)
    refine lv_iload_n hx hb dX_matters_11 rfl (lv_at hl 2 rfl) ?_
    refine ro_callS (r := (.int (mr_X_isNumber nu))) (As := [.int nu]) (rest := []) Sx (c_X_isNumber l D cl hcl oa ca ck F G hP nu) (va_cwS 1 hts gX_matters_X_isNumber rfl rfl rfl (by decide +kernel) ⟨Nat.le_of_ble_eq_true rfl, Nat.le_of_ble_eq_true rfl⟩) hK rfl hl.1 rfl (Nat.le_of_ble_eq_true rfl) dX_matters_12 ⟨Nat.zero_le _, Nat.zero_le _⟩ ?_
    refine lv_if_ne (tgt := 28) hx hb dX_matters_15 (by decide) (fun c15 => ?_) (fun c15 => ?_)
    · have xn := ix_cl (num_ix c15) (by omega)
      exact absurd (by rw [mrx_X_matters, if_neg c8, if_neg c15]) hnx
    · have ex : mrx_X_matters nC nD ch nu = 1 := by rw [mrx_X_matters, if_neg c8, if_pos c15]
      rw [hQ, ex, exn_1]
      exact tx_new (A := A) (i1 := 98) (i2 := 219) (i3 := 102) (own := RX) (up := xup) (tx := strsX_219) hlt hx hb (hml.trans hl.1.symm) hlk (hno _) hown (by decide +kernel) (by decide +kernel) (xo_use xo_1 hts) wt1 wx98 wn1 hZw (fun w9 h9 => hZ w9 (List.mem_append_left _ h9)) (hZ _ (List.mem_append_right _ mrX_219)) hZH (fun x9 h9 => absurd h9 List.not_mem_nil) dX_matters_18 dX_matters_21 dX_matters_22 dX_matters_24 dX_matters_27 (Nat.le_refl _) (Nat.le_refl _) (by decide) (by decide) rfl rfl (fun H1 h1 h2 => ⟨va_old hP h2, hD.self⟩)
def mr_X_sweep (f1 : Int32) (f13 : Int32) (f14 : Int32) (g8 : Nat → Int32) (g9 : Nat → Int32) (g10 : Nat → Int32) (g11 : Nat → Int32) (nD : Nat) (pl : Nat) (n : Int32) : Int32 × Int32 × Int32 := (if n < 1 then (0, f13, f14) else (if n ≤ 5000 then (if (mr_Sw_isAtEnd f1 f13) = 0 then ((mr_Sw_goOn f14 g8 g9 g10 g11 nD pl (n.toNatClampNeg)).1, (mr_Sw_goOn f14 g8 g9 g10 g11 nD pl (n.toNatClampNeg)).2.1, (mr_Sw_goOn f14 g8 g9 g10 g11 nD pl (n.toNatClampNeg)).2.2) else (0, f13, f14)) else (0, f13, f14)))
def mrx_X_sweep (f1 : Int32) (f13 : Int32) (nD : Nat) (pl : Nat) (n : Int32) : Int32 := (if n < 1 then 2 else (if n ≤ 5000 then (if (mr_Sw_isAtEnd f1 f13) = 0 then 0 else 4) else 2))
set_option maxHeartbeats 4000000 in
set_option maxRecDepth 100000 in
theorem c_X_sweep (l : Launch) (D : va_G) (cl : List vw_C) (hcl : cOK cl) (oa ca : Nat → Nat) (ck : Nat → ClassId) (F : Nat → Int32) (G : Nat → Nat → Int32) {H0 : Heap} (hP : va_P D cl (cW oa ca ck F G) H0) (hD : va_D (fun _ => True) (cW oa ca ck F G)) (nD : Nat) (pl : Nat) (n : Int32) (k1 : F 1 = nI nD) (hN : nD ≤ 4096) (k13 : F 13 = nI pl) (hpl : pl ≤ nD) (hnx : mrx_X_sweep (F 1) (F 13) nD pl n = 0) : ww_Met l yX_sweep wsX_sweep ({ frames := 3, cells := 0, slots := 0, locals := 68 } : Room) D cl (cT ck) H0 [.ref (oa 0), .int n] (cW oa ca ck F G) (some (.int ((mr_X_sweep (F 1) (F 13) (F 14) (G 8) (G 9) (G 10) (G 11) nD pl n).1))) (cW oa ca ck (upd (upd F 13 ((mr_X_sweep (F 1) (F 13) (F 14) (G 8) (G 9) (G 10) (G 11) nD pl n).2.1)) 14 ((mr_X_sweep (F 1) (F 13) (F 14) (G 8) (G 9) (G 10) (G 11) nD pl n).2.2)) G) := by
  refine ww_metI (by decide) rfl (Nat.le_of_ble_eq_true rfl) hP hD ?_
  intro p e s m args below meth c Q A Sx hK hP hD hS hA ls hl hret
  obtain ⟨hx, hb, hml, hown, hts⟩ := id Sx
  have hl : lv_has ls 2 [(0, .ref (oa 0)), (1, .int n)] := hl
  obtain ⟨H, eH⟩ : ∃ H : Heap, H = H0 := ⟨_, rfl⟩
  obtain ⟨locs, eL⟩ : ∃ L : List Loc, L = [] := ⟨_, rfl⟩
  have hP : va_P D cl (cW oa ca ck F G) H := by rw [eH]; exact hP
  have hS : va_S A H0 H locs := by rw [eH, eL]; exact hS
  rw [show W p l e ({ frames := 3, cells := 0, slots := 0, locals := 68 } : Room) s m args below meth c H0 [] 0 0 Q (F0 m 0 ls []) = W p l e ({ frames := 3, cells := 0, slots := 0, locals := 68 } : Room) s m args below meth c H locs 0 0 Q (F0 m 0 ls []) by rw [eH, eL]]
  clear eH eL
  have f54 := hts _ (List.mem_cons_of_mem _ mfX_54)
  have inX_ : ∀ w ∈ wsX0, w ∈ wsX_sweep := fun w h => List.mem_cons_of_mem _ (inX_all w h)
  refine lv_iload_n hx hb dX_sweep_0 rfl (lv_at hl 1 rfl) ?_
  refine lv_iconst (v := 1) hx hb dX_sweep_1 (by decide) ?_
  refine lv_icmp_lt (tgt := 12) hx hb dX_sweep_2 (by decide) (fun c2 => ?_) (fun c2 => ?_)
  · exact absurd hnx (by rw [mrx_X_sweep, if_pos c2]; decide)
  · refine lv_iload_n hx hb dX_sweep_5 rfl (lv_at hl 1 rfl) ?_
    refine lv_sipush (v := 5000) hx hb dX_sweep_6 (by decide) ?_
    refine lv_icmp_le (tgt := 22) hx hb dX_sweep_9 (by decide) (fun c9 => ?_) (fun c9 => ?_)
    · have xn := ix_cl (le_ix1 c2 c9 (n := 5000) (by decide)) (by decide)
      have xn2 := xn.2
      refine lv_aload_n hx hb dX_sweep_22 rfl (lv_at hl 0 rfl) ?_
      refine va_get (D := D) (ci := 1) (v := .ref (oa 7)) (C := RX) (T := TX) (N := 6) hx hb hts inX_ hown hK hP 0 rfl hcl.1 5 (by decide) f54 (fun _ h9 => h9) rfl dX_sweep_23 ?_
      refine ro_callV (r := (.int (mr_Sw_isAtEnd (F 1) (F 13)))) (As := []) (rest := []) Sx (c_Sw_isAtEnd l D cl hcl oa ca ck F G hP) (cwV 0 hts gX_sweep_Sw_isAtEnd rfl rfl rfl (by decide +kernel) ⟨Nat.le_of_ble_eq_true rfl, Nat.le_of_ble_eq_true rfl⟩) hK (va_recv hK hP (ci := 8) (q0 := 7) hcl.2.2.2.2.2.2.2 rfl) rfl hl.1 rfl (Nat.le_of_ble_eq_true rfl) dX_sweep_26 ⟨Nat.zero_le _, Nat.zero_le _⟩ ?_
      refine lv_if_eq (tgt := 42) hx hb dX_sweep_29 (by decide) (fun c29 => ?_) (fun c29 => ?_)
      · refine lv_aload_n hx hb dX_sweep_42 rfl (lv_at hl 0 rfl) ?_
        refine va_get (D := D) (ci := 1) (v := .ref (oa 7)) (C := RX) (T := TX) (N := 6) hx hb hts inX_ hown hK hP 0 rfl hcl.1 5 (by decide) f54 (fun _ h9 => h9) rfl dX_sweep_43 ?_
        refine lv_iload_n hx hb dX_sweep_46 rfl (lv_at hl 1 rfl) ?_
        refine wt_i (r := nI (n.toNatClampNeg)) (by exact xn.1) ?_
        refine ww_callV (r := (some (.int ((mr_Sw_goOn (F 14) (G 8) (G 9) (G 10) (G 11) nD pl (n.toNatClampNeg)).1)))) (w' := cW oa ca ck (upd (upd F 13 ((mr_Sw_goOn (F 14) (G 8) (G 9) (G 10) (G 11) nD pl (n.toNatClampNeg)).2.1)) 14 ((mr_Sw_goOn (F 14) (G 8) (G 9) (G 10) (G 11) nD pl (n.toNatClampNeg)).2.2)) G) (As := [.int (nI (n.toNatClampNeg))]) (rest := []) Sx (c_Sw_goOn l D cl hcl oa ca ck F G hP (hD.weaken (fun _ _ _ _ => trivial)) nD pl (n.toNatClampNeg) k1 hN k13 hpl (by omega)) (cwV 1 hts gX_sweep_Sw_goOn rfl rfl rfl (by decide +kernel) ⟨Nat.le_of_ble_eq_true rfl, Nat.le_of_ble_eq_true rfl⟩) hK (va_recv hK hP (ci := 8) (q0 := 7) hcl.2.2.2.2.2.2.2 rfl) rfl hl.1 rfl (Nat.le_of_ble_eq_true rfl) dX_sweep_47 ⟨Nat.zero_le _, Nat.zero_le _⟩ hD hS hA (fun H locs hP hD hS => ?_)
        have em : mr_X_sweep (F 1) (F 13) (F 14) (G 8) (G 9) (G 10) (G 11) nD pl n = ((mr_Sw_goOn (F 14) (G 8) (G 9) (G 10) (G 11) nD pl (n.toNatClampNeg)).1, (mr_Sw_goOn (F 14) (G 8) (G 9) (G 10) (G 11) nD pl (n.toNatClampNeg)).2.1, (mr_Sw_goOn (F 14) (G 8) (G 9) (G 10) (G 11) nD pl (n.toNatClampNeg)).2.2) := by rw [mr_X_sweep, if_neg c2, if_pos c9, if_pos c29]
        exact hret _ _ _ _ _ _ (by simp only [em]) (by simp only [em]) hP hD hS dX_sweep_50
      · exact absurd hnx (by rw [mrx_X_sweep, if_neg c2, if_pos c9, if_neg c29]; decide)
    · exact absurd hnx (by rw [mrx_X_sweep, if_neg c2, if_neg c9]; decide)
set_option maxHeartbeats 4000000 in
set_option maxRecDepth 100000 in
theorem t_X_sweep (l : Launch) (hlt : l.stackTraces = false) (Z : State) (hZ : ∀ w ∈ xws ++ sALL, w.before #[] Z = true) (D : va_G) (cl : List vw_C) (hcl : cOK cl) (oa ca : Nat → Nat) (ck : Nat → ClassId) (F : Nat → Int32) (G : Nat → Nat → Int32) {H0 : Heap} (hP : va_P D cl (cW oa ca ck F G) H0) (hD : va_D (fun _ => True) (cW oa ca ck F G)) (hZ0 : Z.heap.size ≤ H0.size) (hZH : ∀ q : Nat, q < Z.heap.size → H0[q]? = Z.heap[q]?) (hZA : ∀ q : Nat, q < Z.heap.size → ¬ va_A (cW oa ca ck F G) H0.size q) (nD : Nat) (pl : Nat) (n : Int32) (k1 : F 1 = nI nD) (hN : nD ≤ 4096) (k13 : F 13 = nI pl) (hpl : pl ≤ nD) (hnx : ¬ mrx_X_sweep (F 1) (F 13) nD pl n = 0) : tx_Met l yX_sweep wsX_sweep ({ frames := 6, cells := 1, slots := 6, locals := 82 } : Room) (tx_P Z D cl (cT ck) H0 [.ref (oa 0), .int n]) (exn (mrx_X_sweep (F 1) (F 13) nD pl n)) 1 6 (va_A (cW oa ca ck F G) H0.size) (fun H1 => va_P D cl (cW oa ca ck (upd (upd F 13 ((mr_X_sweep (F 1) (F 13) (F 14) (G 8) (G 9) (G 10) (G 11) nD pl n).2.1)) 14 ((mr_X_sweep (F 1) (F 13) (F 14) (G 8) (G 9) (G 10) (G 11) nD pl n).2.2)) G) H1 ∧ va_D (va_A (cW oa ca ck F G) H0.size) (cW oa ca ck (upd (upd F 13 ((mr_X_sweep (F 1) (F 13) (F 14) (G 8) (G 9) (G 10) (G 11) nD pl n).2.1)) 14 ((mr_X_sweep (F 1) (F 13) (F 14) (G 8) (G 9) (G 10) (G 11) nD pl n).2.2)) G)) := by
  refine tx_met (by decide) rfl (Nat.le_of_ble_eq_true rfl) hP hD ?_
  intro p e s m args below meth c Q A hAe hQ Sx hK hZw hlk hno hP hD hS hA ls hl
  obtain ⟨hx, hb, hml, hown, hts⟩ := id Sx
  have hl : lv_has ls 2 [(0, .ref (oa 0)), (1, .int n)] := hl
  obtain ⟨H, eH⟩ : ∃ H : Heap, H = H0 := ⟨_, rfl⟩
  obtain ⟨locs, eL⟩ : ∃ L : List Loc, L = [] := ⟨_, rfl⟩
  have hP : va_P D cl (cW oa ca ck F G) H := by rw [eH]; exact hP
  have hS : va_S A H0 H locs := by rw [eH, eL]; exact hS
  rw [show W p l e ({ frames := 6, cells := 1, slots := 6, locals := 82 } : Room) s m args below meth c H0 [] 0 0 Q (F0 m 0 ls []) = W p l e ({ frames := 6, cells := 1, slots := 6, locals := 82 } : Room) s m args below meth c H locs 0 0 Q (F0 m 0 ls []) by rw [eH, eL]]
  clear eH eL
  have wx58 := hts _ (List.mem_cons_of_mem _ mxX_58)
  have wn2 := hts _ (List.mem_cons_of_mem _ mnE_2)
  have wt2 := hts _ (List.mem_cons_of_mem _ mtE_2)
  have f54 := hts _ (List.mem_cons_of_mem _ mfX_54)
  have inX_ : ∀ w ∈ wsX0, w ∈ wsX_sweep := fun w h => List.mem_cons_of_mem _ (inX_all w h)
  have wx208 := hts _ (List.mem_cons_of_mem _ mxX_208)
  have wn4 := hts _ (List.mem_cons_of_mem _ mnE_4)
  have wt4 := hts _ (List.mem_cons_of_mem _ mtE_4)
  refine lv_iload_n hx hb dX_sweep_0 rfl (lv_at hl 1 rfl) ?_
  refine lv_iconst (v := 1) hx hb dX_sweep_1 (by decide) ?_
  refine lv_icmp_lt (tgt := 12) hx hb dX_sweep_2 (by decide) (fun c2 => ?_) (fun c2 => ?_)
  · have ex : mrx_X_sweep (F 1) (F 13) nD pl n = 2 := by rw [mrx_X_sweep, if_pos c2]
    rw [hQ, ex, exn_2]
    have em : mr_X_sweep (F 1) (F 13) (F 14) (G 8) (G 9) (G 10) (G 11) nD pl n = (0, F 13, F 14) := by rw [mr_X_sweep, if_pos c2]
    have hP9 : va_P D cl (cW oa ca ck (upd (upd F 13 ((mr_X_sweep (F 1) (F 13) (F 14) (G 8) (G 9) (G 10) (G 11) nD pl n).2.1)) 14 ((mr_X_sweep (F 1) (F 13) (F 14) (G 8) (G 9) (G 10) (G 11) nD pl n).2.2)) G) H := by simp only [em]; rw [upd_keep (f := F) (j := 13) (x := F 13) rfl, upd_keep (f := F) (j := 14) (x := F 14) rfl]; exact hP
    have hD9 : va_D A (cW oa ca ck (upd (upd F 13 ((mr_X_sweep (F 1) (F 13) (F 14) (G 8) (G 9) (G 10) (G 11) nD pl n).2.1)) 14 ((mr_X_sweep (F 1) (F 13) (F 14) (G 8) (G 9) (G 10) (G 11) nD pl n).2.2)) G) := by simp only [em]; rw [upd_keep (f := F) (j := 13) (x := F 13) rfl, upd_keep (f := F) (j := 14) (x := F 14) rfl]; exact hD
    exact tx_new (A := A) (i1 := 58) (i2 := 225) (i3 := 62) (own := RX) (up := xup) (tx := strsX_225) hlt hx hb (hml.trans hl.1.symm) hlk (hno _) hown (by decide +kernel) (by decide +kernel) (xo_use xo_2 hts) wt2 wx58 wn2 hZw (fun w9 h9 => hZ w9 (List.mem_append_left _ h9)) (hZ _ (List.mem_append_right _ mrX_225)) (fun q hq => (hS.2.1 q (Nat.lt_of_lt_of_le hq hZ0) (by rw [hAe]; exact hZA q hq)).trans (hZH q hq)) hS.2.2 dX_sweep_12 dX_sweep_15 dX_sweep_16 dX_sweep_18 dX_sweep_21 (Nat.le_refl _) (Nat.le_refl _) (by decide) (by decide) rfl rfl (fun H1 h1 h2 => ⟨va_old hP9 h2, by rw [← hAe]; exact hD9⟩)
  · refine lv_iload_n hx hb dX_sweep_5 rfl (lv_at hl 1 rfl) ?_
    refine lv_sipush (v := 5000) hx hb dX_sweep_6 (by decide) ?_
    refine lv_icmp_le (tgt := 22) hx hb dX_sweep_9 (by decide) (fun c9 => ?_) (fun c9 => ?_)
    · have xn := ix_cl (le_ix1 c2 c9 (n := 5000) (by decide)) (by decide)
      have xn2 := xn.2
      refine lv_aload_n hx hb dX_sweep_22 rfl (lv_at hl 0 rfl) ?_
      refine va_get (D := D) (ci := 1) (v := .ref (oa 7)) (C := RX) (T := TX) (N := 6) hx hb hts inX_ hown hK hP 0 rfl hcl.1 5 (by decide) f54 (fun _ h9 => h9) rfl dX_sweep_23 ?_
      refine ro_callV (r := (.int (mr_Sw_isAtEnd (F 1) (F 13)))) (As := []) (rest := []) Sx (c_Sw_isAtEnd l D cl hcl oa ca ck F G hP) (cwV 0 hts gX_sweep_Sw_isAtEnd rfl rfl rfl (by decide +kernel) ⟨Nat.le_of_ble_eq_true rfl, Nat.le_of_ble_eq_true rfl⟩) hK (va_recv hK hP (ci := 8) (q0 := 7) hcl.2.2.2.2.2.2.2 rfl) rfl hl.1 rfl (Nat.le_of_ble_eq_true rfl) dX_sweep_26 ⟨Nat.zero_le _, Nat.zero_le _⟩ ?_
      refine lv_if_eq (tgt := 42) hx hb dX_sweep_29 (by decide) (fun c29 => ?_) (fun c29 => ?_)
      · exact absurd (by rw [mrx_X_sweep, if_neg c2, if_pos c9, if_pos c29]) hnx
      · have ex : mrx_X_sweep (F 1) (F 13) nD pl n = 4 := by rw [mrx_X_sweep, if_neg c2, if_pos c9, if_neg c29]
        rw [hQ, ex, exn_4]
        have em : mr_X_sweep (F 1) (F 13) (F 14) (G 8) (G 9) (G 10) (G 11) nD pl n = (0, F 13, F 14) := by rw [mr_X_sweep, if_neg c2, if_pos c9, if_neg c29]
        have hP9 : va_P D cl (cW oa ca ck (upd (upd F 13 ((mr_X_sweep (F 1) (F 13) (F 14) (G 8) (G 9) (G 10) (G 11) nD pl n).2.1)) 14 ((mr_X_sweep (F 1) (F 13) (F 14) (G 8) (G 9) (G 10) (G 11) nD pl n).2.2)) G) H := by simp only [em]; rw [upd_keep (f := F) (j := 13) (x := F 13) rfl, upd_keep (f := F) (j := 14) (x := F 14) rfl]; exact hP
        have hD9 : va_D A (cW oa ca ck (upd (upd F 13 ((mr_X_sweep (F 1) (F 13) (F 14) (G 8) (G 9) (G 10) (G 11) nD pl n).2.1)) 14 ((mr_X_sweep (F 1) (F 13) (F 14) (G 8) (G 9) (G 10) (G 11) nD pl n).2.2)) G) := by simp only [em]; rw [upd_keep (f := F) (j := 13) (x := F 13) rfl, upd_keep (f := F) (j := 14) (x := F 14) rfl]; exact hD
        exact tx_new (A := A) (i1 := 208) (i2 := 231) (i3 := 212) (own := RX) (up := xup) (tx := strsX_231) hlt hx hb (hml.trans hl.1.symm) hlk (hno _) hown (by decide +kernel) (by decide +kernel) (xo_use xo_4 hts) wt4 wx208 wn4 hZw (fun w9 h9 => hZ w9 (List.mem_append_left _ h9)) (hZ _ (List.mem_append_right _ mrX_231)) (fun q hq => (hS.2.1 q (Nat.lt_of_lt_of_le hq hZ0) (by rw [hAe]; exact hZA q hq)).trans (hZH q hq)) hS.2.2 dX_sweep_32 dX_sweep_35 dX_sweep_36 dX_sweep_38 dX_sweep_41 (Nat.le_refl _) (Nat.le_refl _) (by decide) (by decide) rfl rfl (fun H1 h1 h2 => ⟨va_old hP9 h2, by rw [← hAe]; exact hD9⟩)
    · have ex : mrx_X_sweep (F 1) (F 13) nD pl n = 2 := by rw [mrx_X_sweep, if_neg c2, if_neg c9]
      rw [hQ, ex, exn_2]
      have em : mr_X_sweep (F 1) (F 13) (F 14) (G 8) (G 9) (G 10) (G 11) nD pl n = (0, F 13, F 14) := by rw [mr_X_sweep, if_neg c2, if_neg c9]
      have hP9 : va_P D cl (cW oa ca ck (upd (upd F 13 ((mr_X_sweep (F 1) (F 13) (F 14) (G 8) (G 9) (G 10) (G 11) nD pl n).2.1)) 14 ((mr_X_sweep (F 1) (F 13) (F 14) (G 8) (G 9) (G 10) (G 11) nD pl n).2.2)) G) H := by simp only [em]; rw [upd_keep (f := F) (j := 13) (x := F 13) rfl, upd_keep (f := F) (j := 14) (x := F 14) rfl]; exact hP
      have hD9 : va_D A (cW oa ca ck (upd (upd F 13 ((mr_X_sweep (F 1) (F 13) (F 14) (G 8) (G 9) (G 10) (G 11) nD pl n).2.1)) 14 ((mr_X_sweep (F 1) (F 13) (F 14) (G 8) (G 9) (G 10) (G 11) nD pl n).2.2)) G) := by simp only [em]; rw [upd_keep (f := F) (j := 13) (x := F 13) rfl, upd_keep (f := F) (j := 14) (x := F 14) rfl]; exact hD
      exact tx_new (A := A) (i1 := 58) (i2 := 225) (i3 := 62) (own := RX) (up := xup) (tx := strsX_225) hlt hx hb (hml.trans hl.1.symm) hlk (hno _) hown (by decide +kernel) (by decide +kernel) (xo_use xo_2 hts) wt2 wx58 wn2 hZw (fun w9 h9 => hZ w9 (List.mem_append_left _ h9)) (hZ _ (List.mem_append_right _ mrX_225)) (fun q hq => (hS.2.1 q (Nat.lt_of_lt_of_le hq hZ0) (by rw [hAe]; exact hZA q hq)).trans (hZH q hq)) hS.2.2 dX_sweep_12 dX_sweep_15 dX_sweep_16 dX_sweep_18 dX_sweep_21 (Nat.le_refl _) (Nat.le_refl _) (by decide) (by decide) rfl rfl (fun H1 h1 h2 => ⟨va_old hP9 h2, by rw [← hAe]; exact hD9⟩)
def mr_X_count (f0 : Int32) (f1 : Int32) (f2 : Int32) (f3 : Int32) (f10 : Int32) (f12 : Int32) (f13 : Int32) (f14 : Int32) (g8 : Nat → Int32) (w : Int32) : Int32 := (if w = 0 then f0 else (if w = 1 then f1 else (if w = 2 then f2 else (if w = 3 then f3 else (if w = 4 then (mr_Bo_limitsOn g8) else (if w = 5 then f10 else (if w = 6 then ((if (mr_Sw_isAtEnd f1 f13) = 0 then f13 else (-1)) : Int32) else (if w = 7 then f14 else (if w = 8 then f12 else (-1))))))))))
set_option maxHeartbeats 4000000 in
set_option maxRecDepth 100000 in
theorem c_X_count (l : Launch) (D : va_G) (cl : List vw_C) (hcl : cOK cl) (oa ca : Nat → Nat) (ck : Nat → ClassId) (F : Nat → Int32) (G : Nat → Nat → Int32) {H : Heap} (hP : va_P D cl (cW oa ca ck F G) H) (w : Int32) : ro_Met l yX_count wsX_count ({ frames := 1, cells := 0, slots := 0, locals := 22 } : Room) D cl (cT ck) H [.ref (oa 0), .int w] (.int (mr_X_count (F 0) (F 1) (F 2) (F 3) (F 10) (F 12) (F 13) (F 14) (G 8) w)) := by
  refine ro_metI (by decide) rfl (Nat.le_of_ble_eq_true rfl) ?_
  intro p e s m args below meth c Q Sx hK ls hl hret
  obtain ⟨hx, hb, hml, hown, hts⟩ := id Sx
  have hl : lv_has ls 2 [(0, .ref (oa 0)), (1, .int w)] := hl
  have f12 := hts _ (List.mem_cons_of_mem _ mfX_12)
  have inX_ : ∀ w ∈ wsX0, w ∈ wsX_count := fun w h => List.mem_cons_of_mem _ (inX_all w h)
  have f87 := hts _ (List.mem_cons_of_mem _ mfX_87)
  have inSh_ : ∀ w ∈ wsSh0, w ∈ wsX_count := fun w h => List.mem_cons_of_mem _ (inSh_all w h)
  have f236 := hts _ (List.mem_cons_of_mem _ mfX_236)
  have f21 := hts _ (List.mem_cons_of_mem _ mfX_21)
  have f107 := hts _ (List.mem_cons_of_mem _ mfX_107)
  have inBo_ : ∀ w ∈ wsBo0, w ∈ wsX_count := fun w h => List.mem_cons_of_mem _ (inBo_all w h)
  have f120 := hts _ (List.mem_cons_of_mem _ mfX_120)
  have f47 := hts _ (List.mem_cons_of_mem _ mfX_47)
  have f203 := hts _ (List.mem_cons_of_mem _ mfX_203)
  have inWa_ : ∀ w ∈ wsWa0, w ∈ wsX_count := fun w h => List.mem_cons_of_mem _ (inWa_all w h)
  have f54 := hts _ (List.mem_cons_of_mem _ mfX_54)
  have f242 := hts _ (List.mem_cons_of_mem _ mfX_242)
  have inSw_ : ∀ w ∈ wsSw0, w ∈ wsX_count := fun w h => List.mem_cons_of_mem _ (inSw_all w h)
  have f245 := hts _ (List.mem_cons_of_mem _ mfX_245)
  have f248 := hts _ (List.mem_cons_of_mem _ mfX_248)
  refine lv_iload_n hx hb dX_count_0 rfl (lv_at hl 1 rfl) ?_
  by_cases c1_0 : w = 0
  · refine wt_i c1_0 ?_
    refine lv_tableIn (tgt := 52) hx hb dX_count_1 (by decide) (by decide) rfl (by decide) ?_
    refine lv_aload_n hx hb dX_count_52 rfl (lv_at hl 0 rfl) ?_
    refine va_get (D := D) (ci := 1) (v := .ref (oa 1)) (C := RX) (T := TX) (N := 6) hx hb hts inX_ hown hK hP 0 rfl hcl.1 0 (by decide) f12 (fun _ h9 => h9) rfl dX_count_53 ?_
    refine va_get (D := D) (ci := 2) (v := .int (F 0)) (C := RSh) (T := TSh) (N := 4) hx hb hts inSh_ hown hK hP 1 rfl hcl.2.1 2 (by decide) f87 (fun _ h9 => h9) rfl dX_count_56 ?_
    exact hret _ _ _ (by rw [mr_X_count, if_pos c1_0]) dX_count_59
  · by_cases c1_1 : w = 1
    · refine wt_i c1_1 ?_
      refine lv_tableIn (tgt := 60) hx hb dX_count_1 (by decide) (by decide) rfl (by decide) ?_
      refine lv_aload_n hx hb dX_count_60 rfl (lv_at hl 0 rfl) ?_
      refine va_get (D := D) (ci := 1) (v := .ref (oa 1)) (C := RX) (T := TX) (N := 6) hx hb hts inX_ hown hK hP 0 rfl hcl.1 0 (by decide) f12 (fun _ h9 => h9) rfl dX_count_61 ?_
      refine va_get (D := D) (ci := 2) (v := .int (F 1)) (C := RSh) (T := TSh) (N := 4) hx hb hts inSh_ hown hK hP 1 rfl hcl.2.1 3 (by decide) f236 (fun _ h9 => h9) rfl dX_count_64 ?_
      exact hret _ _ _ (by rw [mr_X_count, if_neg c1_0, if_pos c1_1]) dX_count_67
    · by_cases c1_2 : w = 2
      · refine wt_i c1_2 ?_
        refine lv_tableIn (tgt := 68) hx hb dX_count_1 (by decide) (by decide) rfl (by decide) ?_
        refine lv_aload_n hx hb dX_count_68 rfl (lv_at hl 0 rfl) ?_
        refine va_get (D := D) (ci := 1) (v := .ref (oa 3)) (C := RX) (T := TX) (N := 6) hx hb hts inX_ hown hK hP 0 rfl hcl.1 1 (by decide) f21 (fun _ h9 => h9) rfl dX_count_69 ?_
        refine va_get (D := D) (ci := 4) (v := .int (F 2)) (C := RBo) (T := TBo) (N := 10) hx hb hts inBo_ hown hK hP 3 rfl hcl.2.2.2.1 4 (by decide) f107 (fun _ h9 => h9) rfl dX_count_72 ?_
        exact hret _ _ _ (by rw [mr_X_count, if_neg c1_0, if_neg c1_1, if_pos c1_2]) dX_count_75
      · by_cases c1_3 : w = 3
        · refine wt_i c1_3 ?_
          refine lv_tableIn (tgt := 76) hx hb dX_count_1 (by decide) (by decide) rfl (by decide) ?_
          refine lv_aload_n hx hb dX_count_76 rfl (lv_at hl 0 rfl) ?_
          refine va_get (D := D) (ci := 1) (v := .ref (oa 3)) (C := RX) (T := TX) (N := 6) hx hb hts inX_ hown hK hP 0 rfl hcl.1 1 (by decide) f21 (fun _ h9 => h9) rfl dX_count_77 ?_
          refine va_get (D := D) (ci := 4) (v := .int (F 3)) (C := RBo) (T := TBo) (N := 10) hx hb hts inBo_ hown hK hP 3 rfl hcl.2.2.2.1 5 (by decide) f120 (fun _ h9 => h9) rfl dX_count_80 ?_
          exact hret _ _ _ (by rw [mr_X_count, if_neg c1_0, if_neg c1_1, if_neg c1_2, if_pos c1_3]) dX_count_83
        · by_cases c1_4 : w = 4
          · refine wt_i c1_4 ?_
            refine lv_tableIn (tgt := 84) hx hb dX_count_1 (by decide) (by decide) rfl (by decide) ?_
            refine lv_aload_n hx hb dX_count_84 rfl (lv_at hl 0 rfl) ?_
            refine va_get (D := D) (ci := 1) (v := .ref (oa 3)) (C := RX) (T := TX) (N := 6) hx hb hts inX_ hown hK hP 0 rfl hcl.1 1 (by decide) f21 (fun _ h9 => h9) rfl dX_count_85 ?_
            refine ro_callV (r := (.int (mr_Bo_limitsOn (G 8)))) (As := []) (rest := []) Sx (c_Bo_limitsOn l D cl hcl oa ca ck F G hP) (cwV 0 hts gX_count_Bo_limitsOn rfl rfl rfl (by decide +kernel) ⟨Nat.le_of_ble_eq_true rfl, Nat.le_of_ble_eq_true rfl⟩) hK (va_recv hK hP (ci := 4) (q0 := 3) hcl.2.2.2.1 rfl) rfl hl.1 rfl (Nat.le_of_ble_eq_true rfl) dX_count_88 ⟨Nat.zero_le _, Nat.zero_le _⟩ ?_
            exact hret _ _ _ (by rw [mr_X_count, if_neg c1_0, if_neg c1_1, if_neg c1_2, if_neg c1_3, if_pos c1_4]) dX_count_91
          · by_cases c1_5 : w = 5
            · refine wt_i c1_5 ?_
              refine lv_tableIn (tgt := 92) hx hb dX_count_1 (by decide) (by decide) rfl (by decide) ?_
              refine lv_aload_n hx hb dX_count_92 rfl (lv_at hl 0 rfl) ?_
              refine va_get (D := D) (ci := 1) (v := .ref (oa 6)) (C := RX) (T := TX) (N := 6) hx hb hts inX_ hown hK hP 0 rfl hcl.1 4 (by decide) f47 (fun _ h9 => h9) rfl dX_count_93 ?_
              refine va_get (D := D) (ci := 7) (v := .int (F 10)) (C := RWa) (T := TWa) (N := 6) hx hb hts inWa_ hown hK hP 6 rfl hcl.2.2.2.2.2.2.1 3 (by decide) f203 (fun _ h9 => h9) rfl dX_count_96 ?_
              exact hret _ _ _ (by rw [mr_X_count, if_neg c1_0, if_neg c1_1, if_neg c1_2, if_neg c1_3, if_neg c1_4, if_pos c1_5]) dX_count_99
            · by_cases c1_6 : w = 6
              · refine wt_i c1_6 ?_
                refine lv_tableIn (tgt := 100) hx hb dX_count_1 (by decide) (by decide) rfl (by decide) ?_
                refine lv_aload_n hx hb dX_count_100 rfl (lv_at hl 0 rfl) ?_
                refine va_get (D := D) (ci := 1) (v := .ref (oa 7)) (C := RX) (T := TX) (N := 6) hx hb hts inX_ hown hK hP 0 rfl hcl.1 5 (by decide) f54 (fun _ h9 => h9) rfl dX_count_101 ?_
                refine ro_callV (r := (.int (mr_Sw_isAtEnd (F 1) (F 13)))) (As := []) (rest := []) Sx (c_Sw_isAtEnd l D cl hcl oa ca ck F G hP) (cwV 0 hts gX_count_Sw_isAtEnd rfl rfl rfl (by decide +kernel) ⟨Nat.le_of_ble_eq_true rfl, Nat.le_of_ble_eq_true rfl⟩) hK (va_recv hK hP (ci := 8) (q0 := 7) hcl.2.2.2.2.2.2.2 rfl) rfl hl.1 rfl (Nat.le_of_ble_eq_true rfl) dX_count_104 ⟨Nat.zero_le _, Nat.zero_le _⟩ ?_
                have j121 : ∀ (ls : Array Slot), lv_has ls 2 [(0, .ref (oa 0)), (1, .int w)] → W p l e ({ frames := 1, cells := 0, slots := 0, locals := 22 } : Room) s m args below meth c H [] 0 0 Q (F0 m 121 ls [.int ((if (mr_Sw_isAtEnd (F 1) (F 13)) = 0 then F 13 else (-1)) : Int32)]) := by
                  intro ls hl
                  exact hret _ _ _ (by rw [mr_X_count, if_neg c1_0, if_neg c1_1, if_neg c1_2, if_neg c1_3, if_neg c1_4, if_neg c1_5, if_pos c1_6]) dX_count_121
                refine lv_if_eq (tgt := 114) hx hb dX_count_107 (by decide) (fun c107 => ?_) (fun c107 => ?_)
                · refine lv_aload_n hx hb dX_count_114 rfl (lv_at hl 0 rfl) ?_
                  refine va_get (D := D) (ci := 1) (v := .ref (oa 7)) (C := RX) (T := TX) (N := 6) hx hb hts inX_ hown hK hP 0 rfl hcl.1 5 (by decide) f54 (fun _ h9 => h9) rfl dX_count_115 ?_
                  refine va_get (D := D) (ci := 8) (v := .int (F 13)) (C := RSw) (T := TSw) (N := 4) hx hb hts inSw_ hown hK hP 7 rfl hcl.2.2.2.2.2.2.2 2 (by decide) f242 (fun _ h9 => h9) rfl dX_count_118 ?_
                  exact wt_i (by rw [if_pos c107]) (j121 ls hl)
                · refine lv_iconst (v := (-1)) hx hb dX_count_110 (by decide) ?_
                  refine lv_goto (tgt := 121) hx hb dX_count_111 (by decide) ?_
                  exact wt_i (by rw [if_neg c107]) (j121 ls hl)
              · by_cases c1_7 : w = 7
                · refine wt_i c1_7 ?_
                  refine lv_tableIn (tgt := 122) hx hb dX_count_1 (by decide) (by decide) rfl (by decide) ?_
                  refine lv_aload_n hx hb dX_count_122 rfl (lv_at hl 0 rfl) ?_
                  refine va_get (D := D) (ci := 1) (v := .ref (oa 7)) (C := RX) (T := TX) (N := 6) hx hb hts inX_ hown hK hP 0 rfl hcl.1 5 (by decide) f54 (fun _ h9 => h9) rfl dX_count_123 ?_
                  refine va_get (D := D) (ci := 8) (v := .int (F 14)) (C := RSw) (T := TSw) (N := 4) hx hb hts inSw_ hown hK hP 7 rfl hcl.2.2.2.2.2.2.2 3 (by decide) f245 (fun _ h9 => h9) rfl dX_count_126 ?_
                  exact hret _ _ _ (by rw [mr_X_count, if_neg c1_0, if_neg c1_1, if_neg c1_2, if_neg c1_3, if_neg c1_4, if_neg c1_5, if_neg c1_6, if_pos c1_7]) dX_count_129
                · by_cases c1_8 : w = 8
                  · refine wt_i c1_8 ?_
                    refine lv_tableIn (tgt := 130) hx hb dX_count_1 (by decide) (by decide) rfl (by decide) ?_
                    refine lv_aload_n hx hb dX_count_130 rfl (lv_at hl 0 rfl) ?_
                    refine va_get (D := D) (ci := 1) (v := .ref (oa 6)) (C := RX) (T := TX) (N := 6) hx hb hts inX_ hown hK hP 0 rfl hcl.1 4 (by decide) f47 (fun _ h9 => h9) rfl dX_count_131 ?_
                    refine va_get (D := D) (ci := 7) (v := .int (F 12)) (C := RWa) (T := TWa) (N := 6) hx hb hts inWa_ hown hK hP 6 rfl hcl.2.2.2.2.2.2.1 5 (by decide) f248 (fun _ h9 => h9) rfl dX_count_134 ?_
                    exact hret _ _ _ (by rw [mr_X_count, if_neg c1_0, if_neg c1_1, if_neg c1_2, if_neg c1_3, if_neg c1_4, if_neg c1_5, if_neg c1_6, if_neg c1_7, if_pos c1_8]) dX_count_137
                  · refine lv_tableOut (tgt := 138) hx hb dX_count_1 (by exact sw_out c1_0 c1_1 c1_2 c1_3 c1_4 c1_5 c1_6 c1_7 c1_8) (by decide) ?_
                    refine lv_iconst (v := (-1)) hx hb dX_count_138 (by decide) ?_
                    exact hret _ _ _ (by rw [mr_X_count, if_neg c1_0, if_neg c1_1, if_neg c1_2, if_neg c1_3, if_neg c1_4, if_neg c1_5, if_neg c1_6, if_neg c1_7, if_neg c1_8]) dX_count_139
