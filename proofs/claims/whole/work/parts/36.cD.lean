theorem zpred {g : Nat → Int32} {c : Nat} (h : g c = nI (zg g c)) (h1 : 1 ≤ zg g c) : g c - 1 = nI (zg g c - 1) := by
  generalize zg g c = z at h h1 ⊢
  rw [h]
  obtain ⟨y, rfl⟩ : ∃ y, z = y + 1 := ⟨z - 1, by omega⟩
  exact nI_pred y
theorem nb_sem {g0 : Nat → Int32} {nC : Nat} (s0 : ∀ c, c < nC → ∃ z : Nat, g0 c = nI z ∧ 2 ≤ z ∧ z ≤ 6) : ∀ k, k ≤ nC → lf_Sh_neighbours_4 g0 nC 0 k = nI (ns (zg g0) k) := by
  intro k
  induction k with
  | zero => intro _; rfl
  | succ k ih =>
    intro hk
    obtain ⟨z1, z2, z3⟩ := zg_ok s0 (c := k) (by omega)
    rw [lf_Sh_neighbours_4, ih (by omega), zpred z1 (by omega), nI_add]
    rfl
theorem nb_num {g0 : Nat → Int32} {nC : Nat} (s0 : ∀ c, c < nC → ∃ z : Nat, g0 c = nI z ∧ 2 ≤ z ∧ z ≤ 6) : mr_Sh_neighbours g0 nC = nI (ns (zg g0) nC) := nb_sem s0 nC (Nat.le_refl _)
theorem mm_min {a b : Nat} (ma : a < 2 ^ 31) (mb : b < 2 ^ 31) : (if nI b < nI a then nI b else nI a : Int32) = nI (min a b) := by
  by_cases h : b < a
  · rw [if_pos ((nI_ltI mb ma).mpr h), Nat.min_eq_right (by omega)]
  · rw [if_neg (fun h9 => h ((nI_ltI mb ma).mp h9)), Nat.min_eq_left (by omega)]
def mr_Sw_beginAnew : Int32 × Int32 := (0, 0)
set_option maxHeartbeats 4000000 in
set_option maxRecDepth 100000 in
theorem c_Sw_beginAnew (l : Launch) (D : va_G) (cl : List vw_C) (hcl : cOK cl) (oa ca : Nat → Nat) (ck : Nat → ClassId) (F : Nat → Int32) (G : Nat → Nat → Int32) {H0 : Heap} (hP : va_P D cl (cW oa ca ck F G) H0) (hD : va_D (fun _ => True) (cW oa ca ck F G)) : ww_Met l ySw_beginAnew wsSw_beginAnew ({ frames := 0, cells := 0, slots := 0, locals := 0 } : Room) D cl (cT ck) H0 [.ref (oa 7)] (cW oa ca ck F G) none (cW oa ca ck (upd (upd F 13 ((mr_Sw_beginAnew).1)) 14 ((mr_Sw_beginAnew).2)) G) := by
  refine ww_metV (by decide) rfl (Nat.le_of_ble_eq_true rfl) hP hD ?_
  intro p e s m args below meth c Q A Sx hK hP hD hS hA ls hl hret
  obtain ⟨hx, hb, hml, hown, hts⟩ := id Sx
  have hl : lv_has ls 1 [(0, .ref (oa 7))] := hl
  obtain ⟨H, eH⟩ : ∃ H : Heap, H = H0 := ⟨_, rfl⟩
  obtain ⟨locs, eL⟩ : ∃ L : List Loc, L = [] := ⟨_, rfl⟩
  have hP : va_P D cl (cW oa ca ck F G) H := by rw [eH]; exact hP
  have hS : va_S A H0 H locs := by rw [eH, eL]; exact hS
  rw [show W p l e ({ frames := 0, cells := 0, slots := 0, locals := 0 } : Room) s m args below meth c H0 [] 0 0 Q (F0 m 0 ls []) = W p l e ({ frames := 0, cells := 0, slots := 0, locals := 0 } : Room) s m args below meth c H locs 0 0 Q (F0 m 0 ls []) by rw [eH, eL]]
  clear eH eL
  have f7 := hts _ (List.mem_cons_of_mem _ mfSw_7)
  have inSw_ : ∀ w ∈ wsSw0, w ∈ wsSw_beginAnew := fun w h => List.mem_cons_of_mem _ (inSw_all w h)
  have f13 := hts _ (List.mem_cons_of_mem _ mfSw_13)
  refine lv_aload_n hx hb dSw_beginAnew_0 rfl (lv_at hl 0 rfl) ?_
  refine lv_iconst (v := 0) hx hb dSw_beginAnew_1 (by decide) ?_
  refine va_put (D := D) (ci := 8) (fs := cWl7 oa ca F) (v := .int 0) (ty := .int) (C := RSw) (T := TSw) (N := 4) hx hb hts inSw_ tySw tySw_ok nmSw hown hK hP hD hS 7 rfl hcl.2.2.2.2.2.2.2 2 (by decide) f7 (fun _ h9 => h9) rfl (by decide +kernel) rfl rfl (Nat.le_of_ble_eq_true rfl) dSw_beginAnew_2 (fun H locs hP hD hS => ?_)
  rw [cW_f13] at hP hD
  refine lv_aload_n hx hb dSw_beginAnew_5 rfl (lv_at hl 0 rfl) ?_
  refine lv_iconst (v := 0) hx hb dSw_beginAnew_6 (by decide) ?_
  refine va_put (D := D) (ci := 8) (fs := cWl7 oa ca (upd F 13 0)) (v := .int 0) (ty := .int) (C := RSw) (T := TSw) (N := 4) hx hb hts inSw_ tySw tySw_ok nmSw hown hK hP hD hS 7 rfl hcl.2.2.2.2.2.2.2 3 (by decide) f13 (fun _ h9 => h9) rfl (by decide +kernel) rfl rfl (Nat.le_of_ble_eq_true rfl) dSw_beginAnew_7 (fun H locs hP hD hS => ?_)
  rw [cW_f14] at hP hD
  have em : mr_Sw_beginAnew = (0, 0) := by rw [mr_Sw_beginAnew]
  exact hret _ _ _ _ _ (by simp only [em]) hP hD hS dSw_beginAnew_10
def mr_Sw_isAtEnd (f1 : Int32) (f13 : Int32) : Int32 := ((if f13 < f1 then 0 else 1) : Int32)
set_option maxHeartbeats 4000000 in
set_option maxRecDepth 100000 in
theorem c_Sw_isAtEnd (l : Launch) (D : va_G) (cl : List vw_C) (hcl : cOK cl) (oa ca : Nat → Nat) (ck : Nat → ClassId) (F : Nat → Int32) (G : Nat → Nat → Int32) {H : Heap} (hP : va_P D cl (cW oa ca ck F G) H) : ro_Met l ySw_isAtEnd wsSw_isAtEnd ({ frames := 0, cells := 0, slots := 0, locals := 0 } : Room) D cl (cT ck) H [.ref (oa 7)] (.int (mr_Sw_isAtEnd (F 1) (F 13))) := by
  refine ro_metZ (by unfold mr_Sw_isAtEnd; repeat' first | refine zb_i ?_ ?_ | exact zb_0 | exact zb_1) (by decide) rfl (Nat.le_of_ble_eq_true rfl) ?_
  intro p e s m args below meth c Q Sx hK ls hl hret
  obtain ⟨hx, hb, hml, hown, hts⟩ := id Sx
  have hl : lv_has ls 1 [(0, .ref (oa 7))] := hl
  have f7 := hts _ (List.mem_cons_of_mem _ mfSw_7)
  have inSw_ : ∀ w ∈ wsSw0, w ∈ wsSw_isAtEnd := fun w h => List.mem_cons_of_mem _ (inSw_all w h)
  have f16 := hts _ (List.mem_cons_of_mem _ mfSw_16)
  have f24 := hts _ (List.mem_cons_of_mem _ mfSw_24)
  have inSh_ : ∀ w ∈ wsSh0, w ∈ wsSw_isAtEnd := fun w h => List.mem_cons_of_mem _ (inSh_all w h)
  refine lv_aload_n hx hb dSw_isAtEnd_0 rfl (lv_at hl 0 rfl) ?_
  refine va_get (D := D) (ci := 8) (v := .int (F 13)) (C := RSw) (T := TSw) (N := 4) hx hb hts inSw_ hown hK hP 7 rfl hcl.2.2.2.2.2.2.2 2 (by decide) f7 (fun _ h9 => h9) rfl dSw_isAtEnd_1 ?_
  refine lv_aload_n hx hb dSw_isAtEnd_4 rfl (lv_at hl 0 rfl) ?_
  refine va_get (D := D) (ci := 8) (v := .ref (oa 1)) (C := RSw) (T := TSw) (N := 4) hx hb hts inSw_ hown hK hP 7 rfl hcl.2.2.2.2.2.2.2 0 (by decide) f16 (fun _ h9 => h9) rfl dSw_isAtEnd_5 ?_
  refine va_get (D := D) (ci := 2) (v := .int (F 1)) (C := RSh) (T := TSh) (N := 4) hx hb hts inSh_ hown hK hP 1 rfl hcl.2.1 3 (by decide) f24 (fun _ h9 => h9) rfl dSw_isAtEnd_8 ?_
  have j19 : ∀ (ls : Array Slot), lv_has ls 1 [(0, .ref (oa 7))] → W p l e ({ frames := 0, cells := 0, slots := 0, locals := 0 } : Room) s m args below meth c H [] 0 0 Q (F0 m 19 ls [.int ((if (F 13) < (F 1) then 0 else 1) : Int32)]) := by
    intro ls hl
    exact hret _ _ _ (by rw [mr_Sw_isAtEnd]) dSw_isAtEnd_19
  refine lv_icmp_lt (tgt := 18) hx hb dSw_isAtEnd_11 (by decide) (fun c11 => ?_) (fun c11 => ?_)
  · refine lv_iconst (v := 0) hx hb dSw_isAtEnd_18 (by decide) ?_
    exact wt_i (by rw [if_pos c11]) (j19 ls hl)
  · refine lv_iconst (v := 1) hx hb dSw_isAtEnd_14 (by decide) ?_
    refine lv_goto (tgt := 19) hx hb dSw_isAtEnd_15 (by decide) ?_
    exact wt_i (by rw [if_neg c11]) (j19 ls hl)
def lf_Sw_goOn_25 (g8 : Nat → Int32) (g9 : Nat → Int32) (g10 : Nat → Int32) (g11 : Nat → Int32) (nD : Nat) (pl : Nat) (n : Nat) (i0 : Int32) : Nat → Int32
  | 0 => i0
  | k25 + 1 => (if (mr_Bo_allows g8 g9 g10 g11 (pl + k25)) = 0 then (lf_Sw_goOn_25 g8 g9 g10 g11 nD pl n i0 k25) else ((lf_Sw_goOn_25 g8 g9 g10 g11 nD pl n i0 k25) + 1))
def mr_Sw_goOn (f14 : Int32) (g8 : Nat → Int32) (g9 : Nat → Int32) (g10 : Nat → Int32) (g11 : Nat → Int32) (nD : Nat) (pl : Nat) (n : Nat) : Int32 × Int32 × Int32 := (lf_Sw_goOn_25 g8 g9 g10 g11 nD pl n 0 (min (pl + n) nD - pl), nI (min (pl + n) nD), f14 + (lf_Sw_goOn_25 g8 g9 g10 g11 nD pl n 0 (min (pl + n) nD - pl)))
set_option maxHeartbeats 4000000 in
set_option maxRecDepth 100000 in
theorem c_Sw_goOn (l : Launch) (D : va_G) (cl : List vw_C) (hcl : cOK cl) (oa ca : Nat → Nat) (ck : Nat → ClassId) (F : Nat → Int32) (G : Nat → Nat → Int32) {H0 : Heap} (hP : va_P D cl (cW oa ca ck F G) H0) (hD : va_D (fun _ => True) (cW oa ca ck F G)) (nD : Nat) (pl : Nat) (n : Nat) (k1 : F 1 = nI nD) (hN : nD ≤ 4096) (k13 : F 13 = nI pl) (hpl : pl ≤ nD) (hn : n ≤ 5000) : ww_Met l ySw_goOn wsSw_goOn ({ frames := 2, cells := 0, slots := 0, locals := 44 } : Room) D cl (cT ck) H0 [.ref (oa 7), .int (nI n)] (cW oa ca ck F G) (some (.int ((mr_Sw_goOn (F 14) (G 8) (G 9) (G 10) (G 11) nD pl n).1))) (cW oa ca ck (upd (upd F 13 ((mr_Sw_goOn (F 14) (G 8) (G 9) (G 10) (G 11) nD pl n).2.1)) 14 ((mr_Sw_goOn (F 14) (G 8) (G 9) (G 10) (G 11) nD pl n).2.2)) G) := by
  refine ww_metI (by decide) rfl (Nat.le_of_ble_eq_true rfl) hP hD ?_
  intro p e s m args below meth c Q A Sx hK hP hD hS hA ls hl hret
  obtain ⟨hx, hb, hml, hown, hts⟩ := id Sx
  have hl : lv_has ls 5 [(0, .ref (oa 7)), (1, .int (nI n))] := hl
  obtain ⟨H, eH⟩ : ∃ H : Heap, H = H0 := ⟨_, rfl⟩
  obtain ⟨locs, eL⟩ : ∃ L : List Loc, L = [] := ⟨_, rfl⟩
  have hP : va_P D cl (cW oa ca ck F G) H := by rw [eH]; exact hP
  have hS : va_S A H0 H locs := by rw [eH, eL]; exact hS
  rw [show W p l e ({ frames := 2, cells := 0, slots := 0, locals := 44 } : Room) s m args below meth c H0 [] 0 0 Q (F0 m 0 ls []) = W p l e ({ frames := 2, cells := 0, slots := 0, locals := 44 } : Room) s m args below meth c H locs 0 0 Q (F0 m 0 ls []) by rw [eH, eL]]
  clear eH eL
  have f7 := hts _ (List.mem_cons_of_mem _ mfSw_7)
  have inSw_ : ∀ w ∈ wsSw0, w ∈ wsSw_goOn := fun w h => List.mem_cons_of_mem _ (inSw_all w h)
  have f16 := hts _ (List.mem_cons_of_mem _ mfSw_16)
  have f24 := hts _ (List.mem_cons_of_mem _ mfSw_24)
  have inSh_ : ∀ w ∈ wsSh0, w ∈ wsSw_goOn := fun w h => List.mem_cons_of_mem _ (inSh_all w h)
  have wml29 := hts _ (List.mem_cons_of_mem _ mlSw_29)
  have wms_min := hts _ (List.mem_cons_of_mem _ msMath_min)
  have wmnMath := hts _ (List.mem_cons_of_mem _ mnMath)
  have wmc_min := hts _ (List.mem_cons_of_mem _ mcMath_min)
  have f13 := hts _ (List.mem_cons_of_mem _ mfSw_13)
  have f20 := hts _ (List.mem_cons_of_mem _ mfSw_20)
  refine lv_aload_n hx hb dSw_goOn_0 rfl (lv_at hl 0 rfl) ?_
  refine va_get (D := D) (ci := 8) (v := .int (F 13)) (C := RSw) (T := TSw) (N := 4) hx hb hts inSw_ hown hK hP 7 rfl hcl.2.2.2.2.2.2.2 2 (by decide) f7 (fun _ h9 => h9) rfl dSw_goOn_1 ?_
  refine wt_i k13 ?_
  refine lv_iload_n hx hb dSw_goOn_4 rfl (lv_at hl 1 rfl) ?_
  refine lv_iadd hx hb dSw_goOn_5 ?_
  refine wt_i (r := nI (pl + n)) (by exact nI_add pl n) ?_
  refine lv_aload_n hx hb dSw_goOn_6 rfl (lv_at hl 0 rfl) ?_
  refine va_get (D := D) (ci := 8) (v := .ref (oa 1)) (C := RSw) (T := TSw) (N := 4) hx hb hts inSw_ hown hK hP 7 rfl hcl.2.2.2.2.2.2.2 0 (by decide) f16 (fun _ h9 => h9) rfl dSw_goOn_7 ?_
  refine va_get (D := D) (ci := 2) (v := .int (F 1)) (C := RSh) (T := TSh) (N := 4) hx hb hts inSh_ hown hK hP 1 rfl hcl.2.1 3 (by decide) f24 (fun _ h9 => h9) rfl dSw_goOn_10 ?_
  refine wt_i k1 ?_
  refine va_mmin (x := nI (pl + n)) (y := nI nD) hx hb (by rw [hml]; exact hl.1.symm) hown wml29 wms_min wmnMath wmc_min (Nat.le_of_ble_eq_true rfl) (Nat.le_of_ble_eq_true rfl) (Nat.zero_le _) (Nat.zero_le _) dSw_goOn_13 ?_
  refine wt_i (r := nI (min (pl + n) nD)) (by exact mm_min (by omega) (by omega)) ?_
  refine lv_istore_n (lv' := [(2, .int (nI (min (pl + n) nD))), (0, .ref (oa 7)), (1, .int (nI n))]) hx hb dSw_goOn_16 rfl hl (by decide) rfl (fun ls hl => ?_)
  refine lv_iconst (v := 0) hx hb dSw_goOn_17 (by decide) ?_
  refine lv_istore_n (lv' := [(3, .int 0), (2, .int (nI (min (pl + n) nD))), (0, .ref (oa 7)), (1, .int (nI n))]) hx hb dSw_goOn_18 rfl hl (by decide) rfl (fun ls hl => ?_)
  refine lv_aload_n hx hb dSw_goOn_19 rfl (lv_at hl 2 rfl) ?_
  refine va_get (D := D) (ci := 8) (v := .int (F 13)) (C := RSw) (T := TSw) (N := 4) hx hb hts inSw_ hown hK hP 7 rfl hcl.2.2.2.2.2.2.2 2 (by decide) f7 (fun _ h9 => h9) rfl dSw_goOn_20 ?_
  refine wt_i k13 ?_
  refine lv_istore (lv' := [(4, .int (nI pl)), (3, .int 0), (2, .int (nI (min (pl + n) nD))), (0, .ref (oa 7)), (1, .int (nI n))]) hx hb dSw_goOn_23 hl (by decide) rfl (fun ls hl => ?_)
  have loop25 : ∀ (N25 k25 : Nat), k25 ≤ min (pl + n) nD - pl → min (pl + n) nD - pl - k25 < N25 → ∀ (H : Heap) (locs : List Loc), va_P D cl (cW oa ca ck F G) H → va_D A (cW oa ca ck F G) → va_S A H0 H locs → ∀ (ls : Array Slot), lv_has ls 5 [(4, .int (nI (pl + k25))), (3, .int (lf_Sw_goOn_25 (G 8) (G 9) (G 10) (G 11) nD pl n 0 k25)), (2, .int (nI (min (pl + n) nD))), (0, .ref (oa 7)), (1, .int (nI n))] → W p l e ({ frames := 2, cells := 0, slots := 0, locals := 44 } : Room) s m args below meth c H locs 0 0 Q (F0 m 25 ls []) := by
    intro N25
    induction N25 with
    | zero => intro k25 hk25 hm25; exact absurd hm25 (Nat.not_lt_zero _)
    | succ N25 ih25 =>
      intro k25 hk25 hm25  H locs hP hD hS ls hl
      refine lv_iload hx hb dSw_goOn_25 (lv_at hl 0 rfl) ?_
      refine lv_iload_n hx hb dSw_goOn_27 rfl (lv_at hl 2 rfl) ?_
      refine lv_icmp_ge (tgt := 52) hx hb dSw_goOn_28 (by decide) (fun c28 => ?_) (fun c28 => ?_)
      · have n28 : (min (pl + n) nD) ≤ (pl + k25) := (nI_leI (a := (min (pl + n) nD)) (b := (pl + k25)) (by omega) (by omega)).mp c28
        have hx25 : min (pl + n) nD - pl = k25 := by omega
        subst hx25
        refine lv_aload_n hx hb dSw_goOn_52 rfl (lv_at hl 3 rfl) ?_
        refine lv_iload_n hx hb dSw_goOn_53 rfl (lv_at hl 2 rfl) ?_
        refine va_put (D := D) (ci := 8) (fs := cWl7 oa ca F) (v := .int (nI (min (pl + n) nD))) (ty := .int) (C := RSw) (T := TSw) (N := 4) hx hb hts inSw_ tySw tySw_ok nmSw hown hK hP hD hS 7 rfl hcl.2.2.2.2.2.2.2 2 (by decide) f7 (fun _ h9 => h9) rfl (by decide +kernel) rfl rfl (Nat.le_of_ble_eq_true rfl) dSw_goOn_54 (fun H locs hP hD hS => ?_)
        rw [cW_f13] at hP hD
        refine lv_aload_n hx hb dSw_goOn_57 rfl (lv_at hl 3 rfl) ?_
        refine lv_dup hx hb dSw_goOn_58 rfl ?_
        refine va_get (D := D) (ci := 8) (v := .int (F 14)) (C := RSw) (T := TSw) (N := 4) hx hb hts inSw_ hown hK hP 7 rfl hcl.2.2.2.2.2.2.2 3 (by decide) f13 (fun _ h9 => h9) rfl dSw_goOn_59 ?_
        refine lv_iload_n hx hb dSw_goOn_62 rfl (lv_at hl 1 rfl) ?_
        refine lv_iadd hx hb dSw_goOn_63 ?_
        refine va_put (D := D) (ci := 8) (fs := cWl7 oa ca (upd F 13 (nI (min (pl + n) nD)))) (v := .int ((F 14) + (lf_Sw_goOn_25 (G 8) (G 9) (G 10) (G 11) nD pl n 0 (min (pl + n) nD - pl)))) (ty := .int) (C := RSw) (T := TSw) (N := 4) hx hb hts inSw_ tySw tySw_ok nmSw hown hK hP hD hS 7 rfl hcl.2.2.2.2.2.2.2 3 (by decide) f13 (fun _ h9 => h9) rfl (by decide +kernel) rfl rfl (Nat.le_of_ble_eq_true rfl) dSw_goOn_64 (fun H locs hP hD hS => ?_)
        rw [cW_f14] at hP hD
        refine lv_iload_n hx hb dSw_goOn_67 rfl (lv_at hl 1 rfl) ?_
        have em : mr_Sw_goOn (F 14) (G 8) (G 9) (G 10) (G 11) nD pl n = (lf_Sw_goOn_25 (G 8) (G 9) (G 10) (G 11) nD pl n 0 (min (pl + n) nD - pl), nI (min (pl + n) nD), (F 14) + (lf_Sw_goOn_25 (G 8) (G 9) (G 10) (G 11) nD pl n 0 (min (pl + n) nD - pl))) := by rw [mr_Sw_goOn]
        exact hret _ _ _ _ _ _ (by simp only [em]) (by simp only [em]) hP hD hS dSw_goOn_68
      · have n28 : ¬ (min (pl + n) nD) ≤ (pl + k25) := fun h9 => c28 ((nI_leI (a := (min (pl + n) nD)) (b := (pl + k25)) (by omega) (by omega)).mpr h9)
        refine lv_aload_n hx hb dSw_goOn_31 rfl (lv_at hl 3 rfl) ?_
        refine va_get (D := D) (ci := 8) (v := .ref (oa 3)) (C := RSw) (T := TSw) (N := 4) hx hb hts inSw_ hown hK hP 7 rfl hcl.2.2.2.2.2.2.2 1 (by decide) f20 (fun _ h9 => h9) rfl dSw_goOn_32 ?_
        refine lv_iload hx hb dSw_goOn_35 (lv_at hl 0 rfl) ?_
        refine ro_callV (r := (.int (mr_Bo_allows (G 8) (G 9) (G 10) (G 11) (pl + k25)))) (As := [.int (nI (pl + k25))]) (rest := []) Sx (c_Bo_allows l D cl hcl oa ca ck F G hP (pl + k25) (by omega)) (cwV 1 hts gSw_goOn_Bo_allows rfl rfl rfl (by decide +kernel) ⟨Nat.le_of_ble_eq_true rfl, Nat.le_of_ble_eq_true rfl⟩) hK (va_recv hK hP (ci := 4) (q0 := 3) hcl.2.2.2.1 rfl) rfl hl.1 rfl (Nat.le_of_ble_eq_true rfl) dSw_goOn_37 ⟨Nat.zero_le _, Nat.zero_le _⟩ ?_
        refine lv_if_eq (tgt := 46) hx hb dSw_goOn_40 (by decide) (fun c40 => ?_) (fun c40 => ?_)
        · refine lv_iinc (v := nI (pl + (k25 + 1))) (lv' := [(4, .int (nI (pl + (k25 + 1)))), (3, .int (lf_Sw_goOn_25 (G 8) (G 9) (G 10) (G 11) nD pl n 0 k25)), (2, .int (nI (min (pl + n) nD))), (0, .ref (oa 7)), (1, .int (nI n))]) hx hb dSw_goOn_46 hl (k := 0) rfl (by exact ii_1 (pl + k25)) (by decide) rfl (fun ls hl => ?_)
          refine lv_goto (tgt := 25) hx hb dSw_goOn_49 (by decide) ?_
          have eb25 : lf_Sw_goOn_25 (G 8) (G 9) (G 10) (G 11) nD pl n 0 (k25 + 1) = lf_Sw_goOn_25 (G 8) (G 9) (G 10) (G 11) nD pl n 0 k25 := by rw [lf_Sw_goOn_25, if_pos c40]
          exact ih25 (k25 + 1) (by omega) (by omega)  H locs (by exact hP) (by exact hD) hS ls (by rw [eb25]; exact lv_sub hl [0, 1, 2, 3, 4] rfl)
        · refine lv_iinc (v := (lf_Sw_goOn_25 (G 8) (G 9) (G 10) (G 11) nD pl n 0 k25) + 1) (lv' := [(3, .int ((lf_Sw_goOn_25 (G 8) (G 9) (G 10) (G 11) nD pl n 0 k25) + 1)), (4, .int (nI (pl + k25))), (2, .int (nI (min (pl + n) nD))), (0, .ref (oa 7)), (1, .int (nI n))]) hx hb dSw_goOn_43 hl (k := 1) rfl (by exact ii_x _) (by decide) rfl (fun ls hl => ?_)
          refine lv_iinc (v := nI (pl + (k25 + 1))) (lv' := [(4, .int (nI (pl + (k25 + 1)))), (3, .int ((lf_Sw_goOn_25 (G 8) (G 9) (G 10) (G 11) nD pl n 0 k25) + 1)), (2, .int (nI (min (pl + n) nD))), (0, .ref (oa 7)), (1, .int (nI n))]) hx hb dSw_goOn_46 hl (k := 1) rfl (by exact ii_1 (pl + k25)) (by decide) rfl (fun ls hl => ?_)
          refine lv_goto (tgt := 25) hx hb dSw_goOn_49 (by decide) ?_
          have eb25 : lf_Sw_goOn_25 (G 8) (G 9) (G 10) (G 11) nD pl n 0 (k25 + 1) = (lf_Sw_goOn_25 (G 8) (G 9) (G 10) (G 11) nD pl n 0 k25) + 1 := by rw [lf_Sw_goOn_25, if_neg c40]
          exact ih25 (k25 + 1) (by omega) (by omega)  H locs (by exact hP) (by exact hD) hS ls (by rw [eb25]; exact lv_sub hl [0, 1, 2, 3, 4] rfl)
  exact loop25 _ 0 (Nat.zero_le _) (Nat.lt_succ_self _)  H locs hP hD hS ls (lv_sub hl [0, 1, 2, 3, 4] rfl)
def mr_Wa_drawNear (f9 : Int32) (g0 : Nat → Int32) (g1 : Nat → Int32) (nC : Nat) (d : Int32) : Int32 × Int32 := (((if (nI (ns (zg g0) nC)) ≤ 0 then d else mr_Sh_neighbour g0 g1 nC d (nI (dw g0 nC (wx f9)))) : Int32), wx f9)
set_option maxHeartbeats 4000000 in
set_option maxRecDepth 100000 in
theorem c_Wa_drawNear (l : Launch) (D : va_G) (cl : List vw_C) (hcl : cOK cl) (oa ca : Nat → Nat) (ck : Nat → ClassId) (F : Nat → Int32) (G : Nat → Nat → Int32) {H0 : Heap} (hP : va_P D cl (cW oa ca ck F G) H0) (hD : va_D (fun _ => True) (cW oa ca ck F G)) (nC : Nat) (d : Int32) (k0 : F 0 = nI nC) (hC : nC ≤ 8) (s0 : ∀ c, c < nC → ∃ z : Nat, G 0 c = nI z ∧ 2 ≤ z ∧ z ≤ 6) : ww_Met l yWa_drawNear wsWa_drawNear ({ frames := 2, cells := 0, slots := 0, locals := 51 } : Room) D cl (cT ck) H0 [.ref (oa 6), .int d] (cW oa ca ck F G) (some (.int ((mr_Wa_drawNear (F 9) (G 0) (G 1) nC d).1))) (cW oa ca ck (upd F 9 ((mr_Wa_drawNear (F 9) (G 0) (G 1) nC d).2)) G) := by
  refine ww_metI (by decide) rfl (Nat.le_of_ble_eq_true rfl) hP hD ?_
  intro p e s m args below meth c Q A Sx hK hP hD hS hA ls hl hret
  obtain ⟨hx, hb, hml, hown, hts⟩ := id Sx
  have hl : lv_has ls 3 [(0, .ref (oa 6)), (1, .int d)] := hl
  obtain ⟨H, eH⟩ : ∃ H : Heap, H = H0 := ⟨_, rfl⟩
  obtain ⟨locs, eL⟩ : ∃ L : List Loc, L = [] := ⟨_, rfl⟩
  have hP : va_P D cl (cW oa ca ck F G) H := by rw [eH]; exact hP
  have hS : va_S A H0 H locs := by rw [eH, eL]; exact hS
  rw [show W p l e ({ frames := 2, cells := 0, slots := 0, locals := 51 } : Room) s m args below meth c H0 [] 0 0 Q (F0 m 0 ls []) = W p l e ({ frames := 2, cells := 0, slots := 0, locals := 51 } : Room) s m args below meth c H locs 0 0 Q (F0 m 0 ls []) by rw [eH, eL]]
  clear eH eL
  have k46 := hts _ (List.mem_cons_of_mem _ mkWa_46)
  have f29 := hts _ (List.mem_cons_of_mem _ mfWa_29)
  have inWa_ : ∀ w ∈ wsWa0, w ∈ wsWa_drawNear := fun w h => List.mem_cons_of_mem _ (inWa_all w h)
  have k47 := hts _ (List.mem_cons_of_mem _ mkWa_47)
  have f21 := hts _ (List.mem_cons_of_mem _ mfWa_21)
  have k54 := hts _ (List.mem_cons_of_mem _ mkWa_54)
  have hns := (ns_small s0 nC (Nat.le_refl _)).2
  refine lv_aload_n hx hb dWa_drawNear_0 rfl (lv_at hl 0 rfl) ?_
  refine lv_ldc hx hb hown k46 dWa_drawNear_1 ?_
  refine lv_aload_n hx hb dWa_drawNear_3 rfl (lv_at hl 0 rfl) ?_
  refine va_get (D := D) (ci := 7) (v := .int (F 9)) (C := RWa) (T := TWa) (N := 6) hx hb hts inWa_ hown hK hP 6 rfl hcl.2.2.2.2.2.2.1 2 (by decide) f29 (fun _ h9 => h9) rfl dWa_drawNear_4 ?_
  refine lv_imul hx hb dWa_drawNear_7 ?_
  refine lv_sipush (v := 12345) hx hb dWa_drawNear_8 (by decide) ?_
  refine lv_iadd hx hb dWa_drawNear_11 ?_
  refine lv_ldc hx hb hown k47 dWa_drawNear_12 ?_
  refine lv_iand hx hb dWa_drawNear_14 ?_
  refine wt_i (r := wx (F 9)) (by rfl) ?_
  refine va_put (D := D) (ci := 7) (fs := cWl6 oa ca F) (v := .int (wx (F 9))) (ty := .int) (C := RWa) (T := TWa) (N := 6) hx hb hts inWa_ tyWa tyWa_ok nmWa hown hK hP hD hS 6 rfl hcl.2.2.2.2.2.2.1 2 (by decide) f29 (fun _ h9 => h9) rfl (by decide +kernel) rfl rfl (Nat.le_of_ble_eq_true rfl) dWa_drawNear_15 (fun H locs hP hD hS => ?_)
  rw [cW_f9] at hP hD
  refine lv_aload_n hx hb dWa_drawNear_18 rfl (lv_at hl 0 rfl) ?_
  refine va_get (D := D) (ci := 7) (v := .ref (oa 1)) (C := RWa) (T := TWa) (N := 6) hx hb hts inWa_ hown hK hP 6 rfl hcl.2.2.2.2.2.2.1 0 (by decide) f21 (fun _ h9 => h9) rfl dWa_drawNear_19 ?_
  refine ro_callV (r := (.int (mr_Sh_neighbours (G 0) nC))) (As := []) (rest := []) Sx (c_Sh_neighbours l D cl hcl oa ca ck (upd F 9 (wx (F 9))) G hP nC k0 hC) (cwV 0 hts gWa_drawNear_Sh_neighbours rfl rfl rfl (by decide +kernel) ⟨Nat.le_of_ble_eq_true rfl, Nat.le_of_ble_eq_true rfl⟩) hK (va_recv hK hP (ci := 2) (q0 := 1) hcl.2.1 rfl) rfl hl.1 rfl (Nat.le_of_ble_eq_true rfl) dWa_drawNear_22 ⟨Nat.zero_le _, Nat.zero_le _⟩ ?_
  refine wt_i (r := nI (ns (zg (G 0)) nC)) (by exact nb_num s0) ?_
  refine lv_istore_n (lv' := [(2, .int (nI (ns (zg (G 0)) nC))), (0, .ref (oa 6)), (1, .int d)]) hx hb dWa_drawNear_25 rfl hl (by decide) rfl (fun ls hl => ?_)
  refine lv_iload_n hx hb dWa_drawNear_26 rfl (lv_at hl 0 rfl) ?_
  have j51 : ∀ (ls : Array Slot), lv_has ls 3 [(2, .int (nI (ns (zg (G 0)) nC))), (0, .ref (oa 6)), (1, .int d)] → W p l e ({ frames := 2, cells := 0, slots := 0, locals := 51 } : Room) s m args below meth c H locs 0 0 Q (F0 m 51 ls [.int ((if (nI (ns (zg (G 0)) nC)) ≤ 0 then d else mr_Sh_neighbour (G 0) (G 1) nC d (nI (dw (G 0) nC (wx (F 9))))) : Int32)]) := by
    intro ls hl
    have em : mr_Wa_drawNear (F 9) (G 0) (G 1) nC d = (((if (nI (ns (zg (G 0)) nC)) ≤ 0 then d else mr_Sh_neighbour (G 0) (G 1) nC d (nI (dw (G 0) nC (wx (F 9))))) : Int32), wx (F 9)) := by rw [mr_Wa_drawNear]
    exact hret _ _ _ _ _ _ (by simp only [em]) (by simp only [em]) hP hD hS dWa_drawNear_51
  refine lv_if_le (tgt := 50) hx hb dWa_drawNear_27 (by decide) (fun c27 => ?_) (fun c27 => ?_)
  · have n27 : (ns (zg (G 0)) nC) ≤ 0 := (nI_leI (a := (ns (zg (G 0)) nC)) (b := 0) (by omega) (by omega)).mp c27
    refine lv_iload_n hx hb dWa_drawNear_50 rfl (lv_at hl 2 rfl) ?_
    exact wt_i (by rw [if_pos c27]) (j51 ls hl)
  · have n27 : ¬ (ns (zg (G 0)) nC) ≤ 0 := fun h9 => c27 ((nI_leI (a := (ns (zg (G 0)) nC)) (b := 0) (by omega) (by omega)).mpr h9)
    refine lv_aload_n hx hb dWa_drawNear_30 rfl (lv_at hl 1 rfl) ?_
    refine va_get (D := D) (ci := 7) (v := .ref (oa 1)) (C := RWa) (T := TWa) (N := 6) hx hb hts inWa_ hown hK hP 6 rfl hcl.2.2.2.2.2.2.1 0 (by decide) f21 (fun _ h9 => h9) rfl dWa_drawNear_31 ?_
    refine lv_iload_n hx hb dWa_drawNear_34 rfl (lv_at hl 2 rfl) ?_
    refine lv_aload_n hx hb dWa_drawNear_35 rfl (lv_at hl 1 rfl) ?_
    have ef36 : (upd F 9 (wx (F 9))) 9 = wx (F 9) := by rw [pk_us]
    refine va_get (D := D) (ci := 7) (v := .int (wx (F 9))) (C := RWa) (T := TWa) (N := 6) hx hb hts inWa_ hown hK hP 6 rfl hcl.2.2.2.2.2.2.1 2 (by decide) f29 (fun _ h9 => h9) (congrArg (fun z => some (Value.int z)) ef36) dWa_drawNear_36 ?_
    refine lv_ldc hx hb hown k54 dWa_drawNear_39 ?_
    have sd41 : ¬ (65536 : Int32) = 0 := by decide
    refine lv_idiv hx hb dWa_drawNear_41 sd41 ?_
    refine lv_iload_n hx hb dWa_drawNear_42 rfl (lv_at hl 0 rfl) ?_
    have sd43 : ¬ (nI (ns (zg (G 0)) nC)) = 0 := by exact nI_ne0 (by omega) (by omega)
    refine lv_irem hx hb dWa_drawNear_43 sd43 ?_
    refine wt_i (r := nI (dw (G 0) nC (wx (F 9)))) (by exact dw_eq rfl (by omega) (by omega)) ?_
    refine ro_callV (r := (.int (mr_Sh_neighbour (G 0) (G 1) nC d (nI (dw (G 0) nC (wx (F 9))))))) (As := [.int d, .int (nI (dw (G 0) nC (wx (F 9))))]) (rest := []) Sx (c_Sh_neighbour l D cl hcl oa ca ck (upd F 9 (wx (F 9))) G hP nC d (nI (dw (G 0) nC (wx (F 9)))) k0 hC) (cwV 2 hts gWa_drawNear_Sh_neighbour rfl rfl rfl (by decide +kernel) ⟨Nat.le_of_ble_eq_true rfl, Nat.le_of_ble_eq_true rfl⟩) hK (va_recv hK hP (ci := 2) (q0 := 1) hcl.2.1 rfl) rfl hl.1 rfl (Nat.le_of_ble_eq_true rfl) dWa_drawNear_44 ⟨Nat.zero_le _, Nat.zero_le _⟩ ?_
    refine lv_goto (tgt := 51) hx hb dWa_drawNear_47 (by decide) ?_
    exact wt_i (by rw [if_neg c27]) (j51 ls hl)
def lf_Wa_go_29 (f10 : Int32) (g0 : Nat → Int32) (g1 : Nat → Int32) (g8 : Nat → Int32) (g9 : Nat → Int32) (g10 : Nat → Int32) (g11 : Nat → Int32) (nC : Nat) (nD : Nat) (d : Nat) (sp : Nat) : Nat → Nat → Int32 → Int64 → Int64 → Int32 → Int32 → Int32 → Nat × Int32 × Int64 × Int64 × Int32 × Int32 × Int32
  | 0, j, wa, co, lc, x_, lo, mo => (j, wa, co, lc, x_, lo, mo)
  | N + 1, j, wa, co, lc, x_, lo, mo => (if (nI sp) ≤ (nI j) then (j, wa, co, lc, x_, lo, mo) else (if (mr_Bo_allows g8 g9 g10 g11 (((mr_Wa_drawNear x_ g0 g1 nC wa).1).toNatClampNeg)) = 0 then lf_Wa_go_29 f10 g0 g1 g8 g9 g10 g11 nC nD d sp N (j + 1) wa co lc ((mr_Wa_drawNear x_ g0 g1 nC wa).2) lo mo else (if 0 < (lg_cmp (mr_Bo_costOf g10 (((mr_Wa_drawNear x_ g0 g1 nC wa).1).toNatClampNeg)) (co + (f10.toInt64))) then lf_Wa_go_29 f10 g0 g1 g8 g9 g10 g11 nC nD d sp N (j + 1) wa co lc ((mr_Wa_drawNear x_ g0 g1 nC wa).2) lo mo else (if 0 ≤ (lg_cmp (mr_Bo_costOf g10 (((mr_Wa_drawNear x_ g0 g1 nC wa).1).toNatClampNeg)) lc) then lf_Wa_go_29 f10 g0 g1 g8 g9 g10 g11 nC nD d sp N (j + 1) ((mr_Wa_drawNear x_ g0 g1 nC wa).1) (mr_Bo_costOf g10 (((mr_Wa_drawNear x_ g0 g1 nC wa).1).toNatClampNeg)) lc ((mr_Wa_drawNear x_ g0 g1 nC wa).2) lo (mo + 1) else lf_Wa_go_29 f10 g0 g1 g8 g9 g10 g11 nC nD d sp N (j + 1) ((mr_Wa_drawNear x_ g0 g1 nC wa).1) (mr_Bo_costOf g10 (((mr_Wa_drawNear x_ g0 g1 nC wa).1).toNatClampNeg)) (mr_Bo_costOf g10 (((mr_Wa_drawNear x_ g0 g1 nC wa).1).toNatClampNeg)) ((mr_Wa_drawNear x_ g0 g1 nC wa).2) ((mr_Wa_drawNear x_ g0 g1 nC wa).1) (mo + 1)))))
def mr_Wa_go (f9 : Int32) (f10 : Int32) (g0 : Nat → Int32) (g1 : Nat → Int32) (g8 : Nat → Int32) (g9 : Nat → Int32) (g10 : Nat → Int32) (g11 : Nat → Int32) (nC : Nat) (nD : Nat) (d : Nat) (sp : Nat) : Int32 × Int32 × Int32 × Int32 := ((lf_Wa_go_29 f10 g0 g1 g8 g9 g10 g11 nC nD d sp (sp + 1) 0 (nI d) (mr_Bo_costOf g10 d) (mr_Bo_costOf g10 d) f9 (nI d) 0).2.1, (lf_Wa_go_29 f10 g0 g1 g8 g9 g10 g11 nC nD d sp (sp + 1) 0 (nI d) (mr_Bo_costOf g10 d) (mr_Bo_costOf g10 d) f9 (nI d) 0).2.2.2.2.1, (lf_Wa_go_29 f10 g0 g1 g8 g9 g10 g11 nC nD d sp (sp + 1) 0 (nI d) (mr_Bo_costOf g10 d) (mr_Bo_costOf g10 d) f9 (nI d) 0).2.2.2.2.2.1, (lf_Wa_go_29 f10 g0 g1 g8 g9 g10 g11 nC nD d sp (sp + 1) 0 (nI d) (mr_Bo_costOf g10 d) (mr_Bo_costOf g10 d) f9 (nI d) 0).2.2.2.2.2.2)
theorem nb_lf {g0 g1 : Nat → Int32} {nC nD d : Nat} {q : Int32} (hC : nC ≤ 8) (s0 : ∀ c, c < nC → ∃ z : Nat, g0 c = nI z ∧ 2 ≤ z ∧ z ≤ 6) (s1 : ∀ c, c < nC → g1 c = nI (pc_ (zg g0) nC c)) (hmp : mp (zg g0) 0 nC = nD) (hN : nD ≤ 4096) (hd : d < nD) : ∀ (N c L : Nat), nC - c < N → c ≤ nC → L < 2 ^ 31 → lf_Sh_neighbour_5 g0 g1 nC (nI d) q N c (nI L) = match nbr (zg g0) nC d N c L with
    | none => nI d
    | some (c', w) => nI d + (nI w - nI (dg (zg g0) nC d c')) * nI (pc_ (zg g0) nC c') := by
  intro N
  induction N with
  | zero => intro c L h; exact absurd h (Nat.not_lt_zero _)
  | succ N ih =>
    intro c L h hc hL
    rw [lf_Sh_neighbour_5, nbr]
    by_cases h1 : nC ≤ c
    · rw [if_pos ((nI_leI (by omega) (by omega)).mpr h1), if_pos h1]
    · obtain ⟨z1, z2, z3⟩ := zg_ok s0 (c := c) (by omega)
      rw [if_neg (fun h9 => h1 ((nI_leI (by omega) (by omega)).mp h9)), if_neg h1, zpred z1 (by omega)]
      by_cases h2 : L < zg g0 c - 1
      · rw [if_neg (nI_ge h2 (by omega)), if_pos h2, dig_sem s0 s1 hmp hN (by omega) (by omega), s1 c (by omega)]
        by_cases h3 : L < dg (zg g0) nC d c
        · rw [if_neg (nI_ge h3 (by have := dg_lt (z := zg g0) (n := nC) (d := d) (c := c) (by omega); omega)), if_pos h3]
        · rw [if_pos (nI_le (by omega) hL), if_neg h3, nI_1]
      · rw [if_pos (nI_le (by omega) hL), if_neg h2, pk_sub (by omega)]
        exact ih (c + 1) (L - (zg g0 c - 1)) (by omega) (by omega) (by omega)
theorem nb_eq {g0 g1 : Nat → Int32} {nC nD d k : Nat} (hC : nC ≤ 8) (s0 : ∀ c, c < nC → ∃ z : Nat, g0 c = nI z ∧ 2 ≤ z ∧ z ≤ 6) (s1 : ∀ c, c < nC → g1 c = nI (pc_ (zg g0) nC c)) (hmp : mp (zg g0) 0 nC = nD) (hN : nD ≤ 4096) (hd : d < nD) (hk : k < ns (zg g0) nC) : ∃ c w : Nat, nbr (zg g0) nC d (nC + 1) 0 k = some (c, w) ∧ c < nC ∧ w < zg g0 c ∧ mr_Sh_neighbour g0 g1 nC (nI d) (nI k) = nI (cn (zg g0) (fun j => if j = c then w else dg (zg g0) nC d j) nC) := by
  obtain ⟨c, w, e, hc, hw⟩ := nbr_some (z := zg g0) (n := nC) (d := d) (fun c hc => (zg_ok s0 hc).2.1) (nC + 1) 0 k (by omega) (Nat.zero_le _) hk
  have hks := (ns_small s0 nC (Nat.le_refl _)).2
  refine ⟨c, w, e, hc, hw, ?_⟩
  unfold mr_Sh_neighbour
  rw [nb_lf hC s0 s1 hmp hN hd (nC + 1) 0 k (by omega) (Nat.zero_le _) (by omega), e]
  show nI d + (nI w - nI (dg (zg g0) nC d c)) * nI (pc_ (zg g0) nC c) = _
  have hu := cn_upd (z := zg g0) (r := dg (zg g0) nC d) (n := nC) (c := c) (v := w) hc
  rw [cn_all (by rw [hmp]; exact hd)] at hu
  have h32 : nI (cn (zg g0) (fun j => if j = c then w else dg (zg g0) nC d j) nC) + nI (dg (zg g0) nC d c) * nI (pc_ (zg g0) nC c) = nI d + nI w * nI (pc_ (zg g0) nC c) := by
    rw [pk_mul, pk_mul, nI_add, nI_add, hu]
  rw [Int32.sub_mul, Int32.eq_sub_iff_add_eq.mpr h32, Int32.sub_eq_add_neg, Int32.sub_eq_add_neg, Int32.add_assoc]
theorem dr_lt {g0 g1 : Nat → Int32} {nC nD : Nat} {x wa : Int32} (hC : nC ≤ 8) (s0 : ∀ c, c < nC → ∃ z : Nat, g0 c = nI z ∧ 2 ≤ z ∧ z ≤ 6) (s1 : ∀ c, c < nC → g1 c = nI (pc_ (zg g0) nC c)) (hmp : mp (zg g0) 0 nC = nD) (hN : nD ≤ 4096) (hat : ∃ j0 : Nat, j0 < nD ∧ wa = nI j0) : ∃ j0 : Nat, j0 < nD ∧ (mr_Wa_drawNear x g0 g1 nC wa).1 = nI j0 := by
  obtain ⟨d, hd, rfl⟩ := hat
  show ∃ j0 : Nat, j0 < nD ∧ ((if (nI (ns (zg g0) nC)) ≤ 0 then nI d else mr_Sh_neighbour g0 g1 nC (nI d) (nI (dw g0 nC (wx x)))) : Int32) = nI j0
  by_cases h : nI (ns (zg g0) nC) ≤ 0
  · rw [if_pos h]; exact ⟨d, hd, rfl⟩
  · rw [if_neg h]
    have h0 : 0 < ns (zg g0) nC := by
      rcases Nat.eq_zero_or_pos (ns (zg g0) nC) with q | q
      · exact absurd (by rw [q]; decide) h
      · exact q
    obtain ⟨c, w, e, hc, hw, en⟩ := nb_eq hC s0 s1 hmp hN hd (dw_lt (x := wx x) h0)
    rw [en, ← hmp]
    refine ⟨_, cn_lt (fun j hj => ?_), rfl⟩
    have := (zg_ok s0 hj).2.1
    by_cases h : j = c
    · rw [if_pos h, h]; exact hw
    · rw [if_neg h]; exact dg_lt (by omega)
set_option maxHeartbeats 4000000 in
set_option maxRecDepth 100000 in
theorem c_Wa_go (l : Launch) (D : va_G) (cl : List vw_C) (hcl : cOK cl) (oa ca : Nat → Nat) (ck : Nat → ClassId) (F : Nat → Int32) (G : Nat → Nat → Int32) {H0 : Heap} (hP : va_P D cl (cW oa ca ck F G) H0) (hD : va_D (fun _ => True) (cW oa ca ck F G)) (nC : Nat) (nD : Nat) (d : Nat) (sp : Nat) (k0 : F 0 = nI nC) (hC : nC ≤ 8) (s0 : ∀ c, c < nC → ∃ z : Nat, G 0 c = nI z ∧ 2 ≤ z ∧ z ≤ 6) (s1 : ∀ c, c < nC → G 1 c = nI (pc_ (zg (G 0)) nC c)) (hmp : mp (zg (G 0)) 0 nC = nD) (hN : nD ≤ 4096) (hd : d < nD) (hsp : sp ≤ 1000) : ww_Met l yWa_go wsWa_go ({ frames := 3, cells := 0, slots := 0, locals := 73 } : Room) D cl (cT ck) H0 [.ref (oa 6), .int (nI d), .int (nI sp)] (cW oa ca ck F G) (some (.int ((mr_Wa_go (F 9) (F 10) (G 0) (G 1) (G 8) (G 9) (G 10) (G 11) nC nD d sp).1))) (cW oa ca ck (upd (upd (upd F 9 ((mr_Wa_go (F 9) (F 10) (G 0) (G 1) (G 8) (G 9) (G 10) (G 11) nC nD d sp).2.1)) 11 ((mr_Wa_go (F 9) (F 10) (G 0) (G 1) (G 8) (G 9) (G 10) (G 11) nC nD d sp).2.2.1)) 12 ((mr_Wa_go (F 9) (F 10) (G 0) (G 1) (G 8) (G 9) (G 10) (G 11) nC nD d sp).2.2.2)) G) := by
  refine ww_metI (by decide) rfl (Nat.le_of_ble_eq_true rfl) hP hD ?_
  intro p e s m args below meth c Q A Sx hK hP hD hS hA ls hl hret
  obtain ⟨hx, hb, hml, hown, hts⟩ := id Sx
  have hl : lv_has ls 12 [(0, .ref (oa 6)), (1, .int (nI d)), (2, .int (nI sp))] := hl
  obtain ⟨H, eH⟩ : ∃ H : Heap, H = H0 := ⟨_, rfl⟩
  obtain ⟨locs, eL⟩ : ∃ L : List Loc, L = [] := ⟨_, rfl⟩
  have hP : va_P D cl (cW oa ca ck F G) H := by rw [eH]; exact hP
  have hS : va_S A H0 H locs := by rw [eH, eL]; exact hS
  rw [show W p l e ({ frames := 3, cells := 0, slots := 0, locals := 73 } : Room) s m args below meth c H0 [] 0 0 Q (F0 m 0 ls []) = W p l e ({ frames := 3, cells := 0, slots := 0, locals := 73 } : Room) s m args below meth c H locs 0 0 Q (F0 m 0 ls []) by rw [eH, eL]]
  clear eH eL
  have f25 := hts _ (List.mem_cons_of_mem _ mfWa_25)
  have inWa_ : ∀ w ∈ wsWa0, w ∈ wsWa_go := fun w h => List.mem_cons_of_mem _ (inWa_all w h)
  have f15 := hts _ (List.mem_cons_of_mem _ mfWa_15)
  have f18 := hts _ (List.mem_cons_of_mem _ mfWa_18)
  have f9 := hts _ (List.mem_cons_of_mem _ mfWa_9)
  refine lv_iload_n hx hb dWa_go_0 rfl (lv_at hl 1 rfl) ?_
  refine lv_istore_n (lv' := [(3, .int (nI d)), (0, .ref (oa 6)), (1, .int (nI d)), (2, .int (nI sp))]) hx hb dWa_go_1 rfl hl (by decide) rfl (fun ls hl => ?_)
  refine lv_aload_n hx hb dWa_go_2 rfl (lv_at hl 1 rfl) ?_
  refine va_get (D := D) (ci := 7) (v := .ref (oa 3)) (C := RWa) (T := TWa) (N := 6) hx hb hts inWa_ hown hK hP 6 rfl hcl.2.2.2.2.2.2.1 1 (by decide) f25 (fun _ h9 => h9) rfl dWa_go_3 ?_
  refine lv_iload_n hx hb dWa_go_6 rfl (lv_at hl 2 rfl) ?_
  refine ro_callV (r := (.long (mr_Bo_costOf (G 10) d))) (As := [.int (nI d)]) (rest := []) Sx (c_Bo_costOf l D cl hcl oa ca ck F G hP d (by omega)) (cwV 1 hts gWa_go_Bo_costOf rfl rfl rfl (by decide +kernel) ⟨Nat.le_of_ble_eq_true rfl, Nat.le_of_ble_eq_true rfl⟩) hK (va_recv hK hP (ci := 4) (q0 := 3) hcl.2.2.2.1 rfl) rfl hl.1 rfl (Nat.le_of_ble_eq_true rfl) dWa_go_7 ⟨Nat.zero_le _, Nat.zero_le _⟩ ?_
  refine lv_lstore (lv' := [(4, .long (mr_Bo_costOf (G 10) d)), (3, .int (nI d)), (0, .ref (oa 6)), (1, .int (nI d)), (2, .int (nI sp))]) hx hb dWa_go_10 hl (by decide) rfl (fun ls hl => ?_)
  refine lv_lload hx hb dWa_go_12 (lv_at hl 0 rfl) ?_
  refine lv_lstore (lv' := [(6, .long (mr_Bo_costOf (G 10) d)), (4, .long (mr_Bo_costOf (G 10) d)), (3, .int (nI d)), (0, .ref (oa 6)), (1, .int (nI d)), (2, .int (nI sp))]) hx hb dWa_go_14 hl (by decide) rfl (fun ls hl => ?_)
  refine lv_aload_n hx hb dWa_go_16 rfl (lv_at hl 3 rfl) ?_
  refine lv_iload_n hx hb dWa_go_17 rfl (lv_at hl 4 rfl) ?_
  refine va_put (D := D) (ci := 7) (fs := cWl6 oa ca F) (v := .int (nI d)) (ty := .int) (C := RWa) (T := TWa) (N := 6) hx hb hts inWa_ tyWa tyWa_ok nmWa hown hK hP hD hS 6 rfl hcl.2.2.2.2.2.2.1 4 (by decide) f15 (fun _ h9 => h9) rfl (by decide +kernel) rfl rfl (Nat.le_of_ble_eq_true rfl) dWa_go_18 (fun H locs hP hD hS => ?_)
  rw [cW_f11] at hP hD
  refine lv_aload_n hx hb dWa_go_21 rfl (lv_at hl 3 rfl) ?_
  refine lv_iconst (v := 0) hx hb dWa_go_22 (by decide) ?_
  refine va_put (D := D) (ci := 7) (fs := cWl6 oa ca (upd F 11 (nI d))) (v := .int 0) (ty := .int) (C := RWa) (T := TWa) (N := 6) hx hb hts inWa_ tyWa tyWa_ok nmWa hown hK hP hD hS 6 rfl hcl.2.2.2.2.2.2.1 5 (by decide) f18 (fun _ h9 => h9) rfl (by decide +kernel) rfl rfl (Nat.le_of_ble_eq_true rfl) dWa_go_23 (fun H locs hP hD hS => ?_)
  rw [cW_f12] at hP hD
  refine lv_iconst (v := 0) hx hb dWa_go_26 (by decide) ?_
  refine lv_istore (lv' := [(8, .int 0), (6, .long (mr_Bo_costOf (G 10) d)), (4, .long (mr_Bo_costOf (G 10) d)), (3, .int (nI d)), (0, .ref (oa 6)), (1, .int (nI d)), (2, .int (nI sp))]) hx hb dWa_go_27 hl (by decide) rfl (fun ls hl => ?_)
  have ex29 : ∀ (H : Heap) (locs : List Loc), va_P D cl (cW oa ca ck (upd (upd (upd F 9 ((lf_Wa_go_29 (F 10) (G 0) (G 1) (G 8) (G 9) (G 10) (G 11) nC nD d sp (sp + 1) 0 (nI d) (mr_Bo_costOf (G 10) d) (mr_Bo_costOf (G 10) d) (F 9) (nI d) 0).2.2.2.2.1)) 11 ((lf_Wa_go_29 (F 10) (G 0) (G 1) (G 8) (G 9) (G 10) (G 11) nC nD d sp (sp + 1) 0 (nI d) (mr_Bo_costOf (G 10) d) (mr_Bo_costOf (G 10) d) (F 9) (nI d) 0).2.2.2.2.2.1)) 12 ((lf_Wa_go_29 (F 10) (G 0) (G 1) (G 8) (G 9) (G 10) (G 11) nC nD d sp (sp + 1) 0 (nI d) (mr_Bo_costOf (G 10) d) (mr_Bo_costOf (G 10) d) (F 9) (nI d) 0).2.2.2.2.2.2)) G) H → va_D A (cW oa ca ck (upd (upd (upd F 9 ((lf_Wa_go_29 (F 10) (G 0) (G 1) (G 8) (G 9) (G 10) (G 11) nC nD d sp (sp + 1) 0 (nI d) (mr_Bo_costOf (G 10) d) (mr_Bo_costOf (G 10) d) (F 9) (nI d) 0).2.2.2.2.1)) 11 ((lf_Wa_go_29 (F 10) (G 0) (G 1) (G 8) (G 9) (G 10) (G 11) nC nD d sp (sp + 1) 0 (nI d) (mr_Bo_costOf (G 10) d) (mr_Bo_costOf (G 10) d) (F 9) (nI d) 0).2.2.2.2.2.1)) 12 ((lf_Wa_go_29 (F 10) (G 0) (G 1) (G 8) (G 9) (G 10) (G 11) nC nD d sp (sp + 1) 0 (nI d) (mr_Bo_costOf (G 10) d) (mr_Bo_costOf (G 10) d) (F 9) (nI d) 0).2.2.2.2.2.2)) G) → va_S A H0 H locs → ∀ (ls : Array Slot), lv_has ls 12 [(8, .int (nI ((lf_Wa_go_29 (F 10) (G 0) (G 1) (G 8) (G 9) (G 10) (G 11) nC nD d sp (sp + 1) 0 (nI d) (mr_Bo_costOf (G 10) d) (mr_Bo_costOf (G 10) d) (F 9) (nI d) 0).1))), (6, .long ((lf_Wa_go_29 (F 10) (G 0) (G 1) (G 8) (G 9) (G 10) (G 11) nC nD d sp (sp + 1) 0 (nI d) (mr_Bo_costOf (G 10) d) (mr_Bo_costOf (G 10) d) (F 9) (nI d) 0).2.2.2.1)), (4, .long ((lf_Wa_go_29 (F 10) (G 0) (G 1) (G 8) (G 9) (G 10) (G 11) nC nD d sp (sp + 1) 0 (nI d) (mr_Bo_costOf (G 10) d) (mr_Bo_costOf (G 10) d) (F 9) (nI d) 0).2.2.1)), (3, .int ((lf_Wa_go_29 (F 10) (G 0) (G 1) (G 8) (G 9) (G 10) (G 11) nC nD d sp (sp + 1) 0 (nI d) (mr_Bo_costOf (G 10) d) (mr_Bo_costOf (G 10) d) (F 9) (nI d) 0).2.1)), (0, .ref (oa 6)), (1, .int (nI d)), (2, .int (nI sp))] → W p l e ({ frames := 3, cells := 0, slots := 0, locals := 73 } : Room) s m args below meth c H locs 0 0 Q (F0 m 119 ls []) := by
    intro H locs hP hD hS ls hl
    refine lv_iload_n hx hb dWa_go_119 rfl (lv_at hl 3 rfl) ?_
    have em : mr_Wa_go (F 9) (F 10) (G 0) (G 1) (G 8) (G 9) (G 10) (G 11) nC nD d sp = ((lf_Wa_go_29 (F 10) (G 0) (G 1) (G 8) (G 9) (G 10) (G 11) nC nD d sp (sp + 1) 0 (nI d) (mr_Bo_costOf (G 10) d) (mr_Bo_costOf (G 10) d) (F 9) (nI d) 0).2.1, (lf_Wa_go_29 (F 10) (G 0) (G 1) (G 8) (G 9) (G 10) (G 11) nC nD d sp (sp + 1) 0 (nI d) (mr_Bo_costOf (G 10) d) (mr_Bo_costOf (G 10) d) (F 9) (nI d) 0).2.2.2.2.1, (lf_Wa_go_29 (F 10) (G 0) (G 1) (G 8) (G 9) (G 10) (G 11) nC nD d sp (sp + 1) 0 (nI d) (mr_Bo_costOf (G 10) d) (mr_Bo_costOf (G 10) d) (F 9) (nI d) 0).2.2.2.2.2.1, (lf_Wa_go_29 (F 10) (G 0) (G 1) (G 8) (G 9) (G 10) (G 11) nC nD d sp (sp + 1) 0 (nI d) (mr_Bo_costOf (G 10) d) (mr_Bo_costOf (G 10) d) (F 9) (nI d) 0).2.2.2.2.2.2) := by rw [mr_Wa_go]
    exact hret _ _ _ _ _ _ (by simp only [em]) (by simp only [em]) hP hD hS dWa_go_120
  have loop29 : ∀ (N29 : Nat) (j : Nat) (wa : Int32) (co : Int64) (lc : Int64) (x_ : Int32) (lo : Int32) (mo : Int32), (∃ j0 : Nat, j0 < nD ∧ wa = nI j0) → j ≤ sp → sp - j < N29 → lf_Wa_go_29 (F 10) (G 0) (G 1) (G 8) (G 9) (G 10) (G 11) nC nD d sp (sp + 1) 0 (nI d) (mr_Bo_costOf (G 10) d) (mr_Bo_costOf (G 10) d) (F 9) (nI d) 0 = lf_Wa_go_29 (F 10) (G 0) (G 1) (G 8) (G 9) (G 10) (G 11) nC nD d sp N29 j wa co lc x_ lo mo → ∀ (H : Heap) (locs : List Loc), va_P D cl (cW oa ca ck (upd (upd (upd F 9 x_) 11 lo) 12 mo) G) H → va_D A (cW oa ca ck (upd (upd (upd F 9 x_) 11 lo) 12 mo) G) → va_S A H0 H locs → ∀ (ls : Array Slot), lv_has ls 12 [(8, .int (nI j)), (6, .long lc), (4, .long co), (3, .int wa), (0, .ref (oa 6)), (1, .int (nI d)), (2, .int (nI sp))] → W p l e ({ frames := 3, cells := 0, slots := 0, locals := 73 } : Room) s m args below meth c H locs 0 0 Q (F0 m 29 ls []) := by
    intro N29
    induction N29 with
    | zero => intro j wa co lc x_ lo mo hat hj hm29; exact absurd hm29 (Nat.not_lt_zero _)
    | succ N29 ih29 =>
      intro j wa co lc x_ lo mo hat hj hm29 hR29 H locs hP hD hS ls hl
      refine lv_iload hx hb dWa_go_29 (lv_at hl 0 rfl) ?_
      refine lv_iload_n hx hb dWa_go_31 rfl (lv_at hl 6 rfl) ?_
      refine lv_icmp_ge (tgt := 119) hx hb dWa_go_32 (by decide) (fun c32 => ?_) (fun c32 => ?_)
      · have n32 : sp ≤ j := (nI_leI (a := sp) (b := j) (by omega) (by omega)).mp c32
        have er29 : lf_Wa_go_29 (F 10) (G 0) (G 1) (G 8) (G 9) (G 10) (G 11) nC nD d sp (N29 + 1) j wa co lc x_ lo mo = (j, wa, co, lc, x_, lo, mo) := by rw [lf_Wa_go_29, if_pos c32]
        rw [er29] at hR29
        exact ex29 H locs (by rw [hR29]; exact hP) (by rw [hR29]; exact hD) hS ls (by rw [hR29]; exact lv_sub hl [0, 1, 2, 3, 4, 5, 6] rfl)
      · have n32 : ¬ sp ≤ j := fun h9 => c32 ((nI_leI (a := sp) (b := j) (by omega) (by omega)).mpr h9)
        refine lv_aload_n hx hb dWa_go_35 rfl (lv_at hl 4 rfl) ?_
        refine lv_iload_n hx hb dWa_go_36 rfl (lv_at hl 3 rfl) ?_
        refine ww_callV (r := (some (.int ((mr_Wa_drawNear x_ (G 0) (G 1) nC wa).1)))) (w' := cW oa ca ck (upd (upd (upd (upd F 9 x_) 11 lo) 12 mo) 9 ((mr_Wa_drawNear x_ (G 0) (G 1) nC wa).2)) G) (As := [.int wa]) (rest := []) Sx (c_Wa_drawNear l D cl hcl oa ca ck (upd (upd (upd F 9 x_) 11 lo) 12 mo) G hP (hD.weaken (fun _ _ _ _ => trivial)) nC wa k0 hC s0) (cwV 1 hts gWa_go_Wa_drawNear rfl rfl rfl (by decide +kernel) ⟨Nat.le_of_ble_eq_true rfl, Nat.le_of_ble_eq_true rfl⟩) hK (va_recv hK hP (ci := 7) (q0 := 6) hcl.2.2.2.2.2.2.1 rfl) rfl hl.1 rfl (Nat.le_of_ble_eq_true rfl) dWa_go_37 ⟨Nat.zero_le _, Nat.zero_le _⟩ hD hS hA (fun H locs hP hD hS => ?_)
        rw [upd_sw (i := 12) (j := 9) (by decide), upd_sw (i := 11) (j := 9) (by decide), upd_ow] at hP hD
        have hto : ∃ j0 : Nat, j0 < nD ∧ (mr_Wa_drawNear x_ (G 0) (G 1) nC wa).1 = nI j0 := dr_lt hC s0 s1 hmp hN hat
        have xt := ix_cl hto (by omega)
        have ht2 := xt.2
        refine lv_istore (lv' := [(9, .int ((mr_Wa_drawNear x_ (G 0) (G 1) nC wa).1)), (8, .int (nI j)), (6, .long lc), (4, .long co), (3, .int wa), (0, .ref (oa 6)), (1, .int (nI d)), (2, .int (nI sp))]) hx hb dWa_go_40 hl (by decide) rfl (fun ls hl => ?_)
        refine lv_aload_n hx hb dWa_go_42 rfl (lv_at hl 5 rfl) ?_
        refine va_get (D := D) (ci := 7) (v := .ref (oa 3)) (C := RWa) (T := TWa) (N := 6) hx hb hts inWa_ hown hK hP 6 rfl hcl.2.2.2.2.2.2.1 1 (by decide) f25 (fun _ h9 => h9) rfl dWa_go_43 ?_
        refine lv_iload hx hb dWa_go_46 (lv_at hl 0 rfl) ?_
        refine wt_i (r := nI (((mr_Wa_drawNear x_ (G 0) (G 1) nC wa).1).toNatClampNeg)) (by exact xt.1) ?_
        refine ro_callV (r := (.long (mr_Bo_costOf (G 10) (((mr_Wa_drawNear x_ (G 0) (G 1) nC wa).1).toNatClampNeg)))) (As := [.int (nI (((mr_Wa_drawNear x_ (G 0) (G 1) nC wa).1).toNatClampNeg))]) (rest := []) Sx (c_Bo_costOf l D cl hcl oa ca ck (upd (upd (upd F 9 ((mr_Wa_drawNear x_ (G 0) (G 1) nC wa).2)) 11 lo) 12 mo) G hP (((mr_Wa_drawNear x_ (G 0) (G 1) nC wa).1).toNatClampNeg) (by omega)) (cwV 1 hts gWa_go_Bo_costOf rfl rfl rfl (by decide +kernel) ⟨Nat.le_of_ble_eq_true rfl, Nat.le_of_ble_eq_true rfl⟩) hK (va_recv hK hP (ci := 4) (q0 := 3) hcl.2.2.2.1 rfl) rfl hl.1 rfl (Nat.le_of_ble_eq_true rfl) dWa_go_48 ⟨Nat.zero_le _, Nat.zero_le _⟩ ?_
        refine lv_lstore (lv' := [(10, .long (mr_Bo_costOf (G 10) (((mr_Wa_drawNear x_ (G 0) (G 1) nC wa).1).toNatClampNeg))), (9, .int ((mr_Wa_drawNear x_ (G 0) (G 1) nC wa).1)), (8, .int (nI j)), (6, .long lc), (4, .long co), (3, .int wa), (0, .ref (oa 6)), (1, .int (nI d)), (2, .int (nI sp))]) hx hb dWa_go_51 hl (by decide) rfl (fun ls hl => ?_)
        refine lv_aload_n hx hb dWa_go_53 rfl (lv_at hl 6 rfl) ?_
        refine va_get (D := D) (ci := 7) (v := .ref (oa 3)) (C := RWa) (T := TWa) (N := 6) hx hb hts inWa_ hown hK hP 6 rfl hcl.2.2.2.2.2.2.1 1 (by decide) f25 (fun _ h9 => h9) rfl dWa_go_54 ?_
        refine lv_iload hx hb dWa_go_57 (lv_at hl 1 rfl) ?_
        refine wt_i (r := nI (((mr_Wa_drawNear x_ (G 0) (G 1) nC wa).1).toNatClampNeg)) (by exact xt.1) ?_
        refine ro_callV (r := (.int (mr_Bo_allows (G 8) (G 9) (G 10) (G 11) (((mr_Wa_drawNear x_ (G 0) (G 1) nC wa).1).toNatClampNeg)))) (As := [.int (nI (((mr_Wa_drawNear x_ (G 0) (G 1) nC wa).1).toNatClampNeg))]) (rest := []) Sx (c_Bo_allows l D cl hcl oa ca ck (upd (upd (upd F 9 ((mr_Wa_drawNear x_ (G 0) (G 1) nC wa).2)) 11 lo) 12 mo) G hP (((mr_Wa_drawNear x_ (G 0) (G 1) nC wa).1).toNatClampNeg) (by omega)) (cwV 1 hts gWa_go_Bo_allows rfl rfl rfl (by decide +kernel) ⟨Nat.le_of_ble_eq_true rfl, Nat.le_of_ble_eq_true rfl⟩) hK (va_recv hK hP (ci := 4) (q0 := 3) hcl.2.2.2.1 rfl) rfl hl.1 rfl (Nat.le_of_ble_eq_true rfl) dWa_go_59 ⟨Nat.zero_le _, Nat.zero_le _⟩ ?_
        refine lv_if_eq (tgt := 113) hx hb dWa_go_62 (by decide) (fun c62 => ?_) (fun c62 => ?_)
        · refine lv_iinc (v := nI (j + 1)) (lv' := [(8, .int (nI (j + 1))), (10, .long (mr_Bo_costOf (G 10) (((mr_Wa_drawNear x_ (G 0) (G 1) nC wa).1).toNatClampNeg))), (9, .int ((mr_Wa_drawNear x_ (G 0) (G 1) nC wa).1)), (6, .long lc), (4, .long co), (3, .int wa), (0, .ref (oa 6)), (1, .int (nI d)), (2, .int (nI sp))]) hx hb dWa_go_113 hl (k := 2) rfl (by exact ii_1 j) (by decide) rfl (fun ls hl => ?_)
          refine lv_goto (tgt := 29) hx hb dWa_go_116 (by decide) ?_
          have er29 : lf_Wa_go_29 (F 10) (G 0) (G 1) (G 8) (G 9) (G 10) (G 11) nC nD d sp (N29 + 1) j wa co lc x_ lo mo = lf_Wa_go_29 (F 10) (G 0) (G 1) (G 8) (G 9) (G 10) (G 11) nC nD d sp N29 (j + 1) wa co lc ((mr_Wa_drawNear x_ (G 0) (G 1) nC wa).2) lo mo := by rw [lf_Wa_go_29, if_neg c32, if_pos c62]
          exact ih29 (j + 1) wa co lc ((mr_Wa_drawNear x_ (G 0) (G 1) nC wa).2) lo mo (by first | exact hto | exact hat) (by omega) (by omega) (hR29.trans er29) H locs hP hD hS ls (lv_sub hl [0, 3, 4, 5, 6, 7, 8] rfl)
        · refine lv_lload hx hb dWa_go_65 (lv_at hl 0 rfl) ?_
          refine lv_lload hx hb dWa_go_67 (lv_at hl 4 rfl) ?_
          refine lv_aload_n hx hb dWa_go_69 rfl (lv_at hl 6 rfl) ?_
          refine va_get (D := D) (ci := 7) (v := .int (F 10)) (C := RWa) (T := TWa) (N := 6) hx hb hts inWa_ hown hK hP 6 rfl hcl.2.2.2.2.2.2.1 3 (by decide) f9 (fun _ h9 => h9) rfl dWa_go_70 ?_
          refine lv_i2l hx hb dWa_go_73 rfl ?_
          refine lv_ladd hx hb dWa_go_74 ?_
          refine W.lcmp hx hb dWa_go_75 ?_
          refine lv_if_gt (tgt := 113) hx hb dWa_go_76 (by decide) (fun c76 => ?_) (fun c76 => ?_)
          · refine lv_iinc (v := nI (j + 1)) (lv' := [(8, .int (nI (j + 1))), (10, .long (mr_Bo_costOf (G 10) (((mr_Wa_drawNear x_ (G 0) (G 1) nC wa).1).toNatClampNeg))), (9, .int ((mr_Wa_drawNear x_ (G 0) (G 1) nC wa).1)), (6, .long lc), (4, .long co), (3, .int wa), (0, .ref (oa 6)), (1, .int (nI d)), (2, .int (nI sp))]) hx hb dWa_go_113 hl (k := 2) rfl (by exact ii_1 j) (by decide) rfl (fun ls hl => ?_)
            refine lv_goto (tgt := 29) hx hb dWa_go_116 (by decide) ?_
            have er29 : lf_Wa_go_29 (F 10) (G 0) (G 1) (G 8) (G 9) (G 10) (G 11) nC nD d sp (N29 + 1) j wa co lc x_ lo mo = lf_Wa_go_29 (F 10) (G 0) (G 1) (G 8) (G 9) (G 10) (G 11) nC nD d sp N29 (j + 1) wa co lc ((mr_Wa_drawNear x_ (G 0) (G 1) nC wa).2) lo mo := by rw [lf_Wa_go_29, if_neg c32, if_neg c62, if_pos c76]
            exact ih29 (j + 1) wa co lc ((mr_Wa_drawNear x_ (G 0) (G 1) nC wa).2) lo mo (by first | exact hto | exact hat) (by omega) (by omega) (hR29.trans er29) H locs hP hD hS ls (lv_sub hl [0, 3, 4, 5, 6, 7, 8] rfl)
          · refine lv_iload hx hb dWa_go_79 (lv_at hl 1 rfl) ?_
            refine lv_istore_n (lv' := [(3, .int ((mr_Wa_drawNear x_ (G 0) (G 1) nC wa).1)), (10, .long (mr_Bo_costOf (G 10) (((mr_Wa_drawNear x_ (G 0) (G 1) nC wa).1).toNatClampNeg))), (9, .int ((mr_Wa_drawNear x_ (G 0) (G 1) nC wa).1)), (8, .int (nI j)), (6, .long lc), (4, .long co), (0, .ref (oa 6)), (1, .int (nI d)), (2, .int (nI sp))]) hx hb dWa_go_81 rfl hl (by decide) rfl (fun ls hl => ?_)
            refine lv_lload hx hb dWa_go_82 (lv_at hl 1 rfl) ?_
            refine lv_lstore (lv' := [(4, .long (mr_Bo_costOf (G 10) (((mr_Wa_drawNear x_ (G 0) (G 1) nC wa).1).toNatClampNeg))), (3, .int ((mr_Wa_drawNear x_ (G 0) (G 1) nC wa).1)), (10, .long (mr_Bo_costOf (G 10) (((mr_Wa_drawNear x_ (G 0) (G 1) nC wa).1).toNatClampNeg))), (9, .int ((mr_Wa_drawNear x_ (G 0) (G 1) nC wa).1)), (8, .int (nI j)), (6, .long lc), (0, .ref (oa 6)), (1, .int (nI d)), (2, .int (nI sp))]) hx hb dWa_go_84 hl (by decide) rfl (fun ls hl => ?_)
            refine lv_aload_n hx hb dWa_go_86 rfl (lv_at hl 6 rfl) ?_
            refine lv_dup hx hb dWa_go_87 rfl ?_
            have ef88 : (upd (upd (upd F 9 ((mr_Wa_drawNear x_ (G 0) (G 1) nC wa).2)) 11 lo) 12 mo) 12 = mo := by rw [pk_us]
            refine va_get (D := D) (ci := 7) (v := .int mo) (C := RWa) (T := TWa) (N := 6) hx hb hts inWa_ hown hK hP 6 rfl hcl.2.2.2.2.2.2.1 5 (by decide) f18 (fun _ h9 => h9) (congrArg (fun z => some (Value.int z)) ef88) dWa_go_88 ?_
            refine lv_iconst (v := 1) hx hb dWa_go_91 (by decide) ?_
            refine lv_iadd hx hb dWa_go_92 ?_
            refine va_put (D := D) (ci := 7) (fs := cWl6 oa ca (upd (upd (upd F 9 ((mr_Wa_drawNear x_ (G 0) (G 1) nC wa).2)) 11 lo) 12 mo)) (v := .int (mo + 1)) (ty := .int) (C := RWa) (T := TWa) (N := 6) hx hb hts inWa_ tyWa tyWa_ok nmWa hown hK hP hD hS 6 rfl hcl.2.2.2.2.2.2.1 5 (by decide) f18 (fun _ h9 => h9) rfl (by decide +kernel) rfl rfl (Nat.le_of_ble_eq_true rfl) dWa_go_93 (fun H locs hP hD hS => ?_)
            rw [cW_f12, upd_ow] at hP hD
            refine lv_lload hx hb dWa_go_96 (lv_at hl 0 rfl) ?_
            refine lv_lload hx hb dWa_go_98 (lv_at hl 5 rfl) ?_
            refine W.lcmp hx hb dWa_go_100 ?_
            refine lv_if_ge (tgt := 113) hx hb dWa_go_101 (by decide) (fun c101 => ?_) (fun c101 => ?_)
            · refine lv_iinc (v := nI (j + 1)) (lv' := [(8, .int (nI (j + 1))), (4, .long (mr_Bo_costOf (G 10) (((mr_Wa_drawNear x_ (G 0) (G 1) nC wa).1).toNatClampNeg))), (3, .int ((mr_Wa_drawNear x_ (G 0) (G 1) nC wa).1)), (10, .long (mr_Bo_costOf (G 10) (((mr_Wa_drawNear x_ (G 0) (G 1) nC wa).1).toNatClampNeg))), (9, .int ((mr_Wa_drawNear x_ (G 0) (G 1) nC wa).1)), (6, .long lc), (0, .ref (oa 6)), (1, .int (nI d)), (2, .int (nI sp))]) hx hb dWa_go_113 hl (k := 4) rfl (by exact ii_1 j) (by decide) rfl (fun ls hl => ?_)
              refine lv_goto (tgt := 29) hx hb dWa_go_116 (by decide) ?_
              have er29 : lf_Wa_go_29 (F 10) (G 0) (G 1) (G 8) (G 9) (G 10) (G 11) nC nD d sp (N29 + 1) j wa co lc x_ lo mo = lf_Wa_go_29 (F 10) (G 0) (G 1) (G 8) (G 9) (G 10) (G 11) nC nD d sp N29 (j + 1) ((mr_Wa_drawNear x_ (G 0) (G 1) nC wa).1) (mr_Bo_costOf (G 10) (((mr_Wa_drawNear x_ (G 0) (G 1) nC wa).1).toNatClampNeg)) lc ((mr_Wa_drawNear x_ (G 0) (G 1) nC wa).2) lo (mo + 1) := by rw [lf_Wa_go_29, if_neg c32, if_neg c62, if_neg c76, if_pos c101]
              exact ih29 (j + 1) ((mr_Wa_drawNear x_ (G 0) (G 1) nC wa).1) (mr_Bo_costOf (G 10) (((mr_Wa_drawNear x_ (G 0) (G 1) nC wa).1).toNatClampNeg)) lc ((mr_Wa_drawNear x_ (G 0) (G 1) nC wa).2) lo (mo + 1) (by first | exact hto | exact hat) (by omega) (by omega) (hR29.trans er29) H locs hP hD hS ls (lv_sub hl [0, 5, 1, 2, 6, 7, 8] rfl)
            · refine lv_lload hx hb dWa_go_104 (lv_at hl 0 rfl) ?_
              refine lv_lstore (lv' := [(6, .long (mr_Bo_costOf (G 10) (((mr_Wa_drawNear x_ (G 0) (G 1) nC wa).1).toNatClampNeg))), (4, .long (mr_Bo_costOf (G 10) (((mr_Wa_drawNear x_ (G 0) (G 1) nC wa).1).toNatClampNeg))), (3, .int ((mr_Wa_drawNear x_ (G 0) (G 1) nC wa).1)), (10, .long (mr_Bo_costOf (G 10) (((mr_Wa_drawNear x_ (G 0) (G 1) nC wa).1).toNatClampNeg))), (9, .int ((mr_Wa_drawNear x_ (G 0) (G 1) nC wa).1)), (8, .int (nI j)), (0, .ref (oa 6)), (1, .int (nI d)), (2, .int (nI sp))]) hx hb dWa_go_106 hl (by decide) rfl (fun ls hl => ?_)
              refine lv_aload_n hx hb dWa_go_108 rfl (lv_at hl 6 rfl) ?_
              refine lv_iload_n hx hb dWa_go_109 rfl (lv_at hl 2 rfl) ?_
              refine va_put (D := D) (ci := 7) (fs := cWl6 oa ca (upd (upd (upd F 9 ((mr_Wa_drawNear x_ (G 0) (G 1) nC wa).2)) 11 lo) 12 (mo + 1))) (v := .int ((mr_Wa_drawNear x_ (G 0) (G 1) nC wa).1)) (ty := .int) (C := RWa) (T := TWa) (N := 6) hx hb hts inWa_ tyWa tyWa_ok nmWa hown hK hP hD hS 6 rfl hcl.2.2.2.2.2.2.1 4 (by decide) f15 (fun _ h9 => h9) rfl (by decide +kernel) rfl rfl (Nat.le_of_ble_eq_true rfl) dWa_go_110 (fun H locs hP hD hS => ?_)
              rw [cW_f11, upd_sw (i := 12) (j := 11) (by decide), upd_ow] at hP hD
              refine lv_iinc (v := nI (j + 1)) (lv' := [(8, .int (nI (j + 1))), (6, .long (mr_Bo_costOf (G 10) (((mr_Wa_drawNear x_ (G 0) (G 1) nC wa).1).toNatClampNeg))), (4, .long (mr_Bo_costOf (G 10) (((mr_Wa_drawNear x_ (G 0) (G 1) nC wa).1).toNatClampNeg))), (3, .int ((mr_Wa_drawNear x_ (G 0) (G 1) nC wa).1)), (10, .long (mr_Bo_costOf (G 10) (((mr_Wa_drawNear x_ (G 0) (G 1) nC wa).1).toNatClampNeg))), (9, .int ((mr_Wa_drawNear x_ (G 0) (G 1) nC wa).1)), (0, .ref (oa 6)), (1, .int (nI d)), (2, .int (nI sp))]) hx hb dWa_go_113 hl (k := 5) rfl (by exact ii_1 j) (by decide) rfl (fun ls hl => ?_)
              refine lv_goto (tgt := 29) hx hb dWa_go_116 (by decide) ?_
              have er29 : lf_Wa_go_29 (F 10) (G 0) (G 1) (G 8) (G 9) (G 10) (G 11) nC nD d sp (N29 + 1) j wa co lc x_ lo mo = lf_Wa_go_29 (F 10) (G 0) (G 1) (G 8) (G 9) (G 10) (G 11) nC nD d sp N29 (j + 1) ((mr_Wa_drawNear x_ (G 0) (G 1) nC wa).1) (mr_Bo_costOf (G 10) (((mr_Wa_drawNear x_ (G 0) (G 1) nC wa).1).toNatClampNeg)) (mr_Bo_costOf (G 10) (((mr_Wa_drawNear x_ (G 0) (G 1) nC wa).1).toNatClampNeg)) ((mr_Wa_drawNear x_ (G 0) (G 1) nC wa).2) ((mr_Wa_drawNear x_ (G 0) (G 1) nC wa).1) (mo + 1) := by rw [lf_Wa_go_29, if_neg c32, if_neg c62, if_neg c76, if_neg c101]
              exact ih29 (j + 1) ((mr_Wa_drawNear x_ (G 0) (G 1) nC wa).1) (mr_Bo_costOf (G 10) (((mr_Wa_drawNear x_ (G 0) (G 1) nC wa).1).toNatClampNeg)) (mr_Bo_costOf (G 10) (((mr_Wa_drawNear x_ (G 0) (G 1) nC wa).1).toNatClampNeg)) ((mr_Wa_drawNear x_ (G 0) (G 1) nC wa).2) ((mr_Wa_drawNear x_ (G 0) (G 1) nC wa).1) (mo + 1) (by first | exact hto | exact hat) (by omega) (by omega) (hR29.trans er29) H locs hP hD hS ls (lv_sub hl [0, 1, 2, 3, 6, 7, 8] rfl)
  exact loop29 (sp + 1) 0 (nI d) (mr_Bo_costOf (G 10) d) (mr_Bo_costOf (G 10) d) (F 9) (nI d) 0 (by exact ⟨d, hd, rfl⟩) (by omega) (by omega) rfl H locs hP hD hS ls (lv_sub hl [0, 1, 2, 3, 4, 5, 6] rfl)
