def lf_M_best_58 (g6 : Nat → Int32) (g7 : Nat → Int32) (g8 : Nat → Int32) (g9 : Nat → Int32) (g10 : Nat → Int32) (g11 : Nat → Int32) (g12 : Nat → Int32) (g13 : Nat → Int32) (g14 : Nat → Int32) (g15 : Nat → Int32) (g16 : Nat → Int32) (g17 : Nat → Int32) (g18 : Nat → Int32) (nC : Nat) (nT : Nat) (nR : Nat) (nD : Nat) (nu : Int32) : Nat → Int32 → Int32 → Int32 → Int32 → (Nat → Int32) → Int32 × Int32 × Int32 × Int32 × (Nat → Int32)
  | 0, lk, be, le, sx, r => (lk, be, le, sx, r)
  | N + 1, lk, be, le, sx, r => (if sx < 0 then (lk, be, le, sx, r) else (if ((if (mr_M_isBarred g13 g14 g15 g16 r nC nR) = 0 then (if (mr_M_passesLimits g7 g8 g9 g10 g11 g12 g17 g18 r nC nT) = 0 then (if be < 0 then 0 else (if (mr_M_boundOf g7 g8 g9 g10 g11 g12 r nC nT nu) < le then 0 else 1)) else 1) else 1) : Int32) = 0 then (if sx = (nI nC) then (if (nI nC) ≤ sx then lf_M_best_58 g6 g7 g8 g9 g10 g11 g12 g13 g14 g15 g16 g17 g18 nC nT nR nD nu N (lk + 1) (mr_M_closed g6 r nC) (mr_M_boundOf g7 g8 g9 g10 g11 g12 r nC nT nu) ((mr_M_nextRow g6 r nC sx.toNatClampNeg).1) ((mr_M_nextRow g6 r nC sx.toNatClampNeg).2) else lf_M_best_58 g6 g7 g8 g9 g10 g11 g12 g13 g14 g15 g16 g17 g18 nC nT nR nD nu N (lk + 1) (mr_M_closed g6 r nC) (mr_M_boundOf g7 g8 g9 g10 g11 g12 r nC nT nu) (sx + 1) (upd r sx.toNatClampNeg 0)) else (if (nI nC) ≤ sx then lf_M_best_58 g6 g7 g8 g9 g10 g11 g12 g13 g14 g15 g16 g17 g18 nC nT nR nD nu N (lk + 1) be le ((mr_M_nextRow g6 r nC sx.toNatClampNeg).1) ((mr_M_nextRow g6 r nC sx.toNatClampNeg).2) else lf_M_best_58 g6 g7 g8 g9 g10 g11 g12 g13 g14 g15 g16 g17 g18 nC nT nR nD nu N (lk + 1) be le (sx + 1) (upd r sx.toNatClampNeg 0))) else lf_M_best_58 g6 g7 g8 g9 g10 g11 g12 g13 g14 g15 g16 g17 g18 nC nT nR nD nu N (lk + 1) be le ((mr_M_nextRow g6 r nC sx.toNatClampNeg).1) ((mr_M_nextRow g6 r nC sx.toNatClampNeg).2)))
def lf_M_best_32 (nC : Nat) (nT : Nat) (nR : Nat) (nD : Nat) (nu : Int32) (i0 : (Nat → Int32)) : Nat → (Nat → Int32)
  | 0 => i0
  | k32 + 1 => (upd (lf_M_best_32 nC nT nR nD nu i0 k32) k32 (-1))
def mr_M_best (f20 : Int32) (g6 : Nat → Int32) (g7 : Nat → Int32) (g8 : Nat → Int32) (g9 : Nat → Int32) (g10 : Nat → Int32) (g11 : Nat → Int32) (g12 : Nat → Int32) (g13 : Nat → Int32) (g14 : Nat → Int32) (g15 : Nat → Int32) (g16 : Nat → Int32) (g17 : Nat → Int32) (g18 : Nat → Int32) (g19 : Nat → Int32) (nC : Nat) (nT : Nat) (nR : Nat) (nD : Nat) (nu : Int32) : Int32 × Int32 × Int32 × (Nat → Int32) := (if (mr_M_within nu 0 3) = 0 then ((mr_M_fail 1).1, (mr_M_fail 1).2, f20, g19) else ((lf_M_best_58 g6 g7 g8 g9 g10 g11 g12 g13 g14 g15 g16 g17 g18 nC nT nR nD nu 8192 0 (-1) 0 0 (lf_M_best_32 nC nT nR nD nu g19 nC)).2.1, 0, (lf_M_best_58 g6 g7 g8 g9 g10 g11 g12 g13 g14 g15 g16 g17 g18 nC nT nR nD nu 8192 0 (-1) 0 0 (lf_M_best_32 nC nT nR nD nu g19 nC)).1, (lf_M_best_58 g6 g7 g8 g9 g10 g11 g12 g13 g14 g15 g16 g17 g18 nC nT nR nD nu 8192 0 (-1) 0 0 (lf_M_best_32 nC nT nR nD nu g19 nC)).2.2.2.2))
set_option maxHeartbeats 4000000 in
set_option maxRecDepth 100000 in
theorem c_M_best (l : Launch) (D : va_G) (cl : List vw_C) (hcl : cl[0]? = some (RM, TM, 29)) (a : Nat) (ba : Nat → Nat) (ka : Nat → ClassId) (F : Nat → Int32) (G : Nat → Nat → Int32) {H0 : Heap} (hP : va_P D cl (mW a ba ka F G) H0) (hD : va_D (fun _ => True) (mW a ba ka F G)) (nC : Nat) (nT : Nat) (nR : Nat) (nD : Nat) (nu : Int32) (h2 : F 2 = nI nC) (hC : nC ≤ 8) (h3 : F 3 = nI nT) (hT : nT ≤ 100) (h4 : F 4 = nI nR) (hR : nR ≤ 40) (h5 : F 5 = nI nD) (hN : nD ≤ 4096) (h6 : ∀ c, c < nC → ∃ z : Nat, G 6 c = nI z ∧ 2 ≤ z ∧ z ≤ 6) (h8 : ∀ t, t < nT → ∃ x : Nat, x < nC ∧ G 8 t = nI x) (h10 : ∀ t, t < nT → G 10 t = -1 ∨ ∃ x : Nat, x < nC ∧ G 10 t = nI x) (h13 : ∀ j, j < nR → ∃ x : Nat, x < nC ∧ G 13 j = nI x) (h15 : ∀ j, j < nR → ∃ x : Nat, x < nC ∧ G 15 j = nI x) (hmp : mp (zg (G 6)) 0 nC = nD) : ww_Met l yM_best wsM_best ({ frames := 3, cells := 0, slots := 0, locals := 70 } : Room) D cl (mT ka) H0 [.ref a, .int nu] (mW a ba ka F G) (some (.int ((mr_M_best (F 20) (G 6) (G 7) (G 8) (G 9) (G 10) (G 11) (G 12) (G 13) (G 14) (G 15) (G 16) (G 17) (G 18) (G 19) nC nT nR nD nu).1))) (mW a ba ka (upd (upd F 0 ((mr_M_best (F 20) (G 6) (G 7) (G 8) (G 9) (G 10) (G 11) (G 12) (G 13) (G 14) (G 15) (G 16) (G 17) (G 18) (G 19) nC nT nR nD nu).2.1)) 20 ((mr_M_best (F 20) (G 6) (G 7) (G 8) (G 9) (G 10) (G 11) (G 12) (G 13) (G 14) (G 15) (G 16) (G 17) (G 18) (G 19) nC nT nR nD nu).2.2.1)) (va_up G 19 ((mr_M_best (F 20) (G 6) (G 7) (G 8) (G 9) (G 10) (G 11) (G 12) (G 13) (G 14) (G 15) (G 16) (G 17) (G 18) (G 19) nC nT nR nD nu).2.2.2))) := by
  refine ww_metI (by decide) rfl (Nat.le_of_ble_eq_true rfl) hP hD ?_
  intro p e s m args below meth c Q A Sx hK hP hD hS hA ls hl hret
  obtain ⟨hx, hb, hml, hown, hts⟩ := id Sx
  have hl : lv_has ls 6 [(0, .ref a), (1, .int nu)] := hl
  obtain ⟨H, eH⟩ : ∃ H : Heap, H = H0 := ⟨_, rfl⟩
  obtain ⟨locs, eL⟩ : ∃ L : List Loc, L = [] := ⟨_, rfl⟩
  have hP : va_P D cl (mW a ba ka F G) H := by rw [eH]; exact hP
  have hS : va_S A H0 H locs := by rw [eH, eL]; exact hS
  rw [show W p l e ({ frames := 3, cells := 0, slots := 0, locals := 70 } : Room) s m args below meth c H0 [] 0 0 Q (F0 m 0 ls []) = W p l e ({ frames := 3, cells := 0, slots := 0, locals := 70 } : Room) s m args below meth c H locs 0 0 Q (F0 m 0 ls []) by rw [eH, eL]]
  clear eH eL
  have f70 := hts _ (List.mem_cons_of_mem _ mfM_70)
  have inM_ : ∀ w ∈ wsM0, w ∈ wsM_best := fun w h => List.mem_cons_of_mem _ (inM_all w h)
  have f136 := hts _ (List.mem_cons_of_mem _ mfM_136)
  have f81 := hts _ (List.mem_cons_of_mem _ mfM_81)
  have f54 := hts _ (List.mem_cons_of_mem _ mfM_54)
  refine lv_aload_n hx hb dM_best_0 rfl (lv_at hl 0 rfl) ?_
  refine lv_iconst (v := 0) hx hb dM_best_1 (by decide) ?_
  refine va_put (D := D) (ci := 0) (fs := mWl0 ba F) (v := .int 0) (ty := .int) (C := RM) (T := TM) (N := 29) hx hb hts inM_ tyM tyM_ok nmM hown hK hP hD hS 0 rfl hcl 0 (by decide) f70 (fun _ h9 => h9) rfl (by decide +kernel) rfl rfl (Nat.le_of_ble_eq_true rfl) dM_best_2 (fun H locs hP hD hS => ?_)
  rw [mW_f0] at hP hD
  refine lv_iload_n hx hb dM_best_5 rfl (lv_at hl 1 rfl) ?_
  refine lv_iconst (v := 0) hx hb dM_best_6 (by decide) ?_
  refine lv_iconst (v := 3) hx hb dM_best_7 (by decide) ?_
  refine ro_callS (r := (.int (mr_M_within nu 0 3))) (As := [.int nu, .int 0, .int 3]) (rest := []) Sx (c_M_within l D cl hcl a ba ka (upd F 0 0) G hP nu 0 3) (va_cwS 3 hts gM_best_M_within rfl rfl rfl (by decide +kernel) ⟨Nat.le_of_ble_eq_true rfl, Nat.le_of_ble_eq_true rfl⟩) hK rfl hl.1 rfl (Nat.le_of_ble_eq_true rfl) dM_best_8 ⟨Nat.zero_le _, Nat.zero_le _⟩ ?_
  refine lv_if_ne (tgt := 20) hx hb dM_best_11 (by decide) (fun c11 => ?_) (fun c11 => ?_)
  · refine lv_aload_n hx hb dM_best_20 rfl (lv_at hl 0 rfl) ?_
    refine lv_iconst (v := 0) hx hb dM_best_21 (by decide) ?_
    refine va_put (D := D) (ci := 0) (fs := mWl0 ba (upd F 0 0)) (v := .int 0) (ty := .int) (C := RM) (T := TM) (N := 29) hx hb hts inM_ tyM tyM_ok nmM hown hK hP hD hS 0 rfl hcl 20 (by decide) f136 (fun _ h9 => h9) rfl (by decide +kernel) rfl rfl (Nat.le_of_ble_eq_true rfl) dM_best_22 (fun H locs hP hD hS => ?_)
    rw [mW_f20] at hP hD
    refine lv_iconst (v := (-1)) hx hb dM_best_25 (by decide) ?_
    refine lv_istore_n (lv' := [(2, .int (-1)), (0, .ref a), (1, .int nu)]) hx hb dM_best_26 rfl hl (by decide) rfl (fun ls hl => ?_)
    refine lv_iconst (v := 0) hx hb dM_best_27 (by decide) ?_
    refine lv_istore_n (lv' := [(3, .int 0), (2, .int (-1)), (0, .ref a), (1, .int nu)]) hx hb dM_best_28 rfl hl (by decide) rfl (fun ls hl => ?_)
    refine lv_iconst (v := 0) hx hb dM_best_29 (by decide) ?_
    refine lv_istore (lv' := [(4, .int 0), (3, .int 0), (2, .int (-1)), (0, .ref a), (1, .int nu)]) hx hb dM_best_30 hl (by decide) rfl (fun ls hl => ?_)
    have loop32 : ∀ (N32 k32 : Nat), k32 ≤ nC → nC - k32 < N32 → ∀ (H : Heap) (locs : List Loc), va_P D cl (mW a ba ka (upd (upd F 0 0) 20 0) (va_up G 19 (lf_M_best_32 nC nT nR nD nu (G 19) k32))) H → va_D A (mW a ba ka (upd (upd F 0 0) 20 0) (va_up G 19 (lf_M_best_32 nC nT nR nD nu (G 19) k32))) → va_S A H0 H locs → ∀ (ls : Array Slot), lv_has ls 6 [(4, .int (nI k32)), (3, .int 0), (2, .int (-1)), (0, .ref a), (1, .int nu)] → W p l e ({ frames := 3, cells := 0, slots := 0, locals := 70 } : Room) s m args below meth c H locs 0 0 Q (F0 m 32 ls []) := by
      intro N32
      induction N32 with
      | zero => intro k32 hk32 hm32; exact absurd hm32 (Nat.not_lt_zero _)
      | succ N32 ih32 =>
        intro k32 hk32 hm32  H locs hP hD hS ls hl
        refine lv_iload hx hb dM_best_32 (lv_at hl 0 rfl) ?_
        refine lv_aload_n hx hb dM_best_34 rfl (lv_at hl 3 rfl) ?_
        refine va_get (D := D) (ci := 0) (v := .int (F 2)) (C := RM) (T := TM) (N := 29) hx hb hts inM_ hown hK hP 0 rfl hcl 2 (by decide) f81 (fun _ h9 => h9) rfl dM_best_35 ?_
        refine wt_i h2 ?_
        refine lv_icmp_ge (tgt := 55) hx hb dM_best_38 (by decide) (fun c38 => ?_) (fun c38 => ?_)
        · have n38 : nC ≤ k32 := (nI_leI (a := nC) (b := k32) (by omega) (by omega)).mp c38
          have hx32 : nC = k32 := by omega
          subst hx32
          refine lv_iconst (v := 0) hx hb dM_best_55 (by decide) ?_
          refine lv_istore (lv' := [(4, .int 0), (3, .int 0), (2, .int (-1)), (0, .ref a), (1, .int nu)]) hx hb dM_best_56 hl (by decide) rfl (fun ls hl => ?_)
          have ex58 : ∀ (H : Heap) (locs : List Loc), va_P D cl (mW a ba ka (upd (upd F 0 0) 20 ((lf_M_best_58 (G 6) (G 7) (G 8) (G 9) (G 10) (G 11) (G 12) (G 13) (G 14) (G 15) (G 16) (G 17) (G 18) nC nT nR nD nu 8192 0 (-1) 0 0 (lf_M_best_32 nC nT nR nD nu (G 19) nC)).1)) (va_up G 19 ((lf_M_best_58 (G 6) (G 7) (G 8) (G 9) (G 10) (G 11) (G 12) (G 13) (G 14) (G 15) (G 16) (G 17) (G 18) nC nT nR nD nu 8192 0 (-1) 0 0 (lf_M_best_32 nC nT nR nD nu (G 19) nC)).2.2.2.2))) H → va_D A (mW a ba ka (upd (upd F 0 0) 20 ((lf_M_best_58 (G 6) (G 7) (G 8) (G 9) (G 10) (G 11) (G 12) (G 13) (G 14) (G 15) (G 16) (G 17) (G 18) nC nT nR nD nu 8192 0 (-1) 0 0 (lf_M_best_32 nC nT nR nD nu (G 19) nC)).1)) (va_up G 19 ((lf_M_best_58 (G 6) (G 7) (G 8) (G 9) (G 10) (G 11) (G 12) (G 13) (G 14) (G 15) (G 16) (G 17) (G 18) nC nT nR nD nu 8192 0 (-1) 0 0 (lf_M_best_32 nC nT nR nD nu (G 19) nC)).2.2.2.2))) → va_S A H0 H locs → ∀ (ls : Array Slot), lv_has ls 6 [(4, .int ((lf_M_best_58 (G 6) (G 7) (G 8) (G 9) (G 10) (G 11) (G 12) (G 13) (G 14) (G 15) (G 16) (G 17) (G 18) nC nT nR nD nu 8192 0 (-1) 0 0 (lf_M_best_32 nC nT nR nD nu (G 19) nC)).2.2.2.1)), (3, .int ((lf_M_best_58 (G 6) (G 7) (G 8) (G 9) (G 10) (G 11) (G 12) (G 13) (G 14) (G 15) (G 16) (G 17) (G 18) nC nT nR nD nu 8192 0 (-1) 0 0 (lf_M_best_32 nC nT nR nD nu (G 19) nC)).2.2.1)), (2, .int ((lf_M_best_58 (G 6) (G 7) (G 8) (G 9) (G 10) (G 11) (G 12) (G 13) (G 14) (G 15) (G 16) (G 17) (G 18) nC nT nR nD nu 8192 0 (-1) 0 0 (lf_M_best_32 nC nT nR nD nu (G 19) nC)).2.1)), (0, .ref a), (1, .int nu)] → W p l e ({ frames := 3, cells := 0, slots := 0, locals := 70 } : Room) s m args below meth c H locs 0 0 Q (F0 m 171 ls []) := by
            intro H locs hP hD hS ls hl
            refine lv_iload_n hx hb dM_best_171 rfl (lv_at hl 2 rfl) ?_
            have em : mr_M_best (F 20) (G 6) (G 7) (G 8) (G 9) (G 10) (G 11) (G 12) (G 13) (G 14) (G 15) (G 16) (G 17) (G 18) (G 19) nC nT nR nD nu = ((lf_M_best_58 (G 6) (G 7) (G 8) (G 9) (G 10) (G 11) (G 12) (G 13) (G 14) (G 15) (G 16) (G 17) (G 18) nC nT nR nD nu 8192 0 (-1) 0 0 (lf_M_best_32 nC nT nR nD nu (G 19) nC)).2.1, 0, (lf_M_best_58 (G 6) (G 7) (G 8) (G 9) (G 10) (G 11) (G 12) (G 13) (G 14) (G 15) (G 16) (G 17) (G 18) nC nT nR nD nu 8192 0 (-1) 0 0 (lf_M_best_32 nC nT nR nD nu (G 19) nC)).1, (lf_M_best_58 (G 6) (G 7) (G 8) (G 9) (G 10) (G 11) (G 12) (G 13) (G 14) (G 15) (G 16) (G 17) (G 18) nC nT nR nD nu 8192 0 (-1) 0 0 (lf_M_best_32 nC nT nR nD nu (G 19) nC)).2.2.2.2) := by rw [mr_M_best, if_neg c11]
            exact hret _ _ _ _ _ _ (by simp only [em]) (by simp only [em]) hP hD hS dM_best_172
          have loop58 : ∀ (N58 : Nat) (lk : Int32) (be : Int32) (le : Int32) (sx : Int32) (r : Nat → Int32), bI (G 6) nC r sx → bm (G 6) nC r sx < N58 → lf_M_best_58 (G 6) (G 7) (G 8) (G 9) (G 10) (G 11) (G 12) (G 13) (G 14) (G 15) (G 16) (G 17) (G 18) nC nT nR nD nu 8192 0 (-1) 0 0 (lf_M_best_32 nC nT nR nD nu (G 19) nC) = lf_M_best_58 (G 6) (G 7) (G 8) (G 9) (G 10) (G 11) (G 12) (G 13) (G 14) (G 15) (G 16) (G 17) (G 18) nC nT nR nD nu N58 lk be le sx r → ∀ (H : Heap) (locs : List Loc), va_P D cl (mW a ba ka (upd (upd F 0 0) 20 lk) (va_up G 19 r)) H → va_D A (mW a ba ka (upd (upd F 0 0) 20 lk) (va_up G 19 r)) → va_S A H0 H locs → ∀ (ls : Array Slot), lv_has ls 6 [(4, .int sx), (3, .int le), (2, .int be), (0, .ref a), (1, .int nu)] → W p l e ({ frames := 3, cells := 0, slots := 0, locals := 70 } : Room) s m args below meth c H locs 0 0 Q (F0 m 58 ls []) := by
            intro N58
            induction N58 with
            | zero => intro lk be le sx r hI hm58; exact absurd hm58 (Nat.not_lt_zero _)
            | succ N58 ih58 =>
              intro lk be le sx r hI hm58 hR58 H locs hP hD hS ls hl
              refine lv_iload hx hb dM_best_58 (lv_at hl 0 rfl) ?_
              refine lv_if_lt (tgt := 171) hx hb dM_best_60 (by decide) (fun c60 => ?_) (fun c60 => ?_)
              · have er58 : lf_M_best_58 (G 6) (G 7) (G 8) (G 9) (G 10) (G 11) (G 12) (G 13) (G 14) (G 15) (G 16) (G 17) (G 18) nC nT nR nD nu (N58 + 1) lk be le sx r = (lk, be, le, sx, r) := by rw [lf_M_best_58, if_pos c60]
                rw [er58] at hR58
                exact ex58 H locs (by rw [hR58]; exact hP) (by rw [hR58]; exact hD) hS ls (by rw [hR58]; exact lv_sub hl [0, 1, 2, 3, 4] rfl)
              · obtain ⟨s0, hs0, es0, hr0⟩ := bI_nn hI c60
                have xs : sx = nI sx.toNatClampNeg ∧ sx.toNatClampNeg < nC + 1 := ix_cl ⟨s0, by omega, es0⟩ (by omega)
                have xt : s0 = sx.toNatClampNeg := by rw [es0]; exact (nI_clamp (by omega)).symm
                refine lv_aload_n hx hb dM_best_63 rfl (lv_at hl 3 rfl) ?_
                refine lv_dup hx hb dM_best_64 rfl ?_
                have ef65 : (upd (upd F 0 0) 20 lk) 20 = lk := by rw [pk_us]
                refine va_get (D := D) (ci := 0) (v := .int lk) (C := RM) (T := TM) (N := 29) hx hb hts inM_ hown hK hP 0 rfl hcl 20 (by decide) f136 (fun _ h9 => h9) (congrArg (fun z => some (Value.int z)) ef65) dM_best_65 ?_
                refine lv_iconst (v := 1) hx hb dM_best_68 (by decide) ?_
                refine lv_iadd hx hb dM_best_69 ?_
                refine va_put (D := D) (ci := 0) (fs := mWl0 ba (upd (upd F 0 0) 20 lk)) (v := .int (lk + 1)) (ty := .int) (C := RM) (T := TM) (N := 29) hx hb hts inM_ tyM tyM_ok nmM hown hK hP hD hS 0 rfl hcl 20 (by decide) f136 (fun _ h9 => h9) rfl (by decide +kernel) rfl rfl (Nat.le_of_ble_eq_true rfl) dM_best_70 (fun H locs hP hD hS => ?_)
                rw [mW_f20, upd_ow] at hP hD
                refine lv_aload_n hx hb dM_best_73 rfl (lv_at hl 3 rfl) ?_
                refine ro_callV (r := (.int (mr_M_isBarred (G 13) (G 14) (G 15) (G 16) r nC nR))) (As := []) (rest := []) Sx (c_M_isBarred l D cl hcl a ba ka (upd (upd F 0 0) 20 (lk + 1)) (va_up G 19 r) hP nC nR hC h4 hR h13 h15) (cwV 0 hts gM_best_M_isBarred rfl rfl rfl (by decide +kernel) ⟨Nat.le_of_ble_eq_true rfl, Nat.le_of_ble_eq_true rfl⟩) hK (va_recv hK hP (ci := 0) (q0 := 0) hcl rfl) rfl hl.1 rfl (Nat.le_of_ble_eq_true rfl) dM_best_74 ⟨Nat.zero_le _, Nat.zero_le _⟩ ?_
                have j105 : ∀ (ls : Array Slot), lv_has ls 6 [(4, .int sx), (3, .int le), (2, .int be), (0, .ref a), (1, .int nu)] → W p l e ({ frames := 3, cells := 0, slots := 0, locals := 70 } : Room) s m args below meth c H locs 0 0 Q (F0 m 105 ls [.int ((if (mr_M_isBarred (G 13) (G 14) (G 15) (G 16) r nC nR) = 0 then (if (mr_M_passesLimits (G 7) (G 8) (G 9) (G 10) (G 11) (G 12) (G 17) (G 18) r nC nT) = 0 then (if be < 0 then 0 else (if (mr_M_boundOf (G 7) (G 8) (G 9) (G 10) (G 11) (G 12) r nC nT nu) < le then 0 else 1)) else 1) else 1) : Int32)]) := by
                  intro ls hl
                  refine lv_istore (lv' := [(5, .int ((if (mr_M_isBarred (G 13) (G 14) (G 15) (G 16) r nC nR) = 0 then (if (mr_M_passesLimits (G 7) (G 8) (G 9) (G 10) (G 11) (G 12) (G 17) (G 18) r nC nT) = 0 then (if be < 0 then 0 else (if (mr_M_boundOf (G 7) (G 8) (G 9) (G 10) (G 11) (G 12) r nC nT nu) < le then 0 else 1)) else 1) else 1) : Int32)), (4, .int sx), (3, .int le), (2, .int be), (0, .ref a), (1, .int nu)]) hx hb dM_best_105 hl (by decide) rfl (fun ls hl => ?_)
                  refine lv_iload hx hb dM_best_107 (lv_at hl 0 rfl) ?_
                  refine lv_if_ne (tgt := 132) hx hb dM_best_109 (by decide) (fun c109 => ?_) (fun c109 => ?_)
                  · refine lv_iload hx hb dM_best_132 (lv_at hl 0 rfl) ?_
                    refine lv_if_ne (tgt := 160) hx hb dM_best_134 (by decide) (fun _ => ?_) (fun h9 => absurd h9 c109)
                    refine lv_aload_n hx hb dM_best_160 rfl (lv_at hl 4 rfl) ?_
                    refine lv_iload hx hb dM_best_161 (lv_at hl 1 rfl) ?_
                    refine wt_i (r := nI sx.toNatClampNeg) (by exact xs.1) ?_
                    refine ww_callV (r := (some (.int ((mr_M_nextRow (G 6) r nC sx.toNatClampNeg).1)))) (w' := mW a ba ka (upd (upd F 0 0) 20 (lk + 1)) (va_up (va_up G 19 r) 19 ((mr_M_nextRow (G 6) r nC sx.toNatClampNeg).2))) (As := [.int (nI sx.toNatClampNeg)]) (rest := []) Sx (c_M_nextRow l D cl hcl a ba ka (upd (upd F 0 0) 20 (lk + 1)) (va_up G 19 r) hP (hD.weaken (fun _ _ _ _ => trivial)) nC sx.toNatClampNeg hC (by have := xs.2; omega)) (cwV 1 hts gM_best_M_nextRow rfl rfl rfl (by decide +kernel) ⟨Nat.le_of_ble_eq_true rfl, Nat.le_of_ble_eq_true rfl⟩) hK (va_recv hK hP (ci := 0) (q0 := 0) hcl rfl) rfl hl.1 rfl (Nat.le_of_ble_eq_true rfl) dM_best_163 ⟨Nat.zero_le _, Nat.zero_le _⟩ hD hS hA (fun H locs hP hD hS => ?_)
                    rw [vup_ow] at hP hD
                    have xn : bI (G 6) nC (mr_M_nextRow (G 6) r nC sx.toNatClampNeg).2 (mr_M_nextRow (G 6) r nC sx.toNatClampNeg).1 ∧ bm (G 6) nC (mr_M_nextRow (G 6) r nC sx.toNatClampNeg).2 (mr_M_nextRow (G 6) r nC sx.toNatClampNeg).1 < bm (G 6) nC r sx := by have q := b_next hC h6 (s := s0) hs0 hr0; rw [← es0, xt] at q; exact q
                    refine lv_istore (lv' := [(4, .int ((mr_M_nextRow (G 6) r nC sx.toNatClampNeg).1)), (5, .int ((if (mr_M_isBarred (G 13) (G 14) (G 15) (G 16) r nC nR) = 0 then (if (mr_M_passesLimits (G 7) (G 8) (G 9) (G 10) (G 11) (G 12) (G 17) (G 18) r nC nT) = 0 then (if be < 0 then 0 else (if (mr_M_boundOf (G 7) (G 8) (G 9) (G 10) (G 11) (G 12) r nC nT nu) < le then 0 else 1)) else 1) else 1) : Int32)), (3, .int le), (2, .int be), (0, .ref a), (1, .int nu)]) hx hb dM_best_166 hl (by decide) rfl (fun ls hl => ?_)
                    refine lv_goto (tgt := 58) hx hb dM_best_168 (by decide) ?_
                    have er58 : lf_M_best_58 (G 6) (G 7) (G 8) (G 9) (G 10) (G 11) (G 12) (G 13) (G 14) (G 15) (G 16) (G 17) (G 18) nC nT nR nD nu (N58 + 1) lk be le sx r = lf_M_best_58 (G 6) (G 7) (G 8) (G 9) (G 10) (G 11) (G 12) (G 13) (G 14) (G 15) (G 16) (G 17) (G 18) nC nT nR nD nu N58 (lk + 1) be le ((mr_M_nextRow (G 6) r nC sx.toNatClampNeg).1) ((mr_M_nextRow (G 6) r nC sx.toNatClampNeg).2) := by rw [lf_M_best_58, if_neg c60, if_neg c109]
                    exact ih58 (lk + 1) be le ((mr_M_nextRow (G 6) r nC sx.toNatClampNeg).1) ((mr_M_nextRow (G 6) r nC sx.toNatClampNeg).2) (by first | exact xn.1 | exact xd.1) (by first | (have := xn.2; omega) | (have := xd.2; omega)) (hR58.trans er58) H locs hP hD hS ls (lv_sub hl [0, 2, 3, 4, 5] rfl)
                  · refine lv_iload hx hb dM_best_112 (lv_at hl 1 rfl) ?_
                    refine lv_aload_n hx hb dM_best_114 rfl (lv_at hl 4 rfl) ?_
                    refine va_get (D := D) (ci := 0) (v := .int (F 2)) (C := RM) (T := TM) (N := 29) hx hb hts inM_ hown hK hP 0 rfl hcl 2 (by decide) f81 (fun _ h9 => h9) rfl dM_best_115 ?_
                    refine wt_i h2 ?_
                    refine lv_icmp_ne (tgt := 132) hx hb dM_best_118 (by decide) (fun c118 => ?_) (fun c118 => ?_)
                    · refine lv_iload hx hb dM_best_132 (lv_at hl 0 rfl) ?_
                      refine lv_if_ne (tgt := 160) hx hb dM_best_134 (by decide) (fun h9 => absurd c109 h9) (fun _ => ?_)
                      refine lv_iload hx hb dM_best_137 (lv_at hl 1 rfl) ?_
                      refine lv_aload_n hx hb dM_best_139 rfl (lv_at hl 4 rfl) ?_
                      refine va_get (D := D) (ci := 0) (v := .int (F 2)) (C := RM) (T := TM) (N := 29) hx hb hts inM_ hown hK hP 0 rfl hcl 2 (by decide) f81 (fun _ h9 => h9) rfl dM_best_140 ?_
                      refine wt_i h2 ?_
                      refine lv_icmp_ge (tgt := 160) hx hb dM_best_143 (by decide) (fun c143 => ?_) (fun c143 => ?_)
                      · refine lv_aload_n hx hb dM_best_160 rfl (lv_at hl 4 rfl) ?_
                        refine lv_iload hx hb dM_best_161 (lv_at hl 1 rfl) ?_
                        refine wt_i (r := nI sx.toNatClampNeg) (by exact xs.1) ?_
                        refine ww_callV (r := (some (.int ((mr_M_nextRow (G 6) r nC sx.toNatClampNeg).1)))) (w' := mW a ba ka (upd (upd F 0 0) 20 (lk + 1)) (va_up (va_up G 19 r) 19 ((mr_M_nextRow (G 6) r nC sx.toNatClampNeg).2))) (As := [.int (nI sx.toNatClampNeg)]) (rest := []) Sx (c_M_nextRow l D cl hcl a ba ka (upd (upd F 0 0) 20 (lk + 1)) (va_up G 19 r) hP (hD.weaken (fun _ _ _ _ => trivial)) nC sx.toNatClampNeg hC (by have := xs.2; omega)) (cwV 1 hts gM_best_M_nextRow rfl rfl rfl (by decide +kernel) ⟨Nat.le_of_ble_eq_true rfl, Nat.le_of_ble_eq_true rfl⟩) hK (va_recv hK hP (ci := 0) (q0 := 0) hcl rfl) rfl hl.1 rfl (Nat.le_of_ble_eq_true rfl) dM_best_163 ⟨Nat.zero_le _, Nat.zero_le _⟩ hD hS hA (fun H locs hP hD hS => ?_)
                        rw [vup_ow] at hP hD
                        have xn : bI (G 6) nC (mr_M_nextRow (G 6) r nC sx.toNatClampNeg).2 (mr_M_nextRow (G 6) r nC sx.toNatClampNeg).1 ∧ bm (G 6) nC (mr_M_nextRow (G 6) r nC sx.toNatClampNeg).2 (mr_M_nextRow (G 6) r nC sx.toNatClampNeg).1 < bm (G 6) nC r sx := by have q := b_next hC h6 (s := s0) hs0 hr0; rw [← es0, xt] at q; exact q
                        refine lv_istore (lv' := [(4, .int ((mr_M_nextRow (G 6) r nC sx.toNatClampNeg).1)), (5, .int ((if (mr_M_isBarred (G 13) (G 14) (G 15) (G 16) r nC nR) = 0 then (if (mr_M_passesLimits (G 7) (G 8) (G 9) (G 10) (G 11) (G 12) (G 17) (G 18) r nC nT) = 0 then (if be < 0 then 0 else (if (mr_M_boundOf (G 7) (G 8) (G 9) (G 10) (G 11) (G 12) r nC nT nu) < le then 0 else 1)) else 1) else 1) : Int32)), (3, .int le), (2, .int be), (0, .ref a), (1, .int nu)]) hx hb dM_best_166 hl (by decide) rfl (fun ls hl => ?_)
                        refine lv_goto (tgt := 58) hx hb dM_best_168 (by decide) ?_
                        have er58 : lf_M_best_58 (G 6) (G 7) (G 8) (G 9) (G 10) (G 11) (G 12) (G 13) (G 14) (G 15) (G 16) (G 17) (G 18) nC nT nR nD nu (N58 + 1) lk be le sx r = lf_M_best_58 (G 6) (G 7) (G 8) (G 9) (G 10) (G 11) (G 12) (G 13) (G 14) (G 15) (G 16) (G 17) (G 18) nC nT nR nD nu N58 (lk + 1) be le ((mr_M_nextRow (G 6) r nC sx.toNatClampNeg).1) ((mr_M_nextRow (G 6) r nC sx.toNatClampNeg).2) := by rw [lf_M_best_58, if_neg c60, if_pos c109, if_neg c118, if_pos c143]
                        exact ih58 (lk + 1) be le ((mr_M_nextRow (G 6) r nC sx.toNatClampNeg).1) ((mr_M_nextRow (G 6) r nC sx.toNatClampNeg).2) (by first | exact xn.1 | exact xd.1) (by first | (have := xn.2; omega) | (have := xd.2; omega)) (hR58.trans er58) H locs hP hD hS ls (lv_sub hl [0, 2, 3, 4, 5] rfl)
                      · have n143 : sx.toNatClampNeg < nC := by rw [← xt]; rcases Nat.lt_or_ge s0 nC with h | h; exact h; exact absurd (by rw [es0]; exact nI_le h (by omega)) c143
                        have xd : bI (G 6) nC (upd r sx.toNatClampNeg 0) (sx + 1) ∧ bm (G 6) nC (upd r sx.toNatClampNeg 0) (sx + 1) < bm (G 6) nC r sx := by have q := b_down hC h6 (s := s0) (by omega) hr0; rw [← es0, xt] at q; exact q
                        refine lv_aload_n hx hb dM_best_146 rfl (lv_at hl 4 rfl) ?_
                        refine va_get (D := D) (ci := 0) (v := .ref (ba 19)) (C := RM) (T := TM) (N := 29) hx hb hts inM_ hown hK hP 0 rfl hcl 19 (by decide) f54 (fun _ h9 => h9) rfl dM_best_147 ?_
                        refine lv_iload hx hb dM_best_150 (lv_at hl 1 rfl) ?_
                        refine lv_iconst (v := 0) hx hb dM_best_152 (by decide) ?_
                        have sd153 : sx.toNatClampNeg < 8 := by omega
                        have eg153 : (va_up G 19 r) 19 = r := by rw [vup_us]
                        refine wn_iast (f := r) hx hb hK hP hD hS 14 13 (congrArg (fun z : Nat → Int32 => (some ((ba 19), (.inl ((ka 19), 8, .inl z) : va_E)) : Option (Nat × va_E))) eg153) rfl sx.toNatClampNeg xs.1 sd153 (by decide) dM_best_153 (fun H locs hP hD hS => ?_)
                        rw [mW_g19, vup_ow] at hP hD
                        refine lv_iinc (v := sx + 1) (lv' := [(4, .int (sx + 1)), (5, .int ((if (mr_M_isBarred (G 13) (G 14) (G 15) (G 16) r nC nR) = 0 then (if (mr_M_passesLimits (G 7) (G 8) (G 9) (G 10) (G 11) (G 12) (G 17) (G 18) r nC nT) = 0 then (if be < 0 then 0 else (if (mr_M_boundOf (G 7) (G 8) (G 9) (G 10) (G 11) (G 12) r nC nT nu) < le then 0 else 1)) else 1) else 1) : Int32)), (3, .int le), (2, .int be), (0, .ref a), (1, .int nu)]) hx hb dM_best_154 hl (k := 1) rfl (by exact ii_x _) (by decide) rfl (fun ls hl => ?_)
                        refine lv_goto (tgt := 168) hx hb dM_best_157 (by decide) ?_
                        refine lv_goto (tgt := 58) hx hb dM_best_168 (by decide) ?_
                        have er58 : lf_M_best_58 (G 6) (G 7) (G 8) (G 9) (G 10) (G 11) (G 12) (G 13) (G 14) (G 15) (G 16) (G 17) (G 18) nC nT nR nD nu (N58 + 1) lk be le sx r = lf_M_best_58 (G 6) (G 7) (G 8) (G 9) (G 10) (G 11) (G 12) (G 13) (G 14) (G 15) (G 16) (G 17) (G 18) nC nT nR nD nu N58 (lk + 1) be le (sx + 1) (upd r sx.toNatClampNeg 0) := by rw [lf_M_best_58, if_neg c60, if_pos c109, if_neg c118, if_neg c143]
                        exact ih58 (lk + 1) be le (sx + 1) (upd r sx.toNatClampNeg 0) (by first | exact xn.1 | exact xd.1) (by first | (have := xn.2; omega) | (have := xd.2; omega)) (hR58.trans er58) H locs hP hD hS ls (lv_sub hl [0, 2, 3, 4, 5] rfl)
                    · refine lv_aload_n hx hb dM_best_121 rfl (lv_at hl 4 rfl) ?_
                      refine ro_callV (r := (.int (mr_M_closed (G 6) r nC))) (As := []) (rest := []) Sx (c_M_closed l D cl hcl a ba ka (upd (upd F 0 0) 20 (lk + 1)) (va_up G 19 r) hP nC h2 hC) (cwV 0 hts gM_best_M_closed rfl rfl rfl (by decide +kernel) ⟨Nat.le_of_ble_eq_true rfl, Nat.le_of_ble_eq_true rfl⟩) hK (va_recv hK hP (ci := 0) (q0 := 0) hcl rfl) rfl hl.1 rfl (Nat.le_of_ble_eq_true rfl) dM_best_122 ⟨Nat.zero_le _, Nat.zero_le _⟩ ?_
                      refine lv_istore_n (lv' := [(2, .int (mr_M_closed (G 6) r nC)), (5, .int ((if (mr_M_isBarred (G 13) (G 14) (G 15) (G 16) r nC nR) = 0 then (if (mr_M_passesLimits (G 7) (G 8) (G 9) (G 10) (G 11) (G 12) (G 17) (G 18) r nC nT) = 0 then (if be < 0 then 0 else (if (mr_M_boundOf (G 7) (G 8) (G 9) (G 10) (G 11) (G 12) r nC nT nu) < le then 0 else 1)) else 1) else 1) : Int32)), (4, .int sx), (3, .int le), (0, .ref a), (1, .int nu)]) hx hb dM_best_125 rfl hl (by decide) rfl (fun ls hl => ?_)
                      refine lv_aload_n hx hb dM_best_126 rfl (lv_at hl 4 rfl) ?_
                      refine lv_iload_n hx hb dM_best_127 rfl (lv_at hl 5 rfl) ?_
                      refine ro_callV (r := (.int (mr_M_boundOf (G 7) (G 8) (G 9) (G 10) (G 11) (G 12) r nC nT nu))) (As := [.int nu]) (rest := []) Sx (c_M_boundOf l D cl hcl a ba ka (upd (upd F 0 0) 20 (lk + 1)) (va_up G 19 r) hP nC nT nu hC h3 hT h8 h10) (cwV 1 hts gM_best_M_boundOf rfl rfl rfl (by decide +kernel) ⟨Nat.le_of_ble_eq_true rfl, Nat.le_of_ble_eq_true rfl⟩) hK (va_recv hK hP (ci := 0) (q0 := 0) hcl rfl) rfl hl.1 rfl (Nat.le_of_ble_eq_true rfl) dM_best_128 ⟨Nat.zero_le _, Nat.zero_le _⟩ ?_
                      refine lv_istore_n (lv' := [(3, .int (mr_M_boundOf (G 7) (G 8) (G 9) (G 10) (G 11) (G 12) r nC nT nu)), (2, .int (mr_M_closed (G 6) r nC)), (5, .int ((if (mr_M_isBarred (G 13) (G 14) (G 15) (G 16) r nC nR) = 0 then (if (mr_M_passesLimits (G 7) (G 8) (G 9) (G 10) (G 11) (G 12) (G 17) (G 18) r nC nT) = 0 then (if be < 0 then 0 else (if (mr_M_boundOf (G 7) (G 8) (G 9) (G 10) (G 11) (G 12) r nC nT nu) < le then 0 else 1)) else 1) else 1) : Int32)), (4, .int sx), (0, .ref a), (1, .int nu)]) hx hb dM_best_131 rfl hl (by decide) rfl (fun ls hl => ?_)
                      refine lv_iload hx hb dM_best_132 (lv_at hl 2 rfl) ?_
                      refine lv_if_ne (tgt := 160) hx hb dM_best_134 (by decide) (fun h9 => absurd c109 h9) (fun _ => ?_)
                      refine lv_iload hx hb dM_best_137 (lv_at hl 3 rfl) ?_
                      refine lv_aload_n hx hb dM_best_139 rfl (lv_at hl 4 rfl) ?_
                      refine va_get (D := D) (ci := 0) (v := .int (F 2)) (C := RM) (T := TM) (N := 29) hx hb hts inM_ hown hK hP 0 rfl hcl 2 (by decide) f81 (fun _ h9 => h9) rfl dM_best_140 ?_
                      refine wt_i h2 ?_
                      refine lv_icmp_ge (tgt := 160) hx hb dM_best_143 (by decide) (fun c143 => ?_) (fun c143 => ?_)
                      · refine lv_aload_n hx hb dM_best_160 rfl (lv_at hl 4 rfl) ?_
                        refine lv_iload hx hb dM_best_161 (lv_at hl 3 rfl) ?_
                        refine wt_i (r := nI sx.toNatClampNeg) (by exact xs.1) ?_
                        refine ww_callV (r := (some (.int ((mr_M_nextRow (G 6) r nC sx.toNatClampNeg).1)))) (w' := mW a ba ka (upd (upd F 0 0) 20 (lk + 1)) (va_up (va_up G 19 r) 19 ((mr_M_nextRow (G 6) r nC sx.toNatClampNeg).2))) (As := [.int (nI sx.toNatClampNeg)]) (rest := []) Sx (c_M_nextRow l D cl hcl a ba ka (upd (upd F 0 0) 20 (lk + 1)) (va_up G 19 r) hP (hD.weaken (fun _ _ _ _ => trivial)) nC sx.toNatClampNeg hC (by have := xs.2; omega)) (cwV 1 hts gM_best_M_nextRow rfl rfl rfl (by decide +kernel) ⟨Nat.le_of_ble_eq_true rfl, Nat.le_of_ble_eq_true rfl⟩) hK (va_recv hK hP (ci := 0) (q0 := 0) hcl rfl) rfl hl.1 rfl (Nat.le_of_ble_eq_true rfl) dM_best_163 ⟨Nat.zero_le _, Nat.zero_le _⟩ hD hS hA (fun H locs hP hD hS => ?_)
                        rw [vup_ow] at hP hD
                        have xn : bI (G 6) nC (mr_M_nextRow (G 6) r nC sx.toNatClampNeg).2 (mr_M_nextRow (G 6) r nC sx.toNatClampNeg).1 ∧ bm (G 6) nC (mr_M_nextRow (G 6) r nC sx.toNatClampNeg).2 (mr_M_nextRow (G 6) r nC sx.toNatClampNeg).1 < bm (G 6) nC r sx := by have q := b_next hC h6 (s := s0) hs0 hr0; rw [← es0, xt] at q; exact q
                        refine lv_istore (lv' := [(4, .int ((mr_M_nextRow (G 6) r nC sx.toNatClampNeg).1)), (3, .int (mr_M_boundOf (G 7) (G 8) (G 9) (G 10) (G 11) (G 12) r nC nT nu)), (2, .int (mr_M_closed (G 6) r nC)), (5, .int ((if (mr_M_isBarred (G 13) (G 14) (G 15) (G 16) r nC nR) = 0 then (if (mr_M_passesLimits (G 7) (G 8) (G 9) (G 10) (G 11) (G 12) (G 17) (G 18) r nC nT) = 0 then (if be < 0 then 0 else (if (mr_M_boundOf (G 7) (G 8) (G 9) (G 10) (G 11) (G 12) r nC nT nu) < le then 0 else 1)) else 1) else 1) : Int32)), (0, .ref a), (1, .int nu)]) hx hb dM_best_166 hl (by decide) rfl (fun ls hl => ?_)
                        refine lv_goto (tgt := 58) hx hb dM_best_168 (by decide) ?_
                        have er58 : lf_M_best_58 (G 6) (G 7) (G 8) (G 9) (G 10) (G 11) (G 12) (G 13) (G 14) (G 15) (G 16) (G 17) (G 18) nC nT nR nD nu (N58 + 1) lk be le sx r = lf_M_best_58 (G 6) (G 7) (G 8) (G 9) (G 10) (G 11) (G 12) (G 13) (G 14) (G 15) (G 16) (G 17) (G 18) nC nT nR nD nu N58 (lk + 1) (mr_M_closed (G 6) r nC) (mr_M_boundOf (G 7) (G 8) (G 9) (G 10) (G 11) (G 12) r nC nT nu) ((mr_M_nextRow (G 6) r nC sx.toNatClampNeg).1) ((mr_M_nextRow (G 6) r nC sx.toNatClampNeg).2) := by rw [lf_M_best_58, if_neg c60, if_pos c109, if_pos c118, if_pos c143]
                        exact ih58 (lk + 1) (mr_M_closed (G 6) r nC) (mr_M_boundOf (G 7) (G 8) (G 9) (G 10) (G 11) (G 12) r nC nT nu) ((mr_M_nextRow (G 6) r nC sx.toNatClampNeg).1) ((mr_M_nextRow (G 6) r nC sx.toNatClampNeg).2) (by first | exact xn.1 | exact xd.1) (by first | (have := xn.2; omega) | (have := xd.2; omega)) (hR58.trans er58) H locs hP hD hS ls (lv_sub hl [0, 1, 2, 4, 5] rfl)
                      · have n143 : sx.toNatClampNeg < nC := by rw [← xt]; rcases Nat.lt_or_ge s0 nC with h | h; exact h; exact absurd (by rw [es0]; exact nI_le h (by omega)) c143
                        have xd : bI (G 6) nC (upd r sx.toNatClampNeg 0) (sx + 1) ∧ bm (G 6) nC (upd r sx.toNatClampNeg 0) (sx + 1) < bm (G 6) nC r sx := by have q := b_down hC h6 (s := s0) (by omega) hr0; rw [← es0, xt] at q; exact q
                        refine lv_aload_n hx hb dM_best_146 rfl (lv_at hl 4 rfl) ?_
                        refine va_get (D := D) (ci := 0) (v := .ref (ba 19)) (C := RM) (T := TM) (N := 29) hx hb hts inM_ hown hK hP 0 rfl hcl 19 (by decide) f54 (fun _ h9 => h9) rfl dM_best_147 ?_
                        refine lv_iload hx hb dM_best_150 (lv_at hl 3 rfl) ?_
                        refine lv_iconst (v := 0) hx hb dM_best_152 (by decide) ?_
                        have sd153 : sx.toNatClampNeg < 8 := by omega
                        have eg153 : (va_up G 19 r) 19 = r := by rw [vup_us]
                        refine wn_iast (f := r) hx hb hK hP hD hS 14 13 (congrArg (fun z : Nat → Int32 => (some ((ba 19), (.inl ((ka 19), 8, .inl z) : va_E)) : Option (Nat × va_E))) eg153) rfl sx.toNatClampNeg xs.1 sd153 (by decide) dM_best_153 (fun H locs hP hD hS => ?_)
                        rw [mW_g19, vup_ow] at hP hD
                        refine lv_iinc (v := sx + 1) (lv' := [(4, .int (sx + 1)), (3, .int (mr_M_boundOf (G 7) (G 8) (G 9) (G 10) (G 11) (G 12) r nC nT nu)), (2, .int (mr_M_closed (G 6) r nC)), (5, .int ((if (mr_M_isBarred (G 13) (G 14) (G 15) (G 16) r nC nR) = 0 then (if (mr_M_passesLimits (G 7) (G 8) (G 9) (G 10) (G 11) (G 12) (G 17) (G 18) r nC nT) = 0 then (if be < 0 then 0 else (if (mr_M_boundOf (G 7) (G 8) (G 9) (G 10) (G 11) (G 12) r nC nT nu) < le then 0 else 1)) else 1) else 1) : Int32)), (0, .ref a), (1, .int nu)]) hx hb dM_best_154 hl (k := 3) rfl (by exact ii_x _) (by decide) rfl (fun ls hl => ?_)
                        refine lv_goto (tgt := 168) hx hb dM_best_157 (by decide) ?_
                        refine lv_goto (tgt := 58) hx hb dM_best_168 (by decide) ?_
                        have er58 : lf_M_best_58 (G 6) (G 7) (G 8) (G 9) (G 10) (G 11) (G 12) (G 13) (G 14) (G 15) (G 16) (G 17) (G 18) nC nT nR nD nu (N58 + 1) lk be le sx r = lf_M_best_58 (G 6) (G 7) (G 8) (G 9) (G 10) (G 11) (G 12) (G 13) (G 14) (G 15) (G 16) (G 17) (G 18) nC nT nR nD nu N58 (lk + 1) (mr_M_closed (G 6) r nC) (mr_M_boundOf (G 7) (G 8) (G 9) (G 10) (G 11) (G 12) r nC nT nu) (sx + 1) (upd r sx.toNatClampNeg 0) := by rw [lf_M_best_58, if_neg c60, if_pos c109, if_pos c118, if_neg c143]
                        exact ih58 (lk + 1) (mr_M_closed (G 6) r nC) (mr_M_boundOf (G 7) (G 8) (G 9) (G 10) (G 11) (G 12) r nC nT nu) (sx + 1) (upd r sx.toNatClampNeg 0) (by first | exact xn.1 | exact xd.1) (by first | (have := xn.2; omega) | (have := xd.2; omega)) (hR58.trans er58) H locs hP hD hS ls (lv_sub hl [0, 1, 2, 4, 5] rfl)
                refine lv_if_ne (tgt := 100) hx hb dM_best_77 (by decide) (fun c77 => ?_) (fun c77 => ?_)
                · refine lv_iconst (v := 1) hx hb dM_best_100 (by decide) ?_
                  refine lv_goto (tgt := 105) hx hb dM_best_101 (by decide) ?_
                  exact wt_i (by rw [if_neg c77]) (j105 ls hl)
                · refine lv_aload_n hx hb dM_best_80 rfl (lv_at hl 3 rfl) ?_
                  refine ro_callV (r := (.int (mr_M_passesLimits (G 7) (G 8) (G 9) (G 10) (G 11) (G 12) (G 17) (G 18) r nC nT))) (As := []) (rest := []) Sx (c_M_passesLimits l D cl hcl a ba ka (upd (upd F 0 0) 20 (lk + 1)) (va_up G 19 r) hP nC nT hC h3 hT h8 h10) (cwV 0 hts gM_best_M_passesLimits rfl rfl rfl (by decide +kernel) ⟨Nat.le_of_ble_eq_true rfl, Nat.le_of_ble_eq_true rfl⟩) hK (va_recv hK hP (ci := 0) (q0 := 0) hcl rfl) rfl hl.1 rfl (Nat.le_of_ble_eq_true rfl) dM_best_81 ⟨Nat.zero_le _, Nat.zero_le _⟩ ?_
                  refine lv_if_ne (tgt := 100) hx hb dM_best_84 (by decide) (fun c84 => ?_) (fun c84 => ?_)
                  · refine lv_iconst (v := 1) hx hb dM_best_100 (by decide) ?_
                    refine lv_goto (tgt := 105) hx hb dM_best_101 (by decide) ?_
                    exact wt_i (by rw [if_pos c77, if_neg c84]) (j105 ls hl)
                  · refine lv_iload_n hx hb dM_best_87 rfl (lv_at hl 2 rfl) ?_
                    refine lv_if_lt (tgt := 104) hx hb dM_best_88 (by decide) (fun c88 => ?_) (fun c88 => ?_)
                    · refine lv_iconst (v := 0) hx hb dM_best_104 (by decide) ?_
                      exact wt_i (by rw [if_pos c77, if_pos c84, if_pos c88]) (j105 ls hl)
                    · refine lv_aload_n hx hb dM_best_91 rfl (lv_at hl 3 rfl) ?_
                      refine lv_iload_n hx hb dM_best_92 rfl (lv_at hl 4 rfl) ?_
                      refine ro_callV (r := (.int (mr_M_boundOf (G 7) (G 8) (G 9) (G 10) (G 11) (G 12) r nC nT nu))) (As := [.int nu]) (rest := []) Sx (c_M_boundOf l D cl hcl a ba ka (upd (upd F 0 0) 20 (lk + 1)) (va_up G 19 r) hP nC nT nu hC h3 hT h8 h10) (cwV 1 hts gM_best_M_boundOf rfl rfl rfl (by decide +kernel) ⟨Nat.le_of_ble_eq_true rfl, Nat.le_of_ble_eq_true rfl⟩) hK (va_recv hK hP (ci := 0) (q0 := 0) hcl rfl) rfl hl.1 rfl (Nat.le_of_ble_eq_true rfl) dM_best_93 ⟨Nat.zero_le _, Nat.zero_le _⟩ ?_
                      refine lv_iload_n hx hb dM_best_96 rfl (lv_at hl 1 rfl) ?_
                      refine lv_icmp_lt (tgt := 104) hx hb dM_best_97 (by decide) (fun c97 => ?_) (fun c97 => ?_)
                      · refine lv_iconst (v := 0) hx hb dM_best_104 (by decide) ?_
                        exact wt_i (by rw [if_pos c77, if_pos c84, if_neg c88, if_pos c97]) (j105 ls hl)
                      · refine lv_iconst (v := 1) hx hb dM_best_100 (by decide) ?_
                        refine lv_goto (tgt := 105) hx hb dM_best_101 (by decide) ?_
                        exact wt_i (by rw [if_pos c77, if_pos c84, if_neg c88, if_neg c97]) (j105 ls hl)
          exact loop58 8192 0 (-1) 0 0 (lf_M_best_32 nC nT nR nD nu (G 19) nC) (by exact Or.inr ⟨0, Nat.zero_le _, rfl, fun c h => absurd h (Nat.not_lt_zero _)⟩) (by exact bm_0 h6 (by omega) _) rfl H locs hP hD hS ls (lv_sub hl [0, 1, 2, 3, 4] rfl)
        · have n38 : ¬ nC ≤ k32 := fun h9 => c38 ((nI_leI (a := nC) (b := k32) (by omega) (by omega)).mpr h9)
          refine lv_aload_n hx hb dM_best_41 rfl (lv_at hl 3 rfl) ?_
          refine va_get (D := D) (ci := 0) (v := .ref (ba 19)) (C := RM) (T := TM) (N := 29) hx hb hts inM_ hown hK hP 0 rfl hcl 19 (by decide) f54 (fun _ h9 => h9) rfl dM_best_42 ?_
          refine lv_iload hx hb dM_best_45 (lv_at hl 0 rfl) ?_
          refine lv_iconst (v := (-1)) hx hb dM_best_47 (by decide) ?_
          have sd48 : k32 < 8 := by omega
          have eg48 : (va_up G 19 (lf_M_best_32 nC nT nR nD nu (G 19) k32)) 19 = lf_M_best_32 nC nT nR nD nu (G 19) k32 := by rw [vup_us]
          refine wn_iast (f := lf_M_best_32 nC nT nR nD nu (G 19) k32) hx hb hK hP hD hS 14 13 (congrArg (fun z : Nat → Int32 => (some ((ba 19), (.inl ((ka 19), 8, .inl z) : va_E)) : Option (Nat × va_E))) eg48) rfl k32 rfl sd48 (by decide) dM_best_48 (fun H locs hP hD hS => ?_)
          rw [mW_g19, vup_ow] at hP hD
          refine lv_iinc (v := nI (k32 + 1)) (lv' := [(4, .int (nI (k32 + 1))), (3, .int 0), (2, .int (-1)), (0, .ref a), (1, .int nu)]) hx hb dM_best_49 hl (k := 0) rfl (by exact ii_1 k32) (by decide) rfl (fun ls hl => ?_)
          refine lv_goto (tgt := 32) hx hb dM_best_52 (by decide) ?_
          have eb32 : lf_M_best_32 nC nT nR nD nu (G 19) (k32 + 1) = upd (lf_M_best_32 nC nT nR nD nu (G 19) k32) k32 (-1) := by rw [lf_M_best_32]
          exact ih32 (k32 + 1) (by omega) (by omega)  H locs (by rw [eb32]; exact hP) (by rw [eb32]; exact hD) hS ls (by exact lv_sub hl [0, 1, 2, 3, 4] rfl)
    exact loop32 _ 0 (Nat.zero_le _) (Nat.lt_succ_self _)  H locs hP hD hS ls (lv_sub hl [0, 1, 2, 3, 4] rfl)
  · refine lv_aload_n hx hb dM_best_14 rfl (lv_at hl 0 rfl) ?_
    refine lv_iconst (v := 1) hx hb dM_best_15 (by decide) ?_
    refine ww_callV (r := (some (.int ((mr_M_fail 1).1)))) (w' := mW a ba ka (upd (upd F 0 0) 0 ((mr_M_fail 1).2)) G) (As := [.int 1]) (rest := []) Sx (c_M_fail l D cl hcl a ba ka (upd F 0 0) G hP (hD.weaken (fun _ _ _ _ => trivial)) 1) (cwV 1 hts gM_best_M_fail rfl rfl rfl (by decide +kernel) ⟨Nat.le_of_ble_eq_true rfl, Nat.le_of_ble_eq_true rfl⟩) hK (va_recv hK hP (ci := 0) (q0 := 0) hcl rfl) rfl hl.1 rfl (Nat.le_of_ble_eq_true rfl) dM_best_16 ⟨Nat.zero_le _, Nat.zero_le _⟩ hD hS hA (fun H locs hP hD hS => ?_)
    rw [upd_ow] at hP hD
    have em : mr_M_best (F 20) (G 6) (G 7) (G 8) (G 9) (G 10) (G 11) (G 12) (G 13) (G 14) (G 15) (G 16) (G 17) (G 18) (G 19) nC nT nR nD nu = ((mr_M_fail 1).1, (mr_M_fail 1).2, F 20, G 19) := by rw [mr_M_best, if_pos c11]
    exact hret _ _ _ _ _ _ (by simp only [em]) (by simp only [em]; rw [upd_keep (f := upd F 0 ((mr_M_fail 1).2)) (j := 20) (x := F 20) rfl, vup_keep (f := G) (j := 19) (x := G 19) rfl]) hP hD hS dM_best_19
