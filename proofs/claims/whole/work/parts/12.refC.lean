def lf_M_know_59 (g7 : Nat → Int32) (g8 : Nat → Int32) (g9 : Nat → Int32) (g10 : Nat → Int32) (g11 : Nat → Int32) (g12 : Nat → Int32) (nC : Nat) (nT : Nat) (nR : Nat) (nD : Nat) (k15 : Nat) (qg19_59 : Nat → Int32) (i0 : (Nat → Int32)) : Nat → (Nat → Int32)
  | 0 => i0
  | k59 + 1 => (upd (lf_M_know_59 g7 g8 g9 g10 g11 g12 nC nT nR nD k15 qg19_59 i0 k59) ((4 * k15) + k59) (mr_M_boundOf g7 g8 g9 g10 g11 g12 qg19_59 nC nT (nI k59)))
def lf_M_know_15 (g6 : Nat → Int32) (g7 : Nat → Int32) (g8 : Nat → Int32) (g9 : Nat → Int32) (g10 : Nat → Int32) (g11 : Nat → Int32) (g12 : Nat → Int32) (g13 : Nat → Int32) (g14 : Nat → Int32) (g15 : Nat → Int32) (g16 : Nat → Int32) (g17 : Nat → Int32) (g18 : Nat → Int32) (nC : Nat) (nT : Nat) (nR : Nat) (nD : Nat) (i0 : (Nat → Int32)) (i1 : (Nat → Int32)) (i2 : (Nat → Int32)) : Nat → (Nat → Int32) × (Nat → Int32) × (Nat → Int32)
  | 0 => (i0, i1, i2)
  | k15 + 1 => (mr_M_open g6 ((lf_M_know_15 g6 g7 g8 g9 g10 g11 g12 g13 g14 g15 g16 g17 g18 nC nT nR nD i0 i1 i2 k15).1) nC k15 nC, upd ((lf_M_know_15 g6 g7 g8 g9 g10 g11 g12 g13 g14 g15 g16 g17 g18 nC nT nR nD i0 i1 i2 k15).2.1) k15 ((if (mr_M_isBarred g13 g14 g15 g16 (mr_M_open g6 ((lf_M_know_15 g6 g7 g8 g9 g10 g11 g12 g13 g14 g15 g16 g17 g18 nC nT nR nD i0 i1 i2 k15).1) nC k15 nC) nC nR) = 0 then (if (mr_M_passesLimits g7 g8 g9 g10 g11 g12 g17 g18 (mr_M_open g6 ((lf_M_know_15 g6 g7 g8 g9 g10 g11 g12 g13 g14 g15 g16 g17 g18 nC nT nR nD i0 i1 i2 k15).1) nC k15 nC) nC nT) = 0 then 1 else 0) else 0) : Int32), lf_M_know_59 g7 g8 g9 g10 g11 g12 nC nT nR nD k15 (mr_M_open g6 ((lf_M_know_15 g6 g7 g8 g9 g10 g11 g12 g13 g14 g15 g16 g17 g18 nC nT nR nD i0 i1 i2 k15).1) nC k15 nC) ((lf_M_know_15 g6 g7 g8 g9 g10 g11 g12 g13 g14 g15 g16 g17 g18 nC nT nR nD i0 i1 i2 k15).2.2) 4)
def mr_M_know (f26 : Int32) (g6 : Nat → Int32) (g7 : Nat → Int32) (g8 : Nat → Int32) (g9 : Nat → Int32) (g10 : Nat → Int32) (g11 : Nat → Int32) (g12 : Nat → Int32) (g13 : Nat → Int32) (g14 : Nat → Int32) (g15 : Nat → Int32) (g16 : Nat → Int32) (g17 : Nat → Int32) (g18 : Nat → Int32) (g19 : Nat → Int32) (g27 : Nat → Int32) (g28 : Nat → Int32) (nC : Nat) (nT : Nat) (nR : Nat) (nD : Nat) : Int32 × (Nat → Int32) × (Nat → Int32) × (Nat → Int32) := (if f26 = 0 then (1, (lf_M_know_15 g6 g7 g8 g9 g10 g11 g12 g13 g14 g15 g16 g17 g18 nC nT nR nD g19 g27 g28 nD).1, (lf_M_know_15 g6 g7 g8 g9 g10 g11 g12 g13 g14 g15 g16 g17 g18 nC nT nR nD g19 g27 g28 nD).2.1, (lf_M_know_15 g6 g7 g8 g9 g10 g11 g12 g13 g14 g15 g16 g17 g18 nC nT nR nD g19 g27 g28 nD).2.2) else (f26, g19, g27, g28))
theorem zb_M_know {f26 : Int32} {g6 g7 g8 g9 g10 g11 g12 g13 g14 g15 g16 g17 g18 g19 g27 g28 : Nat → Int32} {nC nT nR nD : Nat} (h27 : ∀ j, narrow .boolean (.int (g27 j)) = .int (g27 j)) : ∀ j, narrow .boolean (.int ((mr_M_know f26 g6 g7 g8 g9 g10 g11 g12 g13 g14 g15 g16 g17 g18 g19 g27 g28 nC nT nR nD).2.2.1 j)) = .int ((mr_M_know f26 g6 g7 g8 g9 g10 g11 g12 g13 g14 g15 g16 g17 g18 g19 g27 g28 nC nT nR nD).2.2.1 j) := by
  have key : ∀ (n j : Nat), narrow .boolean (.int ((lf_M_know_15 g6 g7 g8 g9 g10 g11 g12 g13 g14 g15 g16 g17 g18 nC nT nR nD g19 g27 g28 n).2.1 j)) = .int ((lf_M_know_15 g6 g7 g8 g9 g10 g11 g12 g13 g14 g15 g16 g17 g18 nC nT nR nD g19 g27 g28 n).2.1 j) := by
    intro n
    induction n with
    | zero => intro j; exact h27 j
    | succ n ih =>
      intro j
      rw [lf_M_know_15]
      dsimp only [upd]
      split
      · repeat' first | refine zb_i ?_ ?_ | exact zb_0 | exact zb_1
      · exact ih j
  intro j
  unfold mr_M_know
  split
  · exact key nD j
  · exact h27 j
set_option maxHeartbeats 4000000 in
set_option maxRecDepth 100000 in
theorem c_M_know (l : Launch) (D : va_G) (cl : List vw_C) (hcl : cl[0]? = some (RM, TM, 29)) (a : Nat) (ba : Nat → Nat) (ka : Nat → ClassId) (F : Nat → Int32) (G : Nat → Nat → Int32) {H0 : Heap} (hP : va_P D cl (mW a ba ka F G) H0) (hD : va_D (fun _ => True) (mW a ba ka F G)) (nC : Nat) (nT : Nat) (nR : Nat) (nD : Nat) (h2 : F 2 = nI nC) (hC : nC ≤ 8) (h3 : F 3 = nI nT) (hT : nT ≤ 100) (h4 : F 4 = nI nR) (hR : nR ≤ 40) (h5 : F 5 = nI nD) (hN : nD ≤ 4096) (h6 : ∀ c, c < nC → ∃ z : Nat, G 6 c = nI z ∧ 2 ≤ z ∧ z ≤ 6) (h8 : ∀ t, t < nT → ∃ x : Nat, x < nC ∧ G 8 t = nI x) (h10 : ∀ t, t < nT → G 10 t = -1 ∨ ∃ x : Nat, x < nC ∧ G 10 t = nI x) (h13 : ∀ j, j < nR → ∃ x : Nat, x < nC ∧ G 13 j = nI x) (h15 : ∀ j, j < nR → ∃ x : Nat, x < nC ∧ G 15 j = nI x) : ww_Met l yM_know wsM_know ({ frames := 3, cells := 0, slots := 0, locals := 70 } : Room) D cl (mT ka) H0 [.ref a] (mW a ba ka F G) none (mW a ba ka (upd F 26 ((mr_M_know (F 26) (G 6) (G 7) (G 8) (G 9) (G 10) (G 11) (G 12) (G 13) (G 14) (G 15) (G 16) (G 17) (G 18) (G 19) (G 27) (G 28) nC nT nR nD).1)) (va_up (va_up (va_up G 19 ((mr_M_know (F 26) (G 6) (G 7) (G 8) (G 9) (G 10) (G 11) (G 12) (G 13) (G 14) (G 15) (G 16) (G 17) (G 18) (G 19) (G 27) (G 28) nC nT nR nD).2.1)) 27 ((mr_M_know (F 26) (G 6) (G 7) (G 8) (G 9) (G 10) (G 11) (G 12) (G 13) (G 14) (G 15) (G 16) (G 17) (G 18) (G 19) (G 27) (G 28) nC nT nR nD).2.2.1)) 28 ((mr_M_know (F 26) (G 6) (G 7) (G 8) (G 9) (G 10) (G 11) (G 12) (G 13) (G 14) (G 15) (G 16) (G 17) (G 18) (G 19) (G 27) (G 28) nC nT nR nD).2.2.2))) := by
  refine ww_metV (by decide) rfl (Nat.le_of_ble_eq_true rfl) hP hD ?_
  intro p e s m args below meth c Q A Sx hK hP hD hS hA ls hl hret
  obtain ⟨hx, hb, hml, hown, hts⟩ := id Sx
  have hl : lv_has ls 3 [(0, .ref a)] := hl
  obtain ⟨H, eH⟩ : ∃ H : Heap, H = H0 := ⟨_, rfl⟩
  obtain ⟨locs, eL⟩ : ∃ L : List Loc, L = [] := ⟨_, rfl⟩
  have hP : va_P D cl (mW a ba ka F G) H := by rw [eH]; exact hP
  have hS : va_S A H0 H locs := by rw [eH, eL]; exact hS
  rw [show W p l e ({ frames := 3, cells := 0, slots := 0, locals := 70 } : Room) s m args below meth c H0 [] 0 0 Q (F0 m 0 ls []) = W p l e ({ frames := 3, cells := 0, slots := 0, locals := 70 } : Room) s m args below meth c H locs 0 0 Q (F0 m 0 ls []) by rw [eH, eL]]
  clear eH eL
  have f90 := hts _ (List.mem_cons_of_mem _ mfM_90)
  have inM_ : ∀ w ∈ wsM0, w ∈ wsM_know := fun w h => List.mem_cons_of_mem _ (inM_all w h)
  have f7 := hts _ (List.mem_cons_of_mem _ mfM_7)
  have f81 := hts _ (List.mem_cons_of_mem _ mfM_81)
  have f60 := hts _ (List.mem_cons_of_mem _ mfM_60)
  have f63 := hts _ (List.mem_cons_of_mem _ mfM_63)
  refine lv_aload_n hx hb dM_know_0 rfl (lv_at hl 0 rfl) ?_
  refine va_get (D := D) (ci := 0) (v := .int (F 26)) (C := RM) (T := TM) (N := 29) hx hb hts inM_ hown hK hP 0 rfl hcl 26 (by decide) f90 (fun _ h9 => h9) rfl dM_know_1 ?_
  refine lv_if_eq (tgt := 8) hx hb dM_know_4 (by decide) (fun c4 => ?_) (fun c4 => ?_)
  · refine lv_aload_n hx hb dM_know_8 rfl (lv_at hl 0 rfl) ?_
    refine lv_iconst (v := 1) hx hb dM_know_9 (by decide) ?_
    refine va_put (D := D) (ci := 0) (fs := mWl0 ba F) (v := .int 1) (ty := .boolean) (C := RM) (T := TM) (N := 29) hx hb hts inM_ tyM tyM_ok nmM hown hK hP hD hS 0 rfl hcl 26 (by decide) f90 (fun _ h9 => h9) rfl (by decide +kernel) (by first | rfl | assumption) rfl (Nat.le_of_ble_eq_true rfl) dM_know_10 (fun H locs hP hD hS => ?_)
    rw [mW_f26] at hP hD
    refine lv_iconst (v := 0) hx hb dM_know_13 (by decide) ?_
    refine lv_istore_n (lv' := [(1, .int 0), (0, .ref a)]) hx hb dM_know_14 rfl hl (by decide) rfl (fun ls hl => ?_)
    have loop15 : ∀ (N15 k15 : Nat), k15 ≤ nD → nD - k15 < N15 → ∀ (H : Heap) (locs : List Loc), va_P D cl (mW a ba ka (upd F 26 1) (va_up (va_up (va_up G 19 ((lf_M_know_15 (G 6) (G 7) (G 8) (G 9) (G 10) (G 11) (G 12) (G 13) (G 14) (G 15) (G 16) (G 17) (G 18) nC nT nR nD (G 19) (G 27) (G 28) k15).1)) 27 ((lf_M_know_15 (G 6) (G 7) (G 8) (G 9) (G 10) (G 11) (G 12) (G 13) (G 14) (G 15) (G 16) (G 17) (G 18) nC nT nR nD (G 19) (G 27) (G 28) k15).2.1)) 28 ((lf_M_know_15 (G 6) (G 7) (G 8) (G 9) (G 10) (G 11) (G 12) (G 13) (G 14) (G 15) (G 16) (G 17) (G 18) nC nT nR nD (G 19) (G 27) (G 28) k15).2.2))) H → va_D A (mW a ba ka (upd F 26 1) (va_up (va_up (va_up G 19 ((lf_M_know_15 (G 6) (G 7) (G 8) (G 9) (G 10) (G 11) (G 12) (G 13) (G 14) (G 15) (G 16) (G 17) (G 18) nC nT nR nD (G 19) (G 27) (G 28) k15).1)) 27 ((lf_M_know_15 (G 6) (G 7) (G 8) (G 9) (G 10) (G 11) (G 12) (G 13) (G 14) (G 15) (G 16) (G 17) (G 18) nC nT nR nD (G 19) (G 27) (G 28) k15).2.1)) 28 ((lf_M_know_15 (G 6) (G 7) (G 8) (G 9) (G 10) (G 11) (G 12) (G 13) (G 14) (G 15) (G 16) (G 17) (G 18) nC nT nR nD (G 19) (G 27) (G 28) k15).2.2))) → va_S A H0 H locs → ∀ (ls : Array Slot), lv_has ls 3 [(1, .int (nI k15)), (0, .ref a)] → W p l e ({ frames := 3, cells := 0, slots := 0, locals := 70 } : Room) s m args below meth c H locs 0 0 Q (F0 m 15 ls []) := by
      intro N15
      induction N15 with
      | zero => intro k15 hk15 hm15; exact absurd hm15 (Nat.not_lt_zero _)
      | succ N15 ih15 =>
        intro k15 hk15 hm15  H locs hP hD hS ls hl
        refine lv_iload_n hx hb dM_know_15 rfl (lv_at hl 0 rfl) ?_
        refine lv_aload_n hx hb dM_know_16 rfl (lv_at hl 1 rfl) ?_
        refine va_get (D := D) (ci := 0) (v := .int (F 5)) (C := RM) (T := TM) (N := 29) hx hb hts inM_ hown hK hP 0 rfl hcl 5 (by decide) f7 (fun _ h9 => h9) rfl dM_know_17 ?_
        refine wt_i h5 ?_
        refine lv_icmp_ge (tgt := 91) hx hb dM_know_20 (by decide) (fun c20 => ?_) (fun c20 => ?_)
        · have n20 : nD ≤ k15 := (nI_leI (a := nD) (b := k15) (by omega) (by omega)).mp c20
          have hx15 : nD = k15 := by omega
          subst hx15
          have em : mr_M_know (F 26) (G 6) (G 7) (G 8) (G 9) (G 10) (G 11) (G 12) (G 13) (G 14) (G 15) (G 16) (G 17) (G 18) (G 19) (G 27) (G 28) nC nT nR nD = (1, (lf_M_know_15 (G 6) (G 7) (G 8) (G 9) (G 10) (G 11) (G 12) (G 13) (G 14) (G 15) (G 16) (G 17) (G 18) nC nT nR nD (G 19) (G 27) (G 28) nD).1, (lf_M_know_15 (G 6) (G 7) (G 8) (G 9) (G 10) (G 11) (G 12) (G 13) (G 14) (G 15) (G 16) (G 17) (G 18) nC nT nR nD (G 19) (G 27) (G 28) nD).2.1, (lf_M_know_15 (G 6) (G 7) (G 8) (G 9) (G 10) (G 11) (G 12) (G 13) (G 14) (G 15) (G 16) (G 17) (G 18) nC nT nR nD (G 19) (G 27) (G 28) nD).2.2) := by rw [mr_M_know, if_pos c4]
          exact hret _ _ _ _ _ (by simp only [em]) hP hD hS dM_know_91
        · have n20 : ¬ nD ≤ k15 := fun h9 => c20 ((nI_leI (a := nD) (b := k15) (by omega) (by omega)).mpr h9)
          refine lv_aload_n hx hb dM_know_23 rfl (lv_at hl 1 rfl) ?_
          refine lv_iload_n hx hb dM_know_24 rfl (lv_at hl 0 rfl) ?_
          refine lv_aload_n hx hb dM_know_25 rfl (lv_at hl 1 rfl) ?_
          refine va_get (D := D) (ci := 0) (v := .int (F 2)) (C := RM) (T := TM) (N := 29) hx hb hts inM_ hown hK hP 0 rfl hcl 2 (by decide) f81 (fun _ h9 => h9) rfl dM_know_26 ?_
          refine wt_i h2 ?_
          refine ww_callV (r := none) (w' := mW a ba ka (upd F 26 1) (va_up (va_up (va_up (va_up G 19 ((lf_M_know_15 (G 6) (G 7) (G 8) (G 9) (G 10) (G 11) (G 12) (G 13) (G 14) (G 15) (G 16) (G 17) (G 18) nC nT nR nD (G 19) (G 27) (G 28) k15).1)) 27 ((lf_M_know_15 (G 6) (G 7) (G 8) (G 9) (G 10) (G 11) (G 12) (G 13) (G 14) (G 15) (G 16) (G 17) (G 18) nC nT nR nD (G 19) (G 27) (G 28) k15).2.1)) 28 ((lf_M_know_15 (G 6) (G 7) (G 8) (G 9) (G 10) (G 11) (G 12) (G 13) (G 14) (G 15) (G 16) (G 17) (G 18) nC nT nR nD (G 19) (G 27) (G 28) k15).2.2)) 19 (mr_M_open (G 6) ((lf_M_know_15 (G 6) (G 7) (G 8) (G 9) (G 10) (G 11) (G 12) (G 13) (G 14) (G 15) (G 16) (G 17) (G 18) nC nT nR nD (G 19) (G 27) (G 28) k15).1) nC k15 nC))) (As := [.int (nI k15), .int (nI nC)]) (rest := []) Sx (c_M_open l D cl hcl a ba ka (upd F 26 1) (va_up (va_up (va_up G 19 ((lf_M_know_15 (G 6) (G 7) (G 8) (G 9) (G 10) (G 11) (G 12) (G 13) (G 14) (G 15) (G 16) (G 17) (G 18) nC nT nR nD (G 19) (G 27) (G 28) k15).1)) 27 ((lf_M_know_15 (G 6) (G 7) (G 8) (G 9) (G 10) (G 11) (G 12) (G 13) (G 14) (G 15) (G 16) (G 17) (G 18) nC nT nR nD (G 19) (G 27) (G 28) k15).2.1)) 28 ((lf_M_know_15 (G 6) (G 7) (G 8) (G 9) (G 10) (G 11) (G 12) (G 13) (G 14) (G 15) (G 16) (G 17) (G 18) nC nT nR nD (G 19) (G 27) (G 28) k15).2.2)) hP (hD.weaken (fun _ _ _ _ => trivial)) nC k15 nC h2 hC h6 hC) (cwV 2 hts gM_know_M_open rfl rfl rfl (by decide +kernel) ⟨Nat.le_of_ble_eq_true rfl, Nat.le_of_ble_eq_true rfl⟩) hK (va_recv hK hP (ci := 0) (q0 := 0) hcl rfl) rfl hl.1 rfl (Nat.le_of_ble_eq_true rfl) dM_know_29 ⟨Nat.zero_le _, Nat.zero_le _⟩ hD hS hA (fun H locs hP hD hS => ?_)
          rw [vup_sw (i := 28) (j := 19) (by decide), vup_sw (i := 27) (j := 19) (by decide), vup_ow] at hP hD
          refine lv_aload_n hx hb dM_know_32 rfl (lv_at hl 1 rfl) ?_
          refine va_get (D := D) (ci := 0) (v := .ref (ba 27)) (C := RM) (T := TM) (N := 29) hx hb hts inM_ hown hK hP 0 rfl hcl 27 (by decide) f60 (fun _ h9 => h9) rfl dM_know_33 ?_
          refine lv_iload_n hx hb dM_know_36 rfl (lv_at hl 0 rfl) ?_
          refine lv_aload_n hx hb dM_know_37 rfl (lv_at hl 1 rfl) ?_
          refine ro_callV (r := (.int (mr_M_isBarred (G 13) (G 14) (G 15) (G 16) (mr_M_open (G 6) ((lf_M_know_15 (G 6) (G 7) (G 8) (G 9) (G 10) (G 11) (G 12) (G 13) (G 14) (G 15) (G 16) (G 17) (G 18) nC nT nR nD (G 19) (G 27) (G 28) k15).1) nC k15 nC) nC nR))) (As := []) (rest := [.int (nI k15), .ref (ba 27)]) Sx (c_M_isBarred l D cl hcl a ba ka (upd F 26 1) (va_up (va_up (va_up G 19 (mr_M_open (G 6) ((lf_M_know_15 (G 6) (G 7) (G 8) (G 9) (G 10) (G 11) (G 12) (G 13) (G 14) (G 15) (G 16) (G 17) (G 18) nC nT nR nD (G 19) (G 27) (G 28) k15).1) nC k15 nC)) 27 ((lf_M_know_15 (G 6) (G 7) (G 8) (G 9) (G 10) (G 11) (G 12) (G 13) (G 14) (G 15) (G 16) (G 17) (G 18) nC nT nR nD (G 19) (G 27) (G 28) k15).2.1)) 28 ((lf_M_know_15 (G 6) (G 7) (G 8) (G 9) (G 10) (G 11) (G 12) (G 13) (G 14) (G 15) (G 16) (G 17) (G 18) nC nT nR nD (G 19) (G 27) (G 28) k15).2.2)) hP nC nR hC h4 hR h13 h15) (cwV 0 hts gM_know_M_isBarred rfl rfl rfl (by decide +kernel) ⟨Nat.le_of_ble_eq_true rfl, Nat.le_of_ble_eq_true rfl⟩) hK (va_recv hK hP (ci := 0) (q0 := 0) hcl rfl) rfl hl.1 rfl (Nat.le_of_ble_eq_true rfl) dM_know_38 ⟨Nat.zero_le _, Nat.zero_le _⟩ ?_
          have j56 : ∀ (ls : Array Slot), lv_has ls 3 [(1, .int (nI k15)), (0, .ref a)] → W p l e ({ frames := 3, cells := 0, slots := 0, locals := 70 } : Room) s m args below meth c H locs 0 0 Q (F0 m 56 ls [.int ((if (mr_M_isBarred (G 13) (G 14) (G 15) (G 16) (mr_M_open (G 6) ((lf_M_know_15 (G 6) (G 7) (G 8) (G 9) (G 10) (G 11) (G 12) (G 13) (G 14) (G 15) (G 16) (G 17) (G 18) nC nT nR nD (G 19) (G 27) (G 28) k15).1) nC k15 nC) nC nR) = 0 then (if (mr_M_passesLimits (G 7) (G 8) (G 9) (G 10) (G 11) (G 12) (G 17) (G 18) (mr_M_open (G 6) ((lf_M_know_15 (G 6) (G 7) (G 8) (G 9) (G 10) (G 11) (G 12) (G 13) (G 14) (G 15) (G 16) (G 17) (G 18) nC nT nR nD (G 19) (G 27) (G 28) k15).1) nC k15 nC) nC nT) = 0 then 1 else 0) else 0) : Int32), .int (nI k15), .ref (ba 27)]) := by
            intro ls hl
            have sd56 : k15 < 4096 := by omega
            have eg56 : (va_up (va_up (va_up G 19 (mr_M_open (G 6) ((lf_M_know_15 (G 6) (G 7) (G 8) (G 9) (G 10) (G 11) (G 12) (G 13) (G 14) (G 15) (G 16) (G 17) (G 18) nC nT nR nD (G 19) (G 27) (G 28) k15).1) nC k15 nC)) 27 ((lf_M_know_15 (G 6) (G 7) (G 8) (G 9) (G 10) (G 11) (G 12) (G 13) (G 14) (G 15) (G 16) (G 17) (G 18) nC nT nR nD (G 19) (G 27) (G 28) k15).2.1)) 28 ((lf_M_know_15 (G 6) (G 7) (G 8) (G 9) (G 10) (G 11) (G 12) (G 13) (G 14) (G 15) (G 16) (G 17) (G 18) nC nT nR nD (G 19) (G 27) (G 28) k15).2.2)) 27 = (lf_M_know_15 (G 6) (G 7) (G 8) (G 9) (G 10) (G 11) (G 12) (G 13) (G 14) (G 15) (G 16) (G 17) (G 18) nC nT nR nD (G 19) (G 27) (G 28) k15).2.1 := by rw [vup_un (k := 28) (j := 27) (by decide), vup_us]
            refine wn_zast (f := (lf_M_know_15 (G 6) (G 7) (G 8) (G 9) (G 10) (G 11) (G 12) (G 13) (G 14) (G 15) (G 16) (G 17) (G 18) nC nT nR nD (G 19) (G 27) (G 28) k15).2.1) hx hb hK hP hD hS 15 14 (congrArg (fun z : Nat → Int32 => (some ((ba 27), (.inl ((ka 27), 4096, .inl z) : va_E)) : Option (Nat × va_E))) eg56) rfl k15 rfl sd56 (by decide) (by repeat' first | refine vb_i ?_ ?_ | exact vb_0 | exact vb_1) dM_know_56 (fun H locs hP hD hS => ?_)
            rw [mW_g27, vup_sw (i := 28) (j := 27) (by decide), vup_ow] at hP hD
            refine lv_iconst (v := 0) hx hb dM_know_57 (by decide) ?_
            refine lv_istore_n (lv' := [(2, .int 0), (1, .int (nI k15)), (0, .ref a)]) hx hb dM_know_58 rfl hl (by decide) rfl (fun ls hl => ?_)
            have loop59 : ∀ (N59 k59 : Nat), k59 ≤ 4 → 4 - k59 < N59 → ∀ (H : Heap) (locs : List Loc), va_P D cl (mW a ba ka (upd F 26 1) (va_up (va_up (va_up G 19 (mr_M_open (G 6) ((lf_M_know_15 (G 6) (G 7) (G 8) (G 9) (G 10) (G 11) (G 12) (G 13) (G 14) (G 15) (G 16) (G 17) (G 18) nC nT nR nD (G 19) (G 27) (G 28) k15).1) nC k15 nC)) 27 (upd ((lf_M_know_15 (G 6) (G 7) (G 8) (G 9) (G 10) (G 11) (G 12) (G 13) (G 14) (G 15) (G 16) (G 17) (G 18) nC nT nR nD (G 19) (G 27) (G 28) k15).2.1) k15 ((if (mr_M_isBarred (G 13) (G 14) (G 15) (G 16) (mr_M_open (G 6) ((lf_M_know_15 (G 6) (G 7) (G 8) (G 9) (G 10) (G 11) (G 12) (G 13) (G 14) (G 15) (G 16) (G 17) (G 18) nC nT nR nD (G 19) (G 27) (G 28) k15).1) nC k15 nC) nC nR) = 0 then (if (mr_M_passesLimits (G 7) (G 8) (G 9) (G 10) (G 11) (G 12) (G 17) (G 18) (mr_M_open (G 6) ((lf_M_know_15 (G 6) (G 7) (G 8) (G 9) (G 10) (G 11) (G 12) (G 13) (G 14) (G 15) (G 16) (G 17) (G 18) nC nT nR nD (G 19) (G 27) (G 28) k15).1) nC k15 nC) nC nT) = 0 then 1 else 0) else 0) : Int32))) 28 (lf_M_know_59 (G 7) (G 8) (G 9) (G 10) (G 11) (G 12) nC nT nR nD k15 (mr_M_open (G 6) ((lf_M_know_15 (G 6) (G 7) (G 8) (G 9) (G 10) (G 11) (G 12) (G 13) (G 14) (G 15) (G 16) (G 17) (G 18) nC nT nR nD (G 19) (G 27) (G 28) k15).1) nC k15 nC) ((lf_M_know_15 (G 6) (G 7) (G 8) (G 9) (G 10) (G 11) (G 12) (G 13) (G 14) (G 15) (G 16) (G 17) (G 18) nC nT nR nD (G 19) (G 27) (G 28) k15).2.2) k59))) H → va_D A (mW a ba ka (upd F 26 1) (va_up (va_up (va_up G 19 (mr_M_open (G 6) ((lf_M_know_15 (G 6) (G 7) (G 8) (G 9) (G 10) (G 11) (G 12) (G 13) (G 14) (G 15) (G 16) (G 17) (G 18) nC nT nR nD (G 19) (G 27) (G 28) k15).1) nC k15 nC)) 27 (upd ((lf_M_know_15 (G 6) (G 7) (G 8) (G 9) (G 10) (G 11) (G 12) (G 13) (G 14) (G 15) (G 16) (G 17) (G 18) nC nT nR nD (G 19) (G 27) (G 28) k15).2.1) k15 ((if (mr_M_isBarred (G 13) (G 14) (G 15) (G 16) (mr_M_open (G 6) ((lf_M_know_15 (G 6) (G 7) (G 8) (G 9) (G 10) (G 11) (G 12) (G 13) (G 14) (G 15) (G 16) (G 17) (G 18) nC nT nR nD (G 19) (G 27) (G 28) k15).1) nC k15 nC) nC nR) = 0 then (if (mr_M_passesLimits (G 7) (G 8) (G 9) (G 10) (G 11) (G 12) (G 17) (G 18) (mr_M_open (G 6) ((lf_M_know_15 (G 6) (G 7) (G 8) (G 9) (G 10) (G 11) (G 12) (G 13) (G 14) (G 15) (G 16) (G 17) (G 18) nC nT nR nD (G 19) (G 27) (G 28) k15).1) nC k15 nC) nC nT) = 0 then 1 else 0) else 0) : Int32))) 28 (lf_M_know_59 (G 7) (G 8) (G 9) (G 10) (G 11) (G 12) nC nT nR nD k15 (mr_M_open (G 6) ((lf_M_know_15 (G 6) (G 7) (G 8) (G 9) (G 10) (G 11) (G 12) (G 13) (G 14) (G 15) (G 16) (G 17) (G 18) nC nT nR nD (G 19) (G 27) (G 28) k15).1) nC k15 nC) ((lf_M_know_15 (G 6) (G 7) (G 8) (G 9) (G 10) (G 11) (G 12) (G 13) (G 14) (G 15) (G 16) (G 17) (G 18) nC nT nR nD (G 19) (G 27) (G 28) k15).2.2) k59))) → va_S A H0 H locs → ∀ (ls : Array Slot), lv_has ls 3 [(2, .int (nI k59)), (1, .int (nI k15)), (0, .ref a)] → W p l e ({ frames := 3, cells := 0, slots := 0, locals := 70 } : Room) s m args below meth c H locs 0 0 Q (F0 m 59 ls []) := by
              intro N59
              induction N59 with
              | zero => intro k59 hk59 hm59; exact absurd hm59 (Nat.not_lt_zero _)
              | succ N59 ih59 =>
                intro k59 hk59 hm59  H locs hP hD hS ls hl
                refine lv_iload_n hx hb dM_know_59 rfl (lv_at hl 0 rfl) ?_
                refine lv_iconst (v := 4) hx hb dM_know_60 (by decide) ?_
                refine lv_icmp_ge (tgt := 85) hx hb dM_know_61 (by decide) (fun c61 => ?_) (fun c61 => ?_)
                · have n61 : 4 ≤ k59 := (nI_leI (a := 4) (b := k59) (by omega) (by omega)).mp c61
                  have hx59 : 4 = k59 := by omega
                  subst hx59
                  refine lv_iinc (v := nI (k15 + 1)) (lv' := [(1, .int (nI (k15 + 1))), (2, .int (nI 4)), (0, .ref a)]) hx hb dM_know_85 hl (k := 1) rfl (by exact ii_1 k15) (by decide) rfl (fun ls hl => ?_)
                  refine lv_goto (tgt := 15) hx hb dM_know_88 (by decide) ?_
                  have eb15 : lf_M_know_15 (G 6) (G 7) (G 8) (G 9) (G 10) (G 11) (G 12) (G 13) (G 14) (G 15) (G 16) (G 17) (G 18) nC nT nR nD (G 19) (G 27) (G 28) (k15 + 1) = (mr_M_open (G 6) ((lf_M_know_15 (G 6) (G 7) (G 8) (G 9) (G 10) (G 11) (G 12) (G 13) (G 14) (G 15) (G 16) (G 17) (G 18) nC nT nR nD (G 19) (G 27) (G 28) k15).1) nC k15 nC, upd ((lf_M_know_15 (G 6) (G 7) (G 8) (G 9) (G 10) (G 11) (G 12) (G 13) (G 14) (G 15) (G 16) (G 17) (G 18) nC nT nR nD (G 19) (G 27) (G 28) k15).2.1) k15 ((if (mr_M_isBarred (G 13) (G 14) (G 15) (G 16) (mr_M_open (G 6) ((lf_M_know_15 (G 6) (G 7) (G 8) (G 9) (G 10) (G 11) (G 12) (G 13) (G 14) (G 15) (G 16) (G 17) (G 18) nC nT nR nD (G 19) (G 27) (G 28) k15).1) nC k15 nC) nC nR) = 0 then (if (mr_M_passesLimits (G 7) (G 8) (G 9) (G 10) (G 11) (G 12) (G 17) (G 18) (mr_M_open (G 6) ((lf_M_know_15 (G 6) (G 7) (G 8) (G 9) (G 10) (G 11) (G 12) (G 13) (G 14) (G 15) (G 16) (G 17) (G 18) nC nT nR nD (G 19) (G 27) (G 28) k15).1) nC k15 nC) nC nT) = 0 then 1 else 0) else 0) : Int32), lf_M_know_59 (G 7) (G 8) (G 9) (G 10) (G 11) (G 12) nC nT nR nD k15 (mr_M_open (G 6) ((lf_M_know_15 (G 6) (G 7) (G 8) (G 9) (G 10) (G 11) (G 12) (G 13) (G 14) (G 15) (G 16) (G 17) (G 18) nC nT nR nD (G 19) (G 27) (G 28) k15).1) nC k15 nC) ((lf_M_know_15 (G 6) (G 7) (G 8) (G 9) (G 10) (G 11) (G 12) (G 13) (G 14) (G 15) (G 16) (G 17) (G 18) nC nT nR nD (G 19) (G 27) (G 28) k15).2.2) 4) := by rw [lf_M_know_15]
                  exact ih15 (k15 + 1) (by omega) (by omega)  H locs (by rw [eb15]; exact hP) (by rw [eb15]; exact hD) hS ls (by exact lv_sub hl [0, 2] rfl)
                · have n61 : ¬ 4 ≤ k59 := fun h9 => c61 ((nI_leI (a := 4) (b := k59) (by omega) (by omega)).mpr h9)
                  refine lv_aload_n hx hb dM_know_64 rfl (lv_at hl 2 rfl) ?_
                  refine va_get (D := D) (ci := 0) (v := .ref (ba 28)) (C := RM) (T := TM) (N := 29) hx hb hts inM_ hown hK hP 0 rfl hcl 28 (by decide) f63 (fun _ h9 => h9) rfl dM_know_65 ?_
                  refine lv_iconst (v := 4) hx hb dM_know_68 (by decide) ?_
                  refine lv_iload_n hx hb dM_know_69 rfl (lv_at hl 1 rfl) ?_
                  refine lv_imul hx hb dM_know_70 ?_
                  refine wt_i (r := nI (4 * k15)) (by exact pk_mul 4 k15) ?_
                  refine lv_iload_n hx hb dM_know_71 rfl (lv_at hl 0 rfl) ?_
                  refine lv_iadd hx hb dM_know_72 ?_
                  refine wt_i (r := nI ((4 * k15) + k59)) (by exact nI_add (4 * k15) k59) ?_
                  refine lv_aload_n hx hb dM_know_73 rfl (lv_at hl 2 rfl) ?_
                  refine lv_iload_n hx hb dM_know_74 rfl (lv_at hl 0 rfl) ?_
                  refine ro_callV (r := (.int (mr_M_boundOf (G 7) (G 8) (G 9) (G 10) (G 11) (G 12) (mr_M_open (G 6) ((lf_M_know_15 (G 6) (G 7) (G 8) (G 9) (G 10) (G 11) (G 12) (G 13) (G 14) (G 15) (G 16) (G 17) (G 18) nC nT nR nD (G 19) (G 27) (G 28) k15).1) nC k15 nC) nC nT (nI k59)))) (As := [.int (nI k59)]) (rest := [.int (nI ((4 * k15) + k59)), .ref (ba 28)]) Sx (c_M_boundOf l D cl hcl a ba ka (upd F 26 1) (va_up (va_up (va_up G 19 (mr_M_open (G 6) ((lf_M_know_15 (G 6) (G 7) (G 8) (G 9) (G 10) (G 11) (G 12) (G 13) (G 14) (G 15) (G 16) (G 17) (G 18) nC nT nR nD (G 19) (G 27) (G 28) k15).1) nC k15 nC)) 27 (upd ((lf_M_know_15 (G 6) (G 7) (G 8) (G 9) (G 10) (G 11) (G 12) (G 13) (G 14) (G 15) (G 16) (G 17) (G 18) nC nT nR nD (G 19) (G 27) (G 28) k15).2.1) k15 ((if (mr_M_isBarred (G 13) (G 14) (G 15) (G 16) (mr_M_open (G 6) ((lf_M_know_15 (G 6) (G 7) (G 8) (G 9) (G 10) (G 11) (G 12) (G 13) (G 14) (G 15) (G 16) (G 17) (G 18) nC nT nR nD (G 19) (G 27) (G 28) k15).1) nC k15 nC) nC nR) = 0 then (if (mr_M_passesLimits (G 7) (G 8) (G 9) (G 10) (G 11) (G 12) (G 17) (G 18) (mr_M_open (G 6) ((lf_M_know_15 (G 6) (G 7) (G 8) (G 9) (G 10) (G 11) (G 12) (G 13) (G 14) (G 15) (G 16) (G 17) (G 18) nC nT nR nD (G 19) (G 27) (G 28) k15).1) nC k15 nC) nC nT) = 0 then 1 else 0) else 0) : Int32))) 28 (lf_M_know_59 (G 7) (G 8) (G 9) (G 10) (G 11) (G 12) nC nT nR nD k15 (mr_M_open (G 6) ((lf_M_know_15 (G 6) (G 7) (G 8) (G 9) (G 10) (G 11) (G 12) (G 13) (G 14) (G 15) (G 16) (G 17) (G 18) nC nT nR nD (G 19) (G 27) (G 28) k15).1) nC k15 nC) ((lf_M_know_15 (G 6) (G 7) (G 8) (G 9) (G 10) (G 11) (G 12) (G 13) (G 14) (G 15) (G 16) (G 17) (G 18) nC nT nR nD (G 19) (G 27) (G 28) k15).2.2) k59)) hP nC nT (nI k59) hC h3 hT h8 h10) (cwV 1 hts gM_know_M_boundOf rfl rfl rfl (by decide +kernel) ⟨Nat.le_of_ble_eq_true rfl, Nat.le_of_ble_eq_true rfl⟩) hK (va_recv hK hP (ci := 0) (q0 := 0) hcl rfl) rfl hl.1 rfl (Nat.le_of_ble_eq_true rfl) dM_know_75 ⟨Nat.zero_le _, Nat.zero_le _⟩ ?_
                  have sd78 : ((4 * k15) + k59) < 16384 := by omega
                  have eg78 : (va_up (va_up (va_up G 19 (mr_M_open (G 6) ((lf_M_know_15 (G 6) (G 7) (G 8) (G 9) (G 10) (G 11) (G 12) (G 13) (G 14) (G 15) (G 16) (G 17) (G 18) nC nT nR nD (G 19) (G 27) (G 28) k15).1) nC k15 nC)) 27 (upd ((lf_M_know_15 (G 6) (G 7) (G 8) (G 9) (G 10) (G 11) (G 12) (G 13) (G 14) (G 15) (G 16) (G 17) (G 18) nC nT nR nD (G 19) (G 27) (G 28) k15).2.1) k15 ((if (mr_M_isBarred (G 13) (G 14) (G 15) (G 16) (mr_M_open (G 6) ((lf_M_know_15 (G 6) (G 7) (G 8) (G 9) (G 10) (G 11) (G 12) (G 13) (G 14) (G 15) (G 16) (G 17) (G 18) nC nT nR nD (G 19) (G 27) (G 28) k15).1) nC k15 nC) nC nR) = 0 then (if (mr_M_passesLimits (G 7) (G 8) (G 9) (G 10) (G 11) (G 12) (G 17) (G 18) (mr_M_open (G 6) ((lf_M_know_15 (G 6) (G 7) (G 8) (G 9) (G 10) (G 11) (G 12) (G 13) (G 14) (G 15) (G 16) (G 17) (G 18) nC nT nR nD (G 19) (G 27) (G 28) k15).1) nC k15 nC) nC nT) = 0 then 1 else 0) else 0) : Int32))) 28 (lf_M_know_59 (G 7) (G 8) (G 9) (G 10) (G 11) (G 12) nC nT nR nD k15 (mr_M_open (G 6) ((lf_M_know_15 (G 6) (G 7) (G 8) (G 9) (G 10) (G 11) (G 12) (G 13) (G 14) (G 15) (G 16) (G 17) (G 18) nC nT nR nD (G 19) (G 27) (G 28) k15).1) nC k15 nC) ((lf_M_know_15 (G 6) (G 7) (G 8) (G 9) (G 10) (G 11) (G 12) (G 13) (G 14) (G 15) (G 16) (G 17) (G 18) nC nT nR nD (G 19) (G 27) (G 28) k15).2.2) k59)) 28 = lf_M_know_59 (G 7) (G 8) (G 9) (G 10) (G 11) (G 12) nC nT nR nD k15 (mr_M_open (G 6) ((lf_M_know_15 (G 6) (G 7) (G 8) (G 9) (G 10) (G 11) (G 12) (G 13) (G 14) (G 15) (G 16) (G 17) (G 18) nC nT nR nD (G 19) (G 27) (G 28) k15).1) nC k15 nC) ((lf_M_know_15 (G 6) (G 7) (G 8) (G 9) (G 10) (G 11) (G 12) (G 13) (G 14) (G 15) (G 16) (G 17) (G 18) nC nT nR nD (G 19) (G 27) (G 28) k15).2.2) k59 := by rw [vup_us]
                  refine wn_iast (f := lf_M_know_59 (G 7) (G 8) (G 9) (G 10) (G 11) (G 12) nC nT nR nD k15 (mr_M_open (G 6) ((lf_M_know_15 (G 6) (G 7) (G 8) (G 9) (G 10) (G 11) (G 12) (G 13) (G 14) (G 15) (G 16) (G 17) (G 18) nC nT nR nD (G 19) (G 27) (G 28) k15).1) nC k15 nC) ((lf_M_know_15 (G 6) (G 7) (G 8) (G 9) (G 10) (G 11) (G 12) (G 13) (G 14) (G 15) (G 16) (G 17) (G 18) nC nT nR nD (G 19) (G 27) (G 28) k15).2.2) k59) hx hb hK hP hD hS 16 15 (congrArg (fun z : Nat → Int32 => (some ((ba 28), (.inl ((ka 28), 16384, .inl z) : va_E)) : Option (Nat × va_E))) eg78) rfl ((4 * k15) + k59) rfl sd78 (by decide) dM_know_78 (fun H locs hP hD hS => ?_)
                  rw [mW_g28, vup_ow] at hP hD
                  refine lv_iinc (v := nI (k59 + 1)) (lv' := [(2, .int (nI (k59 + 1))), (1, .int (nI k15)), (0, .ref a)]) hx hb dM_know_79 hl (k := 0) rfl (by exact ii_1 k59) (by decide) rfl (fun ls hl => ?_)
                  refine lv_goto (tgt := 59) hx hb dM_know_82 (by decide) ?_
                  have eb59 : lf_M_know_59 (G 7) (G 8) (G 9) (G 10) (G 11) (G 12) nC nT nR nD k15 (mr_M_open (G 6) ((lf_M_know_15 (G 6) (G 7) (G 8) (G 9) (G 10) (G 11) (G 12) (G 13) (G 14) (G 15) (G 16) (G 17) (G 18) nC nT nR nD (G 19) (G 27) (G 28) k15).1) nC k15 nC) ((lf_M_know_15 (G 6) (G 7) (G 8) (G 9) (G 10) (G 11) (G 12) (G 13) (G 14) (G 15) (G 16) (G 17) (G 18) nC nT nR nD (G 19) (G 27) (G 28) k15).2.2) (k59 + 1) = upd (lf_M_know_59 (G 7) (G 8) (G 9) (G 10) (G 11) (G 12) nC nT nR nD k15 (mr_M_open (G 6) ((lf_M_know_15 (G 6) (G 7) (G 8) (G 9) (G 10) (G 11) (G 12) (G 13) (G 14) (G 15) (G 16) (G 17) (G 18) nC nT nR nD (G 19) (G 27) (G 28) k15).1) nC k15 nC) ((lf_M_know_15 (G 6) (G 7) (G 8) (G 9) (G 10) (G 11) (G 12) (G 13) (G 14) (G 15) (G 16) (G 17) (G 18) nC nT nR nD (G 19) (G 27) (G 28) k15).2.2) k59) ((4 * k15) + k59) (mr_M_boundOf (G 7) (G 8) (G 9) (G 10) (G 11) (G 12) (mr_M_open (G 6) ((lf_M_know_15 (G 6) (G 7) (G 8) (G 9) (G 10) (G 11) (G 12) (G 13) (G 14) (G 15) (G 16) (G 17) (G 18) nC nT nR nD (G 19) (G 27) (G 28) k15).1) nC k15 nC) nC nT (nI k59)) := by rw [lf_M_know_59]
                  exact ih59 (k59 + 1) (by omega) (by omega)  H locs (by rw [eb59]; exact hP) (by rw [eb59]; exact hD) hS ls (by exact lv_sub hl [0, 1, 2] rfl)
            exact loop59 _ 0 (Nat.zero_le _) (Nat.lt_succ_self _)  H locs hP hD hS ls (lv_sub hl [0, 1, 2] rfl)
          refine lv_if_ne (tgt := 55) hx hb dM_know_41 (by decide) (fun c41 => ?_) (fun c41 => ?_)
          · refine lv_iconst (v := 0) hx hb dM_know_55 (by decide) ?_
            exact wt_i (by rw [if_neg c41]) (j56 ls hl)
          · refine lv_aload_n hx hb dM_know_44 rfl (lv_at hl 1 rfl) ?_
            refine ro_callV (r := (.int (mr_M_passesLimits (G 7) (G 8) (G 9) (G 10) (G 11) (G 12) (G 17) (G 18) (mr_M_open (G 6) ((lf_M_know_15 (G 6) (G 7) (G 8) (G 9) (G 10) (G 11) (G 12) (G 13) (G 14) (G 15) (G 16) (G 17) (G 18) nC nT nR nD (G 19) (G 27) (G 28) k15).1) nC k15 nC) nC nT))) (As := []) (rest := [.int (nI k15), .ref (ba 27)]) Sx (c_M_passesLimits l D cl hcl a ba ka (upd F 26 1) (va_up (va_up (va_up G 19 (mr_M_open (G 6) ((lf_M_know_15 (G 6) (G 7) (G 8) (G 9) (G 10) (G 11) (G 12) (G 13) (G 14) (G 15) (G 16) (G 17) (G 18) nC nT nR nD (G 19) (G 27) (G 28) k15).1) nC k15 nC)) 27 ((lf_M_know_15 (G 6) (G 7) (G 8) (G 9) (G 10) (G 11) (G 12) (G 13) (G 14) (G 15) (G 16) (G 17) (G 18) nC nT nR nD (G 19) (G 27) (G 28) k15).2.1)) 28 ((lf_M_know_15 (G 6) (G 7) (G 8) (G 9) (G 10) (G 11) (G 12) (G 13) (G 14) (G 15) (G 16) (G 17) (G 18) nC nT nR nD (G 19) (G 27) (G 28) k15).2.2)) hP nC nT hC h3 hT h8 h10) (cwV 0 hts gM_know_M_passesLimits rfl rfl rfl (by decide +kernel) ⟨Nat.le_of_ble_eq_true rfl, Nat.le_of_ble_eq_true rfl⟩) hK (va_recv hK hP (ci := 0) (q0 := 0) hcl rfl) rfl hl.1 rfl (Nat.le_of_ble_eq_true rfl) dM_know_45 ⟨Nat.zero_le _, Nat.zero_le _⟩ ?_
            refine lv_if_ne (tgt := 55) hx hb dM_know_48 (by decide) (fun c48 => ?_) (fun c48 => ?_)
            · refine lv_iconst (v := 0) hx hb dM_know_55 (by decide) ?_
              exact wt_i (by rw [if_pos c41, if_neg c48]) (j56 ls hl)
            · refine lv_iconst (v := 1) hx hb dM_know_51 (by decide) ?_
              refine lv_goto (tgt := 56) hx hb dM_know_52 (by decide) ?_
              exact wt_i (by rw [if_pos c41, if_pos c48]) (j56 ls hl)
    exact loop15 _ 0 (Nat.zero_le _) (Nat.lt_succ_self _)  H locs hP hD hS ls (lv_sub hl [0, 1] rfl)
  · have em : mr_M_know (F 26) (G 6) (G 7) (G 8) (G 9) (G 10) (G 11) (G 12) (G 13) (G 14) (G 15) (G 16) (G 17) (G 18) (G 19) (G 27) (G 28) nC nT nR nD = (F 26, G 19, G 27, G 28) := by rw [mr_M_know, if_neg c4]
    exact hret _ _ _ _ _ (by simp only [em]; rw [upd_keep (f := F) (j := 26) (x := F 26) rfl, vup_keep (f := G) (j := 19) (x := G 19) rfl, vup_keep (f := G) (j := 27) (x := G 27) rfl, vup_keep (f := G) (j := 28) (x := G 28) rfl]) hP hD hS dM_know_7
def lf_M_nextRow_4 (g6 : Nat → Int32) (nC : Nat) (st : Nat) : Nat → Nat → (Nat → Int32) → Nat × (Nat → Int32)
  | 0, j, r => (j, r)
  | N + 1, j, r => (if (nI j - 1) < 0 then (j, r) else (if (r (j - 1)) = ((g6 (j - 1)) - 1) then lf_M_nextRow_4 g6 nC st N (j - 1) (upd r (j - 1) (-1)) else (j, r)))
def mr_M_nextRow (g6 : Nat → Int32) (g19 : Nat → Int32) (nC : Nat) (st : Nat) : Int32 × (Nat → Int32) := (if 0 ≤ (nI ((lf_M_nextRow_4 g6 nC st (st + 1) st g19).1) - 1) then (nI ((lf_M_nextRow_4 g6 nC st (st + 1) st g19).1), upd ((lf_M_nextRow_4 g6 nC st (st + 1) st g19).2) ((lf_M_nextRow_4 g6 nC st (st + 1) st g19).1 - 1) ((((lf_M_nextRow_4 g6 nC st (st + 1) st g19).2) ((lf_M_nextRow_4 g6 nC st (st + 1) st g19).1 - 1)) + 1)) else ((-1), (lf_M_nextRow_4 g6 nC st (st + 1) st g19).2))
theorem lfle_M_nextRow (g6 : Nat → Int32) (nC st : Nat) : ∀ (N j : Nat) (r : Nat → Int32), (lf_M_nextRow_4 g6 nC st N j r).1 ≤ j := by
  intro N
  induction N with
  | zero => intro j r; exact Nat.le_refl _
  | succ N ih => intro j r; rw [lf_M_nextRow_4]; repeat' first | exact Nat.le_refl _ | exact Nat.le_trans (ih _ _) (Nat.sub_le _ _) | split
theorem nx_spec (g6 : Nat → Int32) (nC st : Nat) : ∀ (N j : Nat) (r : Nat → Int32), j < N → j ≤ 65536 → (∀ c, c < (lf_M_nextRow_4 g6 nC st N j r).1 → (lf_M_nextRow_4 g6 nC st N j r).2 c = r c) ∧ ((lf_M_nextRow_4 g6 nC st N j r).1 = 0 ∨ ¬ r ((lf_M_nextRow_4 g6 nC st N j r).1 - 1) = g6 ((lf_M_nextRow_4 g6 nC st N j r).1 - 1) - 1) := by
  intro N
  induction N with
  | zero => intro j r h; exact absurd h (Nat.not_lt_zero _)
  | succ N ih =>
    intro j r hj hs
    by_cases c1 : nI j - 1 < 0
    · have h0 : j ≤ 0 := dn_neg (n := j) (k := 0) c1 hs
      rw [lf_M_nextRow_4, if_pos c1]
      exact ⟨fun c _ => rfl, Or.inl (by show j = 0; omega)⟩
    · have h0 : ¬ j ≤ 0 := dn_nneg (n := j) (k := 0) c1 hs
      by_cases c2 : r (j - 1) = g6 (j - 1) - 1
      · rw [lf_M_nextRow_4, if_neg c1, if_pos c2]
        obtain ⟨a1, a2⟩ := ih (j - 1) (upd r (j - 1) (-1)) (by omega) (by omega)
        have hle := lfle_M_nextRow g6 nC st N (j - 1) (upd r (j - 1) (-1))
        refine ⟨fun c hc => ?_, ?_⟩
        · rw [a1 c hc]; exact pk_un (by omega)
        · by_cases hz : (lf_M_nextRow_4 g6 nC st N (j - 1) (upd r (j - 1) (-1))).1 = 0
          · exact Or.inl hz
          · refine Or.inr ?_
            rcases a2 with a2 | a2
            · exact absurd a2 hz
            · rwa [pk_un (by omega)] at a2
      · rw [lf_M_nextRow_4, if_neg c1, if_neg c2]
        exact ⟨fun c _ => rfl, Or.inr c2⟩
theorem b_next {g6 : Nat → Int32} {nC : Nat} {r : Nat → Int32} {s : Nat} (hC : nC ≤ 8) (h6 : ∀ c, c < nC → ∃ z : Nat, g6 c = nI z ∧ 2 ≤ z ∧ z ≤ 6) (hs : s ≤ nC) (hr : ∀ c, c < s → ∃ v : Nat, r c = nI v ∧ v < zg g6 c) : bI g6 nC (mr_M_nextRow g6 r nC s).2 (mr_M_nextRow g6 r nC s).1 ∧ bm g6 nC (mr_M_nextRow g6 r nC s).2 (mr_M_nextRow g6 r nC s).1 < bm g6 nC r (nI s) := by
  obtain ⟨a1, a2⟩ := nx_spec g6 nC s (s + 1) s r (by omega) (by omega)
  have hle := lfle_M_nextRow g6 nC s (s + 1) s r
  generalize hq : lf_M_nextRow_4 g6 nC s (s + 1) s r = q at a1 a2 hle
  unfold mr_M_nextRow
  rw [hq, bm_at (by omega)]
  by_cases h0 : 0 ≤ nI q.1 - 1
  · have hp := up_pos h0 (by omega)
    rw [if_pos h0]
    obtain ⟨v, ev, hv⟩ := hr (q.1 - 1) (by omega)
    obtain ⟨z1, z2, z3⟩ := zg_ok h6 (c := q.1 - 1) (by omega)
    have hne : ¬ r (q.1 - 1) = g6 (q.1 - 1) - 1 := by
      rcases a2 with a2 | a2
      · omega
      · exact a2
    have hv1 : v < zg g6 (q.1 - 1) - 1 := by
      rcases Nat.lt_or_ge v (zg g6 (q.1 - 1) - 1) with h | h
      · exact h
      · exfalso
        apply hne
        rw [ev, z1, show zg g6 (q.1 - 1) = v + 1 by omega]
        exact (nI_pred v).symm
    have e2 : q.2 (q.1 - 1) = nI v := by rw [a1 _ (by omega), ev]
    have e4 : upd q.2 (q.1 - 1) (q.2 (q.1 - 1) + 1) (q.1 - 1) = nI (v + 1) := by rw [pk_us, e2, nI_1]
    refine ⟨Or.inr ⟨q.1, by omega, rfl, fun c hc => ?_⟩, ?_⟩
    · show ∃ v : Nat, upd q.2 (q.1 - 1) (q.2 (q.1 - 1) + 1) c = nI v ∧ v < zg g6 c
      by_cases h : c = q.1 - 1
      · rw [h]
        exact ⟨v + 1, e4, by omega⟩
      · rw [pk_un h, a1 c hc]
        exact hr c (by omega)
    · show bm g6 nC (upd q.2 (q.1 - 1) (q.2 (q.1 - 1) + 1)) (nI q.1) < _
      rw [bm_at (by omega)]
      have h := tr_next (z := zg g6) (r := rn r) (r' := rn (upd q.2 (q.1 - 1) (q.2 (q.1 - 1) + 1))) (n := nC) (c := q.1 - 1) (s := s) (by omega) (by unfold rn; rw [ev, nI_clamp (by omega)]; exact hv1) (by unfold rn; rw [e4, ev, nI_clamp (by omega), nI_clamp (by omega)]) (fun i hi => by unfold rn; rw [pk_un (by omega), a1 i (by omega)])
      rwa [show q.1 - 1 + 1 = q.1 by omega] at h
  · rw [if_neg h0]
    refine ⟨Or.inl rfl, ?_⟩
    show bm g6 nC q.2 (-1) < _
    have e : bm g6 nC q.2 (-1) = 0 := by unfold bm; exact if_pos (by decide)
    rw [e]
    exact tr_pos _ _ _ _
set_option maxHeartbeats 4000000 in
set_option maxRecDepth 100000 in
theorem c_M_nextRow (l : Launch) (D : va_G) (cl : List vw_C) (hcl : cl[0]? = some (RM, TM, 29)) (a : Nat) (ba : Nat → Nat) (ka : Nat → ClassId) (F : Nat → Int32) (G : Nat → Nat → Int32) {H0 : Heap} (hP : va_P D cl (mW a ba ka F G) H0) (hD : va_D (fun _ => True) (mW a ba ka F G)) (nC : Nat) (st : Nat) (hC : nC ≤ 8) (hst : st ≤ nC) : ww_Met l yM_nextRow wsM_nextRow ({ frames := 0, cells := 0, slots := 0, locals := 0 } : Room) D cl (mT ka) H0 [.ref a, .int (nI st)] (mW a ba ka F G) (some (.int ((mr_M_nextRow (G 6) (G 19) nC st).1))) (mW a ba ka F (va_up G 19 ((mr_M_nextRow (G 6) (G 19) nC st).2))) := by
  refine ww_metI (by decide) rfl (Nat.le_of_ble_eq_true rfl) hP hD ?_
  intro p e s m args below meth c Q A Sx hK hP hD hS hA ls hl hret
  obtain ⟨hx, hb, hml, hown, hts⟩ := id Sx
  have hl : lv_has ls 3 [(0, .ref a), (1, .int (nI st))] := hl
  obtain ⟨H, eH⟩ : ∃ H : Heap, H = H0 := ⟨_, rfl⟩
  obtain ⟨locs, eL⟩ : ∃ L : List Loc, L = [] := ⟨_, rfl⟩
  have hP : va_P D cl (mW a ba ka F G) H := by rw [eH]; exact hP
  have hS : va_S A H0 H locs := by rw [eH, eL]; exact hS
  rw [show W p l e ({ frames := 0, cells := 0, slots := 0, locals := 0 } : Room) s m args below meth c H0 [] 0 0 Q (F0 m 0 ls []) = W p l e ({ frames := 0, cells := 0, slots := 0, locals := 0 } : Room) s m args below meth c H locs 0 0 Q (F0 m 0 ls []) by rw [eH, eL]]
  clear eH eL
  have f54 := hts _ (List.mem_cons_of_mem _ mfM_54)
  have inM_ : ∀ w ∈ wsM0, w ∈ wsM_nextRow := fun w h => List.mem_cons_of_mem _ (inM_all w h)
  have f13 := hts _ (List.mem_cons_of_mem _ mfM_13)
  refine lv_iload_n hx hb dM_nextRow_0 rfl (lv_at hl 1 rfl) ?_
  refine lv_iconst (v := 1) hx hb dM_nextRow_1 (by decide) ?_
  refine lv_isub hx hb dM_nextRow_2 ?_
  refine lv_istore_n (lv' := [(2, .int ((nI st) - 1)), (0, .ref a), (1, .int (nI st))]) hx hb dM_nextRow_3 rfl hl (by decide) rfl (fun ls hl => ?_)
  have ex4 : ∀ (H : Heap) (locs : List Loc), va_P D cl (mW a ba ka F (va_up G 19 ((lf_M_nextRow_4 (G 6) nC st (st + 1) st (G 19)).2))) H → va_D A (mW a ba ka F (va_up G 19 ((lf_M_nextRow_4 (G 6) nC st (st + 1) st (G 19)).2))) → va_S A H0 H locs → ∀ (ls : Array Slot), lv_has ls 3 [(2, .int (nI ((lf_M_nextRow_4 (G 6) nC st (st + 1) st (G 19)).1) - 1)), (0, .ref a), (1, .int (nI st))] → W p l e ({ frames := 0, cells := 0, slots := 0, locals := 0 } : Room) s m args below meth c H locs 0 0 Q (F0 m 38 ls []) := by
    intro H locs hP hD hS ls hl
    have hRl := lfle_M_nextRow (G 6) nC st (st + 1) st (G 19)
    refine lv_iload_n hx hb dM_nextRow_38 rfl (lv_at hl 0 rfl) ?_
    refine lv_if_ge (tgt := 44) hx hb dM_nextRow_39 (by decide) (fun c39 => ?_) (fun c39 => ?_)
    · have n39 := up_pos c39 (by omega)
      refine lv_aload_n hx hb dM_nextRow_44 rfl (lv_at hl 1 rfl) ?_
      refine va_get (D := D) (ci := 0) (v := .ref (ba 19)) (C := RM) (T := TM) (N := 29) hx hb hts inM_ hown hK hP 0 rfl hcl 19 (by decide) f54 (fun _ h9 => h9) rfl dM_nextRow_45 ?_
      refine lv_iload_n hx hb dM_nextRow_48 rfl (lv_at hl 0 rfl) ?_
      refine lv_dup2_11 hx hb dM_nextRow_49 rfl rfl ?_
      have sd50 : (lf_M_nextRow_4 (G 6) nC st (st + 1) st (G 19)).1 - 1 < 8 := by omega
      have eg50 : (va_up G 19 ((lf_M_nextRow_4 (G 6) nC st (st + 1) st (G 19)).2)) 19 = (lf_M_nextRow_4 (G 6) nC st (st + 1) st (G 19)).2 := by rw [vup_us]
      refine wn_iald (f := (lf_M_nextRow_4 (G 6) nC st (st + 1) st (G 19)).2) hx hb hK hP 14 13 (congrArg (fun z : Nat → Int32 => (some ((ba 19), (.inl ((ka 19), 8, .inl z) : va_E)) : Option (Nat × va_E))) eg50) rfl ((lf_M_nextRow_4 (G 6) nC st (st + 1) st (G 19)).1 - 1) (dn_ix (n := (lf_M_nextRow_4 (G 6) nC st (st + 1) st (G 19)).1) (k := 0) (by omega)) sd50 (by decide) dM_nextRow_50 ?_
      refine lv_iconst (v := 1) hx hb dM_nextRow_51 (by decide) ?_
      refine lv_iadd hx hb dM_nextRow_52 ?_
      have sd53 : (lf_M_nextRow_4 (G 6) nC st (st + 1) st (G 19)).1 - 1 < 8 := by omega
      have eg53 : (va_up G 19 ((lf_M_nextRow_4 (G 6) nC st (st + 1) st (G 19)).2)) 19 = (lf_M_nextRow_4 (G 6) nC st (st + 1) st (G 19)).2 := by rw [vup_us]
      refine wn_iast (f := (lf_M_nextRow_4 (G 6) nC st (st + 1) st (G 19)).2) hx hb hK hP hD hS 14 13 (congrArg (fun z : Nat → Int32 => (some ((ba 19), (.inl ((ka 19), 8, .inl z) : va_E)) : Option (Nat × va_E))) eg53) rfl ((lf_M_nextRow_4 (G 6) nC st (st + 1) st (G 19)).1 - 1) (dn_ix (n := (lf_M_nextRow_4 (G 6) nC st (st + 1) st (G 19)).1) (k := 0) (by omega)) sd53 (by decide) dM_nextRow_53 (fun H locs hP hD hS => ?_)
      rw [mW_g19, vup_ow] at hP hD
      refine lv_iload_n hx hb dM_nextRow_54 rfl (lv_at hl 0 rfl) ?_
      refine lv_iconst (v := 1) hx hb dM_nextRow_55 (by decide) ?_
      refine lv_iadd hx hb dM_nextRow_56 ?_
      refine wt_i (r := nI ((lf_M_nextRow_4 (G 6) nC st (st + 1) st (G 19)).1)) (by exact up_1 _) ?_
      have em : mr_M_nextRow (G 6) (G 19) nC st = (nI ((lf_M_nextRow_4 (G 6) nC st (st + 1) st (G 19)).1), upd ((lf_M_nextRow_4 (G 6) nC st (st + 1) st (G 19)).2) ((lf_M_nextRow_4 (G 6) nC st (st + 1) st (G 19)).1 - 1) ((((lf_M_nextRow_4 (G 6) nC st (st + 1) st (G 19)).2) ((lf_M_nextRow_4 (G 6) nC st (st + 1) st (G 19)).1 - 1)) + 1)) := by rw [mr_M_nextRow, if_pos c39]
      exact hret _ _ _ _ _ _ (by simp only [em]) (by simp only [em]) hP hD hS dM_nextRow_57
    · refine lv_iconst (v := (-1)) hx hb dM_nextRow_42 (by decide) ?_
      have em : mr_M_nextRow (G 6) (G 19) nC st = ((-1), (lf_M_nextRow_4 (G 6) nC st (st + 1) st (G 19)).2) := by rw [mr_M_nextRow, if_neg c39]
      exact hret _ _ _ _ _ _ (by simp only [em]) (by simp only [em]) hP hD hS dM_nextRow_43
  have loop4 : ∀ (N4 : Nat) (j : Nat) (r : Nat → Int32), j ≤ st → j < N4 → lf_M_nextRow_4 (G 6) nC st (st + 1) st (G 19) = lf_M_nextRow_4 (G 6) nC st N4 j r → ∀ (H : Heap) (locs : List Loc), va_P D cl (mW a ba ka F (va_up G 19 r)) H → va_D A (mW a ba ka F (va_up G 19 r)) → va_S A H0 H locs → ∀ (ls : Array Slot), lv_has ls 3 [(2, .int (nI j - 1)), (0, .ref a), (1, .int (nI st))] → W p l e ({ frames := 0, cells := 0, slots := 0, locals := 0 } : Room) s m args below meth c H locs 0 0 Q (F0 m 4 ls []) := by
    intro N4
    induction N4 with
    | zero => intro j r hj hm4; exact absurd hm4 (Nat.not_lt_zero _)
    | succ N4 ih4 =>
      intro j r hj hm4 hR4 H locs hP hD hS ls hl
      refine lv_iload_n hx hb dM_nextRow_4 rfl (lv_at hl 0 rfl) ?_
      refine lv_if_lt (tgt := 38) hx hb dM_nextRow_5 (by decide) (fun c5 => ?_) (fun c5 => ?_)
      · have er4 : lf_M_nextRow_4 (G 6) nC st (N4 + 1) j r = (j, r) := by rw [lf_M_nextRow_4, if_pos c5]
        rw [er4] at hR4
        exact ex4 H locs (by rw [hR4]; exact hP) (by rw [hR4]; exact hD) hS ls (by rw [hR4]; exact lv_sub hl [0, 1, 2] rfl)
      · have n5 : ¬ j ≤ 0 := dn_nneg (n := j) (k := 0) c5 (by omega)
        refine lv_aload_n hx hb dM_nextRow_8 rfl (lv_at hl 1 rfl) ?_
        refine va_get (D := D) (ci := 0) (v := .ref (ba 19)) (C := RM) (T := TM) (N := 29) hx hb hts inM_ hown hK hP 0 rfl hcl 19 (by decide) f54 (fun _ h9 => h9) rfl dM_nextRow_9 ?_
        refine lv_iload_n hx hb dM_nextRow_12 rfl (lv_at hl 0 rfl) ?_
        have sd13 : j - 1 < 8 := by omega
        have eg13 : (va_up G 19 r) 19 = r := by rw [vup_us]
        refine wn_iald (f := r) hx hb hK hP 14 13 (congrArg (fun z : Nat → Int32 => (some ((ba 19), (.inl ((ka 19), 8, .inl z) : va_E)) : Option (Nat × va_E))) eg13) rfl (j - 1) (dn_ix (n := j) (k := 0) (by omega)) sd13 (by decide) dM_nextRow_13 ?_
        refine lv_aload_n hx hb dM_nextRow_14 rfl (lv_at hl 1 rfl) ?_
        refine va_get (D := D) (ci := 0) (v := .ref (ba 6)) (C := RM) (T := TM) (N := 29) hx hb hts inM_ hown hK hP 0 rfl hcl 6 (by decide) f13 (fun _ h9 => h9) rfl dM_nextRow_15 ?_
        refine lv_iload_n hx hb dM_nextRow_18 rfl (lv_at hl 0 rfl) ?_
        have sd19 : j - 1 < 8 := by omega
        refine wn_iald (f := G 6) hx hb hK hP 1 0 rfl rfl (j - 1) (dn_ix (n := j) (k := 0) (by omega)) sd19 (by decide) dM_nextRow_19 ?_
        refine lv_iconst (v := 1) hx hb dM_nextRow_20 (by decide) ?_
        refine lv_isub hx hb dM_nextRow_21 ?_
        refine lv_icmp_ne (tgt := 38) hx hb dM_nextRow_22 (by decide) (fun c22 => ?_) (fun c22 => ?_)
        · have er4 : lf_M_nextRow_4 (G 6) nC st (N4 + 1) j r = (j, r) := by rw [lf_M_nextRow_4, if_neg c5, if_neg c22]
          rw [er4] at hR4
          exact ex4 H locs (by rw [hR4]; exact hP) (by rw [hR4]; exact hD) hS ls (by rw [hR4]; exact lv_sub hl [0, 1, 2] rfl)
        · refine lv_aload_n hx hb dM_nextRow_25 rfl (lv_at hl 1 rfl) ?_
          refine va_get (D := D) (ci := 0) (v := .ref (ba 19)) (C := RM) (T := TM) (N := 29) hx hb hts inM_ hown hK hP 0 rfl hcl 19 (by decide) f54 (fun _ h9 => h9) rfl dM_nextRow_26 ?_
          refine lv_iload_n hx hb dM_nextRow_29 rfl (lv_at hl 0 rfl) ?_
          refine lv_iconst (v := (-1)) hx hb dM_nextRow_30 (by decide) ?_
          have sd31 : j - 1 < 8 := by omega
          have eg31 : (va_up G 19 r) 19 = r := by rw [vup_us]
          refine wn_iast (f := r) hx hb hK hP hD hS 14 13 (congrArg (fun z : Nat → Int32 => (some ((ba 19), (.inl ((ka 19), 8, .inl z) : va_E)) : Option (Nat × va_E))) eg31) rfl (j - 1) (dn_ix (n := j) (k := 0) (by omega)) sd31 (by decide) dM_nextRow_31 (fun H locs hP hD hS => ?_)
          rw [mW_g19, vup_ow] at hP hD
          refine lv_iinc (v := nI (j - 1) - 1) (lv' := [(2, .int (nI (j - 1) - 1)), (0, .ref a), (1, .int (nI st))]) hx hb dM_nextRow_32 hl (k := 0) rfl (by exact dn_dec (n := j) (k := 0) (by omega)) (by decide) rfl (fun ls hl => ?_)
          refine lv_goto (tgt := 4) hx hb dM_nextRow_35 (by decide) ?_
          have er4 : lf_M_nextRow_4 (G 6) nC st (N4 + 1) j r = lf_M_nextRow_4 (G 6) nC st N4 (j - 1) (upd r (j - 1) (-1)) := by rw [lf_M_nextRow_4, if_neg c5, if_pos c22]
          exact ih4 (j - 1) (upd r (j - 1) (-1)) (by omega) (by omega) (hR4.trans er4) H locs hP hD hS ls (lv_sub hl [0, 1, 2] rfl)
  exact loop4 (st + 1) st (G 19) (by omega) (by omega) rfl H locs hP hD hS ls (lv_sub hl [0, 1, 2] rfl)
def lf_M_nearOf_26 (g6 : Nat → Int32) (g19 : Nat → Int32) (nC : Nat) (d : Nat) (q : Int32) (c_ : Nat) (qg19_26 : Nat → Int32) (K : Nat → Int32 → (Int32 × (Nat → Int32))) : Nat → Nat → Int32 → (Int32 × (Nat → Int32))
  | 0, v_, le_ => (0, g19)
  | N + 1, v_, le_ => (if (nI (g6 c_).toNatClampNeg) ≤ (nI v_) then K (c_ + 1) le_ else (if (nI v_) = (qg19_26 c_) then lf_M_nearOf_26 g6 g19 nC d q c_ qg19_26 K N (v_ + 1) le_ else (if le_ = 0 then (mr_M_closed g6 (upd qg19_26 c_ (nI v_)) nC, upd qg19_26 c_ (nI v_)) else lf_M_nearOf_26 g6 g19 nC d q c_ qg19_26 K N (v_ + 1) (le_ + (-1)))))
def lf_M_nearOf_14 (g6 : Nat → Int32) (g19 : Nat → Int32) (nC : Nat) (d : Nat) (q : Int32) (qg19_14 : Nat → Int32) : Nat → Nat → Int32 → (Int32 × (Nat → Int32))
  | 0, c_, lf_ => (0, g19)
  | N + 1, c_, lf_ => (if (nI nC) ≤ (nI c_) then ((-1), qg19_14) else lf_M_nearOf_26 g6 g19 nC d q c_ qg19_14 (fun c__ lf__ => lf_M_nearOf_14 g6 g19 nC d q qg19_14 N c__ lf__) 7 0 lf_)
def mr_M_nearOf (g6 : Nat → Int32) (g19 : Nat → Int32) (nC : Nat) (d : Nat) (q : Int32) : Int32 × (Nat → Int32) := lf_M_nearOf_14 g6 g19 nC d q (mr_M_open g6 g19 nC d nC) (nC + 1) 0 q
set_option maxHeartbeats 4000000 in
set_option maxRecDepth 100000 in
theorem c_M_nearOf (l : Launch) (D : va_G) (cl : List vw_C) (hcl : cl[0]? = some (RM, TM, 29)) (a : Nat) (ba : Nat → Nat) (ka : Nat → ClassId) (F : Nat → Int32) (G : Nat → Nat → Int32) {H0 : Heap} (hP : va_P D cl (mW a ba ka F G) H0) (hD : va_D (fun _ => True) (mW a ba ka F G)) (nC : Nat) (d : Nat) (q : Int32) (h2 : F 2 = nI nC) (hC : nC ≤ 8) (h6 : ∀ c, c < nC → ∃ z : Nat, G 6 c = nI z ∧ 2 ≤ z ∧ z ≤ 6) : ww_Met l yM_nearOf wsM_nearOf ({ frames := 1, cells := 0, slots := 0, locals := 24 } : Room) D cl (mT ka) H0 [.ref a, .int (nI d), .int q] (mW a ba ka F G) (some (.int ((mr_M_nearOf (G 6) (G 19) nC d q).1))) (mW a ba ka F (va_up G 19 ((mr_M_nearOf (G 6) (G 19) nC d q).2))) := by
  refine ww_metI (by decide) rfl (Nat.le_of_ble_eq_true rfl) hP hD ?_
  intro p e s m args below meth c Q A Sx hK hP hD hS hA ls hl hret
  obtain ⟨hx, hb, hml, hown, hts⟩ := id Sx
  have hl : lv_has ls 6 [(0, .ref a), (1, .int (nI d)), (2, .int q)] := hl
  obtain ⟨H, eH⟩ : ∃ H : Heap, H = H0 := ⟨_, rfl⟩
  obtain ⟨locs, eL⟩ : ∃ L : List Loc, L = [] := ⟨_, rfl⟩
  have hP : va_P D cl (mW a ba ka F G) H := by rw [eH]; exact hP
  have hS : va_S A H0 H locs := by rw [eH, eL]; exact hS
  rw [show W p l e ({ frames := 1, cells := 0, slots := 0, locals := 24 } : Room) s m args below meth c H0 [] 0 0 Q (F0 m 0 ls []) = W p l e ({ frames := 1, cells := 0, slots := 0, locals := 24 } : Room) s m args below meth c H locs 0 0 Q (F0 m 0 ls []) by rw [eH, eL]]
  clear eH eL
  have f81 := hts _ (List.mem_cons_of_mem _ mfM_81)
  have inM_ : ∀ w ∈ wsM0, w ∈ wsM_nearOf := fun w h => List.mem_cons_of_mem _ (inM_all w h)
  have f13 := hts _ (List.mem_cons_of_mem _ mfM_13)
  have f54 := hts _ (List.mem_cons_of_mem _ mfM_54)
  refine lv_aload_n hx hb dM_nearOf_0 rfl (lv_at hl 0 rfl) ?_
  refine lv_iload_n hx hb dM_nearOf_1 rfl (lv_at hl 1 rfl) ?_
  refine lv_aload_n hx hb dM_nearOf_2 rfl (lv_at hl 0 rfl) ?_
  refine va_get (D := D) (ci := 0) (v := .int (F 2)) (C := RM) (T := TM) (N := 29) hx hb hts inM_ hown hK hP 0 rfl hcl 2 (by decide) f81 (fun _ h9 => h9) rfl dM_nearOf_3 ?_
  refine wt_i h2 ?_
  refine ww_callV (r := none) (w' := mW a ba ka F (va_up G 19 (mr_M_open (G 6) (G 19) nC d nC))) (As := [.int (nI d), .int (nI nC)]) (rest := []) Sx (c_M_open l D cl hcl a ba ka F G hP (hD.weaken (fun _ _ _ _ => trivial)) nC d nC h2 hC h6 hC) (cwV 2 hts gM_nearOf_M_open rfl rfl rfl (by decide +kernel) ⟨Nat.le_of_ble_eq_true rfl, Nat.le_of_ble_eq_true rfl⟩) hK (va_recv hK hP (ci := 0) (q0 := 0) hcl rfl) rfl hl.1 rfl (Nat.le_of_ble_eq_true rfl) dM_nearOf_6 ⟨Nat.zero_le _, Nat.zero_le _⟩ hD hS hA (fun H locs hP hD hS => ?_)
  refine lv_iload_n hx hb dM_nearOf_9 rfl (lv_at hl 2 rfl) ?_
  refine lv_istore_n (lv' := [(3, .int q), (0, .ref a), (1, .int (nI d)), (2, .int q)]) hx hb dM_nearOf_10 rfl hl (by decide) rfl (fun ls hl => ?_)
  refine lv_iconst (v := 0) hx hb dM_nearOf_11 (by decide) ?_
  refine lv_istore (lv' := [(4, .int 0), (3, .int q), (0, .ref a), (1, .int (nI d)), (2, .int q)]) hx hb dM_nearOf_12 hl (by decide) rfl (fun ls hl => ?_)
  have loop14 : ∀ (N14 : Nat) (c_ : Nat) (lf_ : Int32), c_ ≤ nC → nC - c_ < N14 → lf_M_nearOf_14 (G 6) (G 19) nC d q (mr_M_open (G 6) (G 19) nC d nC) (nC + 1) 0 q = lf_M_nearOf_14 (G 6) (G 19) nC d q (mr_M_open (G 6) (G 19) nC d nC) N14 c_ lf_ → ∀ (H : Heap) (locs : List Loc), va_P D cl (mW a ba ka F (va_up G 19 (mr_M_open (G 6) (G 19) nC d nC))) H → va_D A (mW a ba ka F (va_up G 19 (mr_M_open (G 6) (G 19) nC d nC))) → va_S A H0 H locs → ∀ (ls : Array Slot), lv_has ls 6 [(4, .int (nI c_)), (3, .int lf_), (0, .ref a), (1, .int (nI d)), (2, .int q)] → W p l e ({ frames := 1, cells := 0, slots := 0, locals := 24 } : Room) s m args below meth c H locs 0 0 Q (F0 m 14 ls []) := by
    intro N14
    induction N14 with
    | zero => intro c_ lf_ hc hm14; exact absurd hm14 (Nat.not_lt_zero _)
    | succ N14 ih14 =>
      intro c_ lf_ hc hm14 hR14 H locs hP hD hS ls hl
      refine lv_iload hx hb dM_nearOf_14 (lv_at hl 0 rfl) ?_
      refine lv_aload_n hx hb dM_nearOf_16 rfl (lv_at hl 2 rfl) ?_
      refine va_get (D := D) (ci := 0) (v := .int (F 2)) (C := RM) (T := TM) (N := 29) hx hb hts inM_ hown hK hP 0 rfl hcl 2 (by decide) f81 (fun _ h9 => h9) rfl dM_nearOf_17 ?_
      refine wt_i h2 ?_
      refine lv_icmp_ge (tgt := 83) hx hb dM_nearOf_20 (by decide) (fun c20 => ?_) (fun c20 => ?_)
      · have n20 : nC ≤ c_ := (nI_leI (a := nC) (b := c_) (by omega) (by omega)).mp c20
        refine lv_iconst (v := (-1)) hx hb dM_nearOf_83 (by decide) ?_
        have em : mr_M_nearOf (G 6) (G 19) nC d q = ((-1), mr_M_open (G 6) (G 19) nC d nC) := by rw [mr_M_nearOf, hR14, lf_M_nearOf_14, if_pos c20]
        exact hret _ _ _ _ _ _ (by simp only [em]) (by simp only [em]) hP hD hS dM_nearOf_84
      · have n20 : ¬ nC ≤ c_ := fun h9 => c20 ((nI_leI (a := nC) (b := c_) (by omega) (by omega)).mpr h9)
        obtain ⟨z, ez, hz1, hz2⟩ := h6 c_ (by omega)
        have xz : G 6 c_ = nI (G 6 c_).toNatClampNeg ∧ (G 6 c_).toNatClampNeg < 7 := ix_cl ⟨z, by omega, ez⟩ (by omega)
        refine lv_iconst (v := 0) hx hb dM_nearOf_23 (by decide) ?_
        refine lv_istore (lv' := [(5, .int 0), (4, .int (nI c_)), (3, .int lf_), (0, .ref a), (1, .int (nI d)), (2, .int q)]) hx hb dM_nearOf_24 hl (by decide) rfl (fun ls hl => ?_)
        have loop26 : ∀ (N26 : Nat) (v_ : Nat) (le_ : Int32), v_ ≤ 6 → 6 - v_ < N26 → lf_M_nearOf_26 (G 6) (G 19) nC d q c_ (mr_M_open (G 6) (G 19) nC d nC) (fun c__ lf__ => lf_M_nearOf_14 (G 6) (G 19) nC d q (mr_M_open (G 6) (G 19) nC d nC) N14 c__ lf__) 7 0 lf_ = lf_M_nearOf_26 (G 6) (G 19) nC d q c_ (mr_M_open (G 6) (G 19) nC d nC) (fun c__ lf__ => lf_M_nearOf_14 (G 6) (G 19) nC d q (mr_M_open (G 6) (G 19) nC d nC) N14 c__ lf__) N26 v_ le_ → ∀ (H : Heap) (locs : List Loc), va_P D cl (mW a ba ka F (va_up G 19 (mr_M_open (G 6) (G 19) nC d nC))) H → va_D A (mW a ba ka F (va_up G 19 (mr_M_open (G 6) (G 19) nC d nC))) → va_S A H0 H locs → ∀ (ls : Array Slot), lv_has ls 6 [(5, .int (nI v_)), (4, .int (nI c_)), (3, .int le_), (0, .ref a), (1, .int (nI d)), (2, .int q)] → W p l e ({ frames := 1, cells := 0, slots := 0, locals := 24 } : Room) s m args below meth c H locs 0 0 Q (F0 m 26 ls []) := by
          intro N26
          induction N26 with
          | zero => intro v_ le_ hv hm26; exact absurd hm26 (Nat.not_lt_zero _)
          | succ N26 ih26 =>
            intro v_ le_ hv hm26 hR26 H locs hP hD hS ls hl
            refine lv_iload hx hb dM_nearOf_26 (lv_at hl 0 rfl) ?_
            refine lv_aload_n hx hb dM_nearOf_28 rfl (lv_at hl 3 rfl) ?_
            refine va_get (D := D) (ci := 0) (v := .ref (ba 6)) (C := RM) (T := TM) (N := 29) hx hb hts inM_ hown hK hP 0 rfl hcl 6 (by decide) f13 (fun _ h9 => h9) rfl dM_nearOf_29 ?_
            refine lv_iload hx hb dM_nearOf_32 (lv_at hl 1 rfl) ?_
            have sd34 : c_ < 8 := by omega
            refine wn_iald (f := G 6) hx hb hK hP 1 0 rfl rfl c_ rfl sd34 (by decide) dM_nearOf_34 ?_
            refine wt_i (r := nI (G 6 c_).toNatClampNeg) (by exact xz.1) ?_
            refine lv_icmp_ge (tgt := 77) hx hb dM_nearOf_35 (by decide) (fun c35 => ?_) (fun c35 => ?_)
            · have n35 : ((G 6 c_).toNatClampNeg) ≤ v_ := (nI_leI (a := ((G 6 c_).toNatClampNeg)) (b := v_) (by omega) (by omega)).mp c35
              refine lv_iinc (v := nI (c_ + 1)) (lv' := [(4, .int (nI (c_ + 1))), (5, .int (nI v_)), (3, .int le_), (0, .ref a), (1, .int (nI d)), (2, .int q)]) hx hb dM_nearOf_77 hl (k := 1) rfl (by exact ii_1 c_) (by decide) rfl (fun ls hl => ?_)
              refine lv_goto (tgt := 14) hx hb dM_nearOf_80 (by decide) ?_
              have er14 : lf_M_nearOf_14 (G 6) (G 19) nC d q (mr_M_open (G 6) (G 19) nC d nC) (N14 + 1) c_ lf_ = lf_M_nearOf_14 (G 6) (G 19) nC d q (mr_M_open (G 6) (G 19) nC d nC) N14 (c_ + 1) le_ := by rw [lf_M_nearOf_14, if_neg c20, hR26, lf_M_nearOf_26, if_pos c35]
              exact ih14 (c_ + 1) le_ (by omega) (by omega) (hR14.trans er14) H locs hP hD hS ls (lv_sub hl [0, 2, 3, 4, 5] rfl)
            · have n35 : ¬ ((G 6 c_).toNatClampNeg) ≤ v_ := fun h9 => c35 ((nI_leI (a := ((G 6 c_).toNatClampNeg)) (b := v_) (by omega) (by omega)).mpr h9)
              refine lv_iload hx hb dM_nearOf_38 (lv_at hl 0 rfl) ?_
              refine lv_aload_n hx hb dM_nearOf_40 rfl (lv_at hl 3 rfl) ?_
              refine va_get (D := D) (ci := 0) (v := .ref (ba 19)) (C := RM) (T := TM) (N := 29) hx hb hts inM_ hown hK hP 0 rfl hcl 19 (by decide) f54 (fun _ h9 => h9) rfl dM_nearOf_41 ?_
              refine lv_iload hx hb dM_nearOf_44 (lv_at hl 1 rfl) ?_
              have sd46 : c_ < 8 := by omega
              have eg46 : (va_up G 19 (mr_M_open (G 6) (G 19) nC d nC)) 19 = mr_M_open (G 6) (G 19) nC d nC := by rw [vup_us]
              refine wn_iald (f := mr_M_open (G 6) (G 19) nC d nC) hx hb hK hP 14 13 (congrArg (fun z : Nat → Int32 => (some ((ba 19), (.inl ((ka 19), 8, .inl z) : va_E)) : Option (Nat × va_E))) eg46) rfl c_ rfl sd46 (by decide) dM_nearOf_46 ?_
              refine lv_icmp_eq (tgt := 71) hx hb dM_nearOf_47 (by decide) (fun c47 => ?_) (fun c47 => ?_)
              · refine lv_iinc (v := nI (v_ + 1)) (lv' := [(5, .int (nI (v_ + 1))), (4, .int (nI c_)), (3, .int le_), (0, .ref a), (1, .int (nI d)), (2, .int q)]) hx hb dM_nearOf_71 hl (k := 0) rfl (by exact ii_1 v_) (by decide) rfl (fun ls hl => ?_)
                refine lv_goto (tgt := 26) hx hb dM_nearOf_74 (by decide) ?_
                have er26 : lf_M_nearOf_26 (G 6) (G 19) nC d q c_ (mr_M_open (G 6) (G 19) nC d nC) (fun c__ lf__ => lf_M_nearOf_14 (G 6) (G 19) nC d q (mr_M_open (G 6) (G 19) nC d nC) N14 c__ lf__) (N26 + 1) v_ le_ = lf_M_nearOf_26 (G 6) (G 19) nC d q c_ (mr_M_open (G 6) (G 19) nC d nC) (fun c__ lf__ => lf_M_nearOf_14 (G 6) (G 19) nC d q (mr_M_open (G 6) (G 19) nC d nC) N14 c__ lf__) N26 (v_ + 1) le_ := by rw [lf_M_nearOf_26, if_neg c35, if_pos c47]
                exact ih26 (v_ + 1) le_ (by omega) (by omega) (hR26.trans er26) H locs hP hD hS ls (lv_sub hl [0, 1, 2, 3, 4, 5] rfl)
              · refine lv_iload_n hx hb dM_nearOf_50 rfl (lv_at hl 2 rfl) ?_
                refine lv_if_ne (tgt := 68) hx hb dM_nearOf_51 (by decide) (fun c51 => ?_) (fun c51 => ?_)
                · refine lv_iinc (v := le_ + (-1)) (lv' := [(3, .int (le_ + (-1))), (5, .int (nI v_)), (4, .int (nI c_)), (0, .ref a), (1, .int (nI d)), (2, .int q)]) hx hb dM_nearOf_68 hl (k := 2) rfl (by exact rfl) (by decide) rfl (fun ls hl => ?_)
                  refine lv_iinc (v := nI (v_ + 1)) (lv' := [(5, .int (nI (v_ + 1))), (3, .int (le_ + (-1))), (4, .int (nI c_)), (0, .ref a), (1, .int (nI d)), (2, .int q)]) hx hb dM_nearOf_71 hl (k := 1) rfl (by exact ii_1 v_) (by decide) rfl (fun ls hl => ?_)
                  refine lv_goto (tgt := 26) hx hb dM_nearOf_74 (by decide) ?_
                  have er26 : lf_M_nearOf_26 (G 6) (G 19) nC d q c_ (mr_M_open (G 6) (G 19) nC d nC) (fun c__ lf__ => lf_M_nearOf_14 (G 6) (G 19) nC d q (mr_M_open (G 6) (G 19) nC d nC) N14 c__ lf__) (N26 + 1) v_ le_ = lf_M_nearOf_26 (G 6) (G 19) nC d q c_ (mr_M_open (G 6) (G 19) nC d nC) (fun c__ lf__ => lf_M_nearOf_14 (G 6) (G 19) nC d q (mr_M_open (G 6) (G 19) nC d nC) N14 c__ lf__) N26 (v_ + 1) (le_ + (-1)) := by rw [lf_M_nearOf_26, if_neg c35, if_neg c47, if_neg c51]
                  exact ih26 (v_ + 1) (le_ + (-1)) (by omega) (by omega) (hR26.trans er26) H locs hP hD hS ls (lv_sub hl [0, 2, 1, 3, 4, 5] rfl)
                · refine lv_aload_n hx hb dM_nearOf_54 rfl (lv_at hl 3 rfl) ?_
                  refine va_get (D := D) (ci := 0) (v := .ref (ba 19)) (C := RM) (T := TM) (N := 29) hx hb hts inM_ hown hK hP 0 rfl hcl 19 (by decide) f54 (fun _ h9 => h9) rfl dM_nearOf_55 ?_
                  refine lv_iload hx hb dM_nearOf_58 (lv_at hl 1 rfl) ?_
                  refine lv_iload hx hb dM_nearOf_60 (lv_at hl 0 rfl) ?_
                  have sd62 : c_ < 8 := by omega
                  have eg62 : (va_up G 19 (mr_M_open (G 6) (G 19) nC d nC)) 19 = mr_M_open (G 6) (G 19) nC d nC := by rw [vup_us]
                  refine wn_iast (f := mr_M_open (G 6) (G 19) nC d nC) hx hb hK hP hD hS 14 13 (congrArg (fun z : Nat → Int32 => (some ((ba 19), (.inl ((ka 19), 8, .inl z) : va_E)) : Option (Nat × va_E))) eg62) rfl c_ rfl sd62 (by decide) dM_nearOf_62 (fun H locs hP hD hS => ?_)
                  rw [mW_g19, vup_ow] at hP hD
                  refine lv_aload_n hx hb dM_nearOf_63 rfl (lv_at hl 3 rfl) ?_
                  refine ro_callV (r := (.int (mr_M_closed (G 6) (upd (mr_M_open (G 6) (G 19) nC d nC) c_ (nI v_)) nC))) (As := []) (rest := []) Sx (c_M_closed l D cl hcl a ba ka F (va_up G 19 (upd (mr_M_open (G 6) (G 19) nC d nC) c_ (nI v_))) hP nC h2 hC) (cwV 0 hts gM_nearOf_M_closed rfl rfl rfl (by decide +kernel) ⟨Nat.le_of_ble_eq_true rfl, Nat.le_of_ble_eq_true rfl⟩) hK (va_recv hK hP (ci := 0) (q0 := 0) hcl rfl) rfl hl.1 rfl (Nat.le_of_ble_eq_true rfl) dM_nearOf_64 ⟨Nat.zero_le _, Nat.zero_le _⟩ ?_
                  have em : mr_M_nearOf (G 6) (G 19) nC d q = (mr_M_closed (G 6) (upd (mr_M_open (G 6) (G 19) nC d nC) c_ (nI v_)) nC, upd (mr_M_open (G 6) (G 19) nC d nC) c_ (nI v_)) := by rw [mr_M_nearOf, hR14, lf_M_nearOf_14, if_neg c20, hR26, lf_M_nearOf_26, if_neg c35, if_neg c47, if_pos c51]
                  exact hret _ _ _ _ _ _ (by simp only [em]) (by simp only [em]) hP hD hS dM_nearOf_67
        exact loop26 7 0 lf_ (by omega) (by omega) rfl H locs hP hD hS ls (lv_sub hl [0, 1, 2, 3, 4, 5] rfl)
  exact loop14 (nC + 1) 0 q (by omega) (by omega) rfl H locs hP hD hS ls (lv_sub hl [0, 1, 2, 3, 4] rfl)
