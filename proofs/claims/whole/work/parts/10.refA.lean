def mr_M_thrown (f0 : Int32) : Int32 := f0
set_option maxHeartbeats 4000000 in
set_option maxRecDepth 100000 in
theorem c_M_thrown (l : Launch) (D : va_G) (cl : List vw_C) (hcl : cl[0]? = some (RM, TM, 29)) (a : Nat) (ba : Nat → Nat) (ka : Nat → ClassId) (F : Nat → Int32) (G : Nat → Nat → Int32) {H : Heap} (hP : va_P D cl (mW a ba ka F G) H) : ro_Met l yM_thrown wsM_thrown ({ frames := 0, cells := 0, slots := 0, locals := 0 } : Room) D cl (mT ka) H [.ref a] (.int (mr_M_thrown (F 0))) := by
  refine ro_metI (by decide) rfl (Nat.le_of_ble_eq_true rfl) ?_
  intro p e s m args below meth c Q Sx hK ls hl hret
  obtain ⟨hx, hb, hml, hown, hts⟩ := id Sx
  have hl : lv_has ls 1 [(0, .ref a)] := hl
  have f70 := hts _ (List.mem_cons_of_mem _ mfM_70)
  have inM_ : ∀ w ∈ wsM0, w ∈ wsM_thrown := fun w h => List.mem_cons_of_mem _ (inM_all w h)
  refine lv_aload_n hx hb dM_thrown_0 rfl (lv_at hl 0 rfl) ?_
  refine va_get (D := D) (ci := 0) (v := .int (F 0)) (C := RM) (T := TM) (N := 29) hx hb hts inM_ hown hK hP 0 rfl hcl 0 (by decide) f70 (fun _ h9 => h9) rfl dM_thrown_1 ?_
  exact hret _ _ _ (by rw [mr_M_thrown]) dM_thrown_4
def mr_M_within (v : Int32) (lo : Int32) (hi : Int32) : Int32 := ((if v < lo then 0 else (if hi < v then 0 else 1)) : Int32)
set_option maxHeartbeats 4000000 in
set_option maxRecDepth 100000 in
theorem c_M_within (l : Launch) (D : va_G) (cl : List vw_C) (hcl : cl[0]? = some (RM, TM, 29)) (a : Nat) (ba : Nat → Nat) (ka : Nat → ClassId) (F : Nat → Int32) (G : Nat → Nat → Int32) {H : Heap} (hP : va_P D cl (mW a ba ka F G) H) (v : Int32) (lo : Int32) (hi : Int32) : ro_Met l yM_within wsM_within ({ frames := 0, cells := 0, slots := 0, locals := 0 } : Room) D cl (mT ka) H [.int v, .int lo, .int hi] (.int (mr_M_within v lo hi)) := by
  refine ro_metZ (by unfold mr_M_within; repeat' first | refine zb_i ?_ ?_ | exact zb_0 | exact zb_1) (by decide) rfl (Nat.le_of_ble_eq_true rfl) ?_
  intro p e s m args below meth c Q Sx hK ls hl hret
  obtain ⟨hx, hb, hml, hown, hts⟩ := id Sx
  have hl : lv_has ls 3 [(0, .int v), (1, .int lo), (2, .int hi)] := hl
  refine lv_iload_n hx hb dM_within_0 rfl (lv_at hl 0 rfl) ?_
  refine lv_iload_n hx hb dM_within_1 rfl (lv_at hl 1 rfl) ?_
  have j15 : ∀ (ls : Array Slot), lv_has ls 3 [(0, .int v), (1, .int lo), (2, .int hi)] → W p l e ({ frames := 0, cells := 0, slots := 0, locals := 0 } : Room) s m args below meth c H [] 0 0 Q (F0 m 15 ls [.int ((if v < lo then 0 else (if hi < v then 0 else 1)) : Int32)]) := by
    intro ls hl
    exact hret _ _ _ (by rw [mr_M_within]) dM_within_15
  refine lv_icmp_lt (tgt := 14) hx hb dM_within_2 (by decide) (fun c2 => ?_) (fun c2 => ?_)
  · refine lv_iconst (v := 0) hx hb dM_within_14 (by decide) ?_
    exact wt_i (by rw [if_pos c2]) (j15 ls hl)
  · refine lv_iload_n hx hb dM_within_5 rfl (lv_at hl 0 rfl) ?_
    refine lv_iload_n hx hb dM_within_6 rfl (lv_at hl 2 rfl) ?_
    refine lv_icmp_gt (tgt := 14) hx hb dM_within_7 (by decide) (fun c7 => ?_) (fun c7 => ?_)
    · refine lv_iconst (v := 0) hx hb dM_within_14 (by decide) ?_
      exact wt_i (by rw [if_neg c2, if_pos c7]) (j15 ls hl)
    · refine lv_iconst (v := 1) hx hb dM_within_10 (by decide) ?_
      refine lv_goto (tgt := 15) hx hb dM_within_11 (by decide) ?_
      exact wt_i (by rw [if_neg c2, if_neg c7]) (j15 ls hl)
def mr_M_fail (cd : Int32) : Int32 × Int32 := (0, cd)
set_option maxHeartbeats 4000000 in
set_option maxRecDepth 100000 in
theorem c_M_fail (l : Launch) (D : va_G) (cl : List vw_C) (hcl : cl[0]? = some (RM, TM, 29)) (a : Nat) (ba : Nat → Nat) (ka : Nat → ClassId) (F : Nat → Int32) (G : Nat → Nat → Int32) {H0 : Heap} (hP : va_P D cl (mW a ba ka F G) H0) (hD : va_D (fun _ => True) (mW a ba ka F G)) (cd : Int32) : ww_Met l yM_fail wsM_fail ({ frames := 0, cells := 0, slots := 0, locals := 0 } : Room) D cl (mT ka) H0 [.ref a, .int cd] (mW a ba ka F G) (some (.int ((mr_M_fail cd).1))) (mW a ba ka (upd F 0 ((mr_M_fail cd).2)) G) := by
  refine ww_metI (by decide) rfl (Nat.le_of_ble_eq_true rfl) hP hD ?_
  intro p e s m args below meth c Q A Sx hK hP hD hS hA ls hl hret
  obtain ⟨hx, hb, hml, hown, hts⟩ := id Sx
  have hl : lv_has ls 2 [(0, .ref a), (1, .int cd)] := hl
  obtain ⟨H, eH⟩ : ∃ H : Heap, H = H0 := ⟨_, rfl⟩
  obtain ⟨locs, eL⟩ : ∃ L : List Loc, L = [] := ⟨_, rfl⟩
  have hP : va_P D cl (mW a ba ka F G) H := by rw [eH]; exact hP
  have hS : va_S A H0 H locs := by rw [eH, eL]; exact hS
  rw [show W p l e ({ frames := 0, cells := 0, slots := 0, locals := 0 } : Room) s m args below meth c H0 [] 0 0 Q (F0 m 0 ls []) = W p l e ({ frames := 0, cells := 0, slots := 0, locals := 0 } : Room) s m args below meth c H locs 0 0 Q (F0 m 0 ls []) by rw [eH, eL]]
  clear eH eL
  have f70 := hts _ (List.mem_cons_of_mem _ mfM_70)
  have inM_ : ∀ w ∈ wsM0, w ∈ wsM_fail := fun w h => List.mem_cons_of_mem _ (inM_all w h)
  refine lv_aload_n hx hb dM_fail_0 rfl (lv_at hl 0 rfl) ?_
  refine lv_iload_n hx hb dM_fail_1 rfl (lv_at hl 1 rfl) ?_
  refine va_put (D := D) (ci := 0) (fs := mWl0 ba F) (v := .int cd) (ty := .int) (C := RM) (T := TM) (N := 29) hx hb hts inM_ tyM tyM_ok nmM hown hK hP hD hS 0 rfl hcl 0 (by decide) f70 (fun _ h9 => h9) rfl (by decide +kernel) rfl rfl (Nat.le_of_ble_eq_true rfl) dM_fail_2 (fun H locs hP hD hS => ?_)
  rw [mW_f0] at hP hD
  refine lv_iconst (v := 0) hx hb dM_fail_5 (by decide) ?_
  have em : mr_M_fail cd = (0, cd) := by rw [mr_M_fail]
  exact hret _ _ _ _ _ _ (by simp only [em]) (by simp only [em]) hP hD hS dM_fail_6
def lf_M_isBarred_4 (g13 : Nat → Int32) (g14 : Nat → Int32) (g15 : Nat → Int32) (g16 : Nat → Int32) (g19 : Nat → Int32) (nC : Nat) (nR : Nat) (i0 : Int32) : Nat → Int32
  | 0 => i0
  | k4 + 1 => ((if (lf_M_isBarred_4 g13 g14 g15 g16 g19 nC nR i0 k4) = 0 then (if (g19 ((g13 k4).toNatClampNeg)) = (g14 k4) then (if (g19 ((g15 k4).toNatClampNeg)) = (g16 k4) then 1 else 0) else 0) else 1) : Int32)
def mr_M_isBarred (g13 : Nat → Int32) (g14 : Nat → Int32) (g15 : Nat → Int32) (g16 : Nat → Int32) (g19 : Nat → Int32) (nC : Nat) (nR : Nat) : Int32 := (lf_M_isBarred_4 g13 g14 g15 g16 g19 nC nR 0 nR)
theorem zb_M_isBarred (g13 g14 g15 g16 g19 : Nat → Int32) (nC nR n : Nat) : narrow .boolean (.int (lf_M_isBarred_4 g13 g14 g15 g16 g19 nC nR 0 n)) = .int (lf_M_isBarred_4 g13 g14 g15 g16 g19 nC nR 0 n) := by
  cases n with
  | zero => rw [lf_M_isBarred_4]; rfl
  | succ n => rw [lf_M_isBarred_4]; repeat' first | refine zb_i ?_ ?_ | exact zb_0 | exact zb_1
set_option maxHeartbeats 4000000 in
set_option maxRecDepth 100000 in
theorem c_M_isBarred (l : Launch) (D : va_G) (cl : List vw_C) (hcl : cl[0]? = some (RM, TM, 29)) (a : Nat) (ba : Nat → Nat) (ka : Nat → ClassId) (F : Nat → Int32) (G : Nat → Nat → Int32) {H : Heap} (hP : va_P D cl (mW a ba ka F G) H) (nC : Nat) (nR : Nat) (hC : nC ≤ 8) (h4 : F 4 = nI nR) (hR : nR ≤ 40) (h13 : ∀ j, j < nR → ∃ x : Nat, x < nC ∧ G 13 j = nI x) (h15 : ∀ j, j < nR → ∃ x : Nat, x < nC ∧ G 15 j = nI x) : ro_Met l yM_isBarred wsM_isBarred ({ frames := 0, cells := 0, slots := 0, locals := 0 } : Room) D cl (mT ka) H [.ref a] (.int (mr_M_isBarred (G 13) (G 14) (G 15) (G 16) (G 19) nC nR)) := by
  refine ro_metZ (by exact zb_M_isBarred _ _ _ _ _ _ _ _) (by decide) rfl (Nat.le_of_ble_eq_true rfl) ?_
  intro p e s m args below meth c Q Sx hK ls hl hret
  obtain ⟨hx, hb, hml, hown, hts⟩ := id Sx
  have hl : lv_has ls 3 [(0, .ref a)] := hl
  have f103 := hts _ (List.mem_cons_of_mem _ mfM_103)
  have inM_ : ∀ w ∈ wsM0, w ∈ wsM_isBarred := fun w h => List.mem_cons_of_mem _ (inM_all w h)
  have f54 := hts _ (List.mem_cons_of_mem _ mfM_54)
  have f35 := hts _ (List.mem_cons_of_mem _ mfM_35)
  have f38 := hts _ (List.mem_cons_of_mem _ mfM_38)
  have f41 := hts _ (List.mem_cons_of_mem _ mfM_41)
  have f44 := hts _ (List.mem_cons_of_mem _ mfM_44)
  refine lv_iconst (v := 0) hx hb dM_isBarred_0 (by decide) ?_
  refine lv_istore_n (lv' := [(1, .int 0), (0, .ref a)]) hx hb dM_isBarred_1 rfl hl (by decide) rfl (fun ls hl => ?_)
  refine lv_iconst (v := 0) hx hb dM_isBarred_2 (by decide) ?_
  refine lv_istore_n (lv' := [(2, .int 0), (1, .int 0), (0, .ref a)]) hx hb dM_isBarred_3 rfl hl (by decide) rfl (fun ls hl => ?_)
  have loop4 : ∀ (N4 k4 : Nat), k4 ≤ nR → nR - k4 < N4 → ∀ (ls : Array Slot), lv_has ls 3 [(2, .int (nI k4)), (1, .int (lf_M_isBarred_4 (G 13) (G 14) (G 15) (G 16) (G 19) nC nR 0 k4)), (0, .ref a)] → W p l e ({ frames := 0, cells := 0, slots := 0, locals := 0 } : Room) s m args below meth c H [] 0 0 Q (F0 m 4 ls []) := by
    intro N4
    induction N4 with
    | zero => intro k4 hk4 hm4; exact absurd hm4 (Nat.not_lt_zero _)
    | succ N4 ih4 =>
      intro k4 hk4 hm4  ls hl
      refine lv_iload_n hx hb dM_isBarred_4 rfl (lv_at hl 0 rfl) ?_
      refine lv_aload_n hx hb dM_isBarred_5 rfl (lv_at hl 2 rfl) ?_
      refine va_get (D := D) (ci := 0) (v := .int (F 4)) (C := RM) (T := TM) (N := 29) hx hb hts inM_ hown hK hP 0 rfl hcl 4 (by decide) f103 (fun _ h9 => h9) rfl dM_isBarred_6 ?_
      refine wt_i h4 ?_
      refine lv_icmp_ge (tgt := 68) hx hb dM_isBarred_9 (by decide) (fun c9 => ?_) (fun c9 => ?_)
      · have n9 : nR ≤ k4 := (nI_leI (a := nR) (b := k4) (by omega) (by omega)).mp c9
        have hx4 : nR = k4 := by omega
        subst hx4
        refine lv_iload_n hx hb dM_isBarred_68 rfl (lv_at hl 1 rfl) ?_
        exact hret _ _ _ (by rw [mr_M_isBarred]) dM_isBarred_69
      · have n9 : ¬ nR ≤ k4 := fun h9 => c9 ((nI_leI (a := nR) (b := k4) (by omega) (by omega)).mpr h9)
        refine lv_iload_n hx hb dM_isBarred_12 rfl (lv_at hl 1 rfl) ?_
        have j61 : ∀ (ls : Array Slot), lv_has ls 3 [(2, .int (nI k4)), (1, .int (lf_M_isBarred_4 (G 13) (G 14) (G 15) (G 16) (G 19) nC nR 0 k4)), (0, .ref a)] → W p l e ({ frames := 0, cells := 0, slots := 0, locals := 0 } : Room) s m args below meth c H [] 0 0 Q (F0 m 61 ls [.int ((if (lf_M_isBarred_4 (G 13) (G 14) (G 15) (G 16) (G 19) nC nR 0 k4) = 0 then (if (G 19 ((G 13 k4).toNatClampNeg)) = (G 14 k4) then (if (G 19 ((G 15 k4).toNatClampNeg)) = (G 16 k4) then 1 else 0) else 0) else 1) : Int32)]) := by
          intro ls hl
          refine lv_istore_n (lv' := [(1, .int ((if (lf_M_isBarred_4 (G 13) (G 14) (G 15) (G 16) (G 19) nC nR 0 k4) = 0 then (if (G 19 ((G 13 k4).toNatClampNeg)) = (G 14 k4) then (if (G 19 ((G 15 k4).toNatClampNeg)) = (G 16 k4) then 1 else 0) else 0) else 1) : Int32)), (2, .int (nI k4)), (0, .ref a)]) hx hb dM_isBarred_61 rfl hl (by decide) rfl (fun ls hl => ?_)
          refine lv_iinc (v := nI (k4 + 1)) (lv' := [(2, .int (nI (k4 + 1))), (1, .int ((if (lf_M_isBarred_4 (G 13) (G 14) (G 15) (G 16) (G 19) nC nR 0 k4) = 0 then (if (G 19 ((G 13 k4).toNatClampNeg)) = (G 14 k4) then (if (G 19 ((G 15 k4).toNatClampNeg)) = (G 16 k4) then 1 else 0) else 0) else 1) : Int32)), (0, .ref a)]) hx hb dM_isBarred_62 hl (k := 1) rfl (by exact ii_1 k4) (by decide) rfl (fun ls hl => ?_)
          refine lv_goto (tgt := 4) hx hb dM_isBarred_65 (by decide) ?_
          have eb4 : lf_M_isBarred_4 (G 13) (G 14) (G 15) (G 16) (G 19) nC nR 0 (k4 + 1) = ((if (lf_M_isBarred_4 (G 13) (G 14) (G 15) (G 16) (G 19) nC nR 0 k4) = 0 then (if (G 19 ((G 13 k4).toNatClampNeg)) = (G 14 k4) then (if (G 19 ((G 15 k4).toNatClampNeg)) = (G 16 k4) then 1 else 0) else 0) else 1) : Int32) := by rw [lf_M_isBarred_4]
          exact ih4 (k4 + 1) (by omega) (by omega)  ls (by rw [eb4]; exact lv_sub hl [0, 1, 2] rfl)
        refine lv_if_ne (tgt := 56) hx hb dM_isBarred_13 (by decide) (fun c13 => ?_) (fun c13 => ?_)
        · refine lv_iconst (v := 1) hx hb dM_isBarred_56 (by decide) ?_
          refine lv_goto (tgt := 61) hx hb dM_isBarred_57 (by decide) ?_
          exact wt_i (by rw [if_neg c13]) (j61 ls hl)
        · have xa := ix_cl (h13 k4 (by omega)) (by omega)
          have xb := ix_cl (h15 k4 (by omega)) (by omega)
          refine lv_aload_n hx hb dM_isBarred_16 rfl (lv_at hl 2 rfl) ?_
          refine va_get (D := D) (ci := 0) (v := .ref (ba 19)) (C := RM) (T := TM) (N := 29) hx hb hts inM_ hown hK hP 0 rfl hcl 19 (by decide) f54 (fun _ h9 => h9) rfl dM_isBarred_17 ?_
          refine lv_aload_n hx hb dM_isBarred_20 rfl (lv_at hl 2 rfl) ?_
          refine va_get (D := D) (ci := 0) (v := .ref (ba 13)) (C := RM) (T := TM) (N := 29) hx hb hts inM_ hown hK hP 0 rfl hcl 13 (by decide) f35 (fun _ h9 => h9) rfl dM_isBarred_21 ?_
          refine lv_iload_n hx hb dM_isBarred_24 rfl (lv_at hl 0 rfl) ?_
          have sd25 : k4 < 40 := by omega
          refine wn_iald (f := G 13) hx hb hK hP 8 7 rfl rfl k4 rfl sd25 (by decide) dM_isBarred_25 ?_
          have sd26 : (G 13 k4).toNatClampNeg < 8 := by have := xa.2; omega
          refine wn_iald (f := G 19) hx hb hK hP 14 13 rfl rfl ((G 13 k4).toNatClampNeg) xa.1 sd26 (by decide) dM_isBarred_26 ?_
          refine lv_aload_n hx hb dM_isBarred_27 rfl (lv_at hl 2 rfl) ?_
          refine va_get (D := D) (ci := 0) (v := .ref (ba 14)) (C := RM) (T := TM) (N := 29) hx hb hts inM_ hown hK hP 0 rfl hcl 14 (by decide) f38 (fun _ h9 => h9) rfl dM_isBarred_28 ?_
          refine lv_iload_n hx hb dM_isBarred_31 rfl (lv_at hl 0 rfl) ?_
          have sd32 : k4 < 40 := by omega
          refine wn_iald (f := G 14) hx hb hK hP 9 8 rfl rfl k4 rfl sd32 (by decide) dM_isBarred_32 ?_
          refine lv_icmp_ne (tgt := 60) hx hb dM_isBarred_33 (by decide) (fun c33 => ?_) (fun c33 => ?_)
          · refine lv_iconst (v := 0) hx hb dM_isBarred_60 (by decide) ?_
            exact wt_i (by rw [if_pos c13, if_neg c33]) (j61 ls hl)
          · refine lv_aload_n hx hb dM_isBarred_36 rfl (lv_at hl 2 rfl) ?_
            refine va_get (D := D) (ci := 0) (v := .ref (ba 19)) (C := RM) (T := TM) (N := 29) hx hb hts inM_ hown hK hP 0 rfl hcl 19 (by decide) f54 (fun _ h9 => h9) rfl dM_isBarred_37 ?_
            refine lv_aload_n hx hb dM_isBarred_40 rfl (lv_at hl 2 rfl) ?_
            refine va_get (D := D) (ci := 0) (v := .ref (ba 15)) (C := RM) (T := TM) (N := 29) hx hb hts inM_ hown hK hP 0 rfl hcl 15 (by decide) f41 (fun _ h9 => h9) rfl dM_isBarred_41 ?_
            refine lv_iload_n hx hb dM_isBarred_44 rfl (lv_at hl 0 rfl) ?_
            have sd45 : k4 < 40 := by omega
            refine wn_iald (f := G 15) hx hb hK hP 10 9 rfl rfl k4 rfl sd45 (by decide) dM_isBarred_45 ?_
            have sd46 : (G 15 k4).toNatClampNeg < 8 := by have := xb.2; omega
            refine wn_iald (f := G 19) hx hb hK hP 14 13 rfl rfl ((G 15 k4).toNatClampNeg) xb.1 sd46 (by decide) dM_isBarred_46 ?_
            refine lv_aload_n hx hb dM_isBarred_47 rfl (lv_at hl 2 rfl) ?_
            refine va_get (D := D) (ci := 0) (v := .ref (ba 16)) (C := RM) (T := TM) (N := 29) hx hb hts inM_ hown hK hP 0 rfl hcl 16 (by decide) f44 (fun _ h9 => h9) rfl dM_isBarred_48 ?_
            refine lv_iload_n hx hb dM_isBarred_51 rfl (lv_at hl 0 rfl) ?_
            have sd52 : k4 < 40 := by omega
            refine wn_iald (f := G 16) hx hb hK hP 11 10 rfl rfl k4 rfl sd52 (by decide) dM_isBarred_52 ?_
            refine lv_icmp_ne (tgt := 60) hx hb dM_isBarred_53 (by decide) (fun c53 => ?_) (fun c53 => ?_)
            · refine lv_iconst (v := 0) hx hb dM_isBarred_60 (by decide) ?_
              exact wt_i (by rw [if_pos c13, if_pos c33, if_neg c53]) (j61 ls hl)
            · refine lv_iconst (v := 1) hx hb dM_isBarred_56 (by decide) ?_
              refine lv_goto (tgt := 61) hx hb dM_isBarred_57 (by decide) ?_
              exact wt_i (by rw [if_pos c13, if_pos c33, if_pos c53]) (j61 ls hl)
  exact loop4 _ 0 (Nat.zero_le _) (Nat.lt_succ_self _)  ls (lv_sub hl [0, 1, 2] rfl)
def mr_M_counts (g8 : Nat → Int32) (g9 : Nat → Int32) (g10 : Nat → Int32) (g11 : Nat → Int32) (g19 : Nat → Int32) (nC : Nat) (nT : Nat) (t : Nat) : Int32 := ((if ((if ((if (g19 ((g8 t).toNatClampNeg)) = (g9 t) then 1 else 0) : Int32) = 0 then (if 0 ≤ (g19 ((g8 t).toNatClampNeg)) then 1 else (if ((if (g10 t) < 0 then 1 else (if (g19 ((g10 t).toNatClampNeg)) = (g11 t) then 1 else 0)) : Int32) = 0 then (if (g19 ((g10 t).toNatClampNeg)) < 0 then 0 else 1) else 0)) else (if ((if (g10 t) < 0 then 1 else (if (g19 ((g10 t).toNatClampNeg)) = (g11 t) then 1 else 0)) : Int32) = 0 then (if (g19 ((g10 t).toNatClampNeg)) < 0 then 0 else 1) else 0)) : Int32) = 0 then (if ((if (g19 ((g8 t).toNatClampNeg)) = (g9 t) then 1 else 0) : Int32) = 0 then 0 else (if ((if (g10 t) < 0 then 1 else (if (g19 ((g10 t).toNatClampNeg)) = (g11 t) then 1 else 0)) : Int32) = 0 then 0 else 1)) else (-1)) : Int32)
set_option maxHeartbeats 4000000 in
set_option maxRecDepth 100000 in
theorem c_M_counts (l : Launch) (D : va_G) (cl : List vw_C) (hcl : cl[0]? = some (RM, TM, 29)) (a : Nat) (ba : Nat → Nat) (ka : Nat → ClassId) (F : Nat → Int32) (G : Nat → Nat → Int32) {H : Heap} (hP : va_P D cl (mW a ba ka F G) H) (nC : Nat) (nT : Nat) (t : Nat) (hC : nC ≤ 8) (hT : nT ≤ 100) (h8 : ∀ t, t < nT → ∃ x : Nat, x < nC ∧ G 8 t = nI x) (h10 : ∀ t, t < nT → G 10 t = -1 ∨ ∃ x : Nat, x < nC ∧ G 10 t = nI x) (ht : t < nT) : ro_Met l yM_counts wsM_counts ({ frames := 0, cells := 0, slots := 0, locals := 0 } : Room) D cl (mT ka) H [.ref a, .int (nI t)] (.int (mr_M_counts (G 8) (G 9) (G 10) (G 11) (G 19) nC nT t)) := by
  refine ro_metI (by decide) rfl (Nat.le_of_ble_eq_true rfl) ?_
  intro p e s m args below meth c Q Sx hK ls hl hret
  obtain ⟨hx, hb, hml, hown, hts⟩ := id Sx
  have hl : lv_has ls 5 [(0, .ref a), (1, .int (nI t))] := hl
  have f54 := hts _ (List.mem_cons_of_mem _ mfM_54)
  have inM_ : ∀ w ∈ wsM0, w ∈ wsM_counts := fun w h => List.mem_cons_of_mem _ (inM_all w h)
  have f20 := hts _ (List.mem_cons_of_mem _ mfM_20)
  have f23 := hts _ (List.mem_cons_of_mem _ mfM_23)
  have f26 := hts _ (List.mem_cons_of_mem _ mfM_26)
  have f29 := hts _ (List.mem_cons_of_mem _ mfM_29)
  have xa := ix_cl (h8 t ht) (by omega)
  refine lv_aload_n hx hb dM_counts_0 rfl (lv_at hl 0 rfl) ?_
  refine va_get (D := D) (ci := 0) (v := .ref (ba 19)) (C := RM) (T := TM) (N := 29) hx hb hts inM_ hown hK hP 0 rfl hcl 19 (by decide) f54 (fun _ h9 => h9) rfl dM_counts_1 ?_
  refine lv_aload_n hx hb dM_counts_4 rfl (lv_at hl 0 rfl) ?_
  refine va_get (D := D) (ci := 0) (v := .ref (ba 8)) (C := RM) (T := TM) (N := 29) hx hb hts inM_ hown hK hP 0 rfl hcl 8 (by decide) f20 (fun _ h9 => h9) rfl dM_counts_5 ?_
  refine lv_iload_n hx hb dM_counts_8 rfl (lv_at hl 1 rfl) ?_
  have sd9 : t < 100 := by omega
  refine wn_iald (f := G 8) hx hb hK hP 3 2 rfl rfl t rfl sd9 (by decide) dM_counts_9 ?_
  have sd10 : (G 8 t).toNatClampNeg < 8 := by have := xa.2; omega
  refine wn_iald (f := G 19) hx hb hK hP 14 13 rfl rfl ((G 8 t).toNatClampNeg) xa.1 sd10 (by decide) dM_counts_10 ?_
  refine lv_aload_n hx hb dM_counts_11 rfl (lv_at hl 0 rfl) ?_
  refine va_get (D := D) (ci := 0) (v := .ref (ba 9)) (C := RM) (T := TM) (N := 29) hx hb hts inM_ hown hK hP 0 rfl hcl 9 (by decide) f23 (fun _ h9 => h9) rfl dM_counts_12 ?_
  refine lv_iload_n hx hb dM_counts_15 rfl (lv_at hl 1 rfl) ?_
  have sd16 : t < 100 := by omega
  refine wn_iald (f := G 9) hx hb hK hP 4 3 rfl rfl t rfl sd16 (by decide) dM_counts_16 ?_
  have j25 : ∀ (ls : Array Slot), lv_has ls 5 [(0, .ref a), (1, .int (nI t))] → W p l e ({ frames := 0, cells := 0, slots := 0, locals := 0 } : Room) s m args below meth c H [] 0 0 Q (F0 m 25 ls [.int ((if (G 19 ((G 8 t).toNatClampNeg)) = (G 9 t) then 1 else 0) : Int32)]) := by
    intro ls hl
    refine lv_istore_n (lv' := [(2, .int ((if (G 19 ((G 8 t).toNatClampNeg)) = (G 9 t) then 1 else 0) : Int32)), (0, .ref a), (1, .int (nI t))]) hx hb dM_counts_25 rfl hl (by decide) rfl (fun ls hl => ?_)
    refine lv_aload_n hx hb dM_counts_26 rfl (lv_at hl 1 rfl) ?_
    refine va_get (D := D) (ci := 0) (v := .ref (ba 10)) (C := RM) (T := TM) (N := 29) hx hb hts inM_ hown hK hP 0 rfl hcl 10 (by decide) f26 (fun _ h9 => h9) rfl dM_counts_27 ?_
    refine lv_iload_n hx hb dM_counts_30 rfl (lv_at hl 2 rfl) ?_
    have sd31 : t < 100 := by omega
    refine wn_iald (f := G 10) hx hb hK hP 5 4 rfl rfl t rfl sd31 (by decide) dM_counts_31 ?_
    have j60 : ∀ (ls : Array Slot), lv_has ls 5 [(2, .int ((if (G 19 ((G 8 t).toNatClampNeg)) = (G 9 t) then 1 else 0) : Int32)), (0, .ref a), (1, .int (nI t))] → W p l e ({ frames := 0, cells := 0, slots := 0, locals := 0 } : Room) s m args below meth c H [] 0 0 Q (F0 m 60 ls [.int ((if (G 10 t) < 0 then 1 else (if (G 19 ((G 10 t).toNatClampNeg)) = (G 11 t) then 1 else 0)) : Int32)]) := by
      intro ls hl
      refine lv_istore_n (lv' := [(3, .int ((if (G 10 t) < 0 then 1 else (if (G 19 ((G 10 t).toNatClampNeg)) = (G 11 t) then 1 else 0)) : Int32)), (2, .int ((if (G 19 ((G 8 t).toNatClampNeg)) = (G 9 t) then 1 else 0) : Int32)), (0, .ref a), (1, .int (nI t))]) hx hb dM_counts_60 rfl hl (by decide) rfl (fun ls hl => ?_)
      refine lv_iload_n hx hb dM_counts_61 rfl (lv_at hl 1 rfl) ?_
      have j102 : ∀ (ls : Array Slot), lv_has ls 5 [(3, .int ((if (G 10 t) < 0 then 1 else (if (G 19 ((G 10 t).toNatClampNeg)) = (G 11 t) then 1 else 0)) : Int32)), (2, .int ((if (G 19 ((G 8 t).toNatClampNeg)) = (G 9 t) then 1 else 0) : Int32)), (0, .ref a), (1, .int (nI t))] → W p l e ({ frames := 0, cells := 0, slots := 0, locals := 0 } : Room) s m args below meth c H [] 0 0 Q (F0 m 102 ls [.int ((if ((if (G 19 ((G 8 t).toNatClampNeg)) = (G 9 t) then 1 else 0) : Int32) = 0 then (if 0 ≤ (G 19 ((G 8 t).toNatClampNeg)) then 1 else (if ((if (G 10 t) < 0 then 1 else (if (G 19 ((G 10 t).toNatClampNeg)) = (G 11 t) then 1 else 0)) : Int32) = 0 then (if (G 19 ((G 10 t).toNatClampNeg)) < 0 then 0 else 1) else 0)) else (if ((if (G 10 t) < 0 then 1 else (if (G 19 ((G 10 t).toNatClampNeg)) = (G 11 t) then 1 else 0)) : Int32) = 0 then (if (G 19 ((G 10 t).toNatClampNeg)) < 0 then 0 else 1) else 0)) : Int32)]) := by
        intro ls hl
        refine lv_istore (lv' := [(4, .int ((if ((if (G 19 ((G 8 t).toNatClampNeg)) = (G 9 t) then 1 else 0) : Int32) = 0 then (if 0 ≤ (G 19 ((G 8 t).toNatClampNeg)) then 1 else (if ((if (G 10 t) < 0 then 1 else (if (G 19 ((G 10 t).toNatClampNeg)) = (G 11 t) then 1 else 0)) : Int32) = 0 then (if (G 19 ((G 10 t).toNatClampNeg)) < 0 then 0 else 1) else 0)) else (if ((if (G 10 t) < 0 then 1 else (if (G 19 ((G 10 t).toNatClampNeg)) = (G 11 t) then 1 else 0)) : Int32) = 0 then (if (G 19 ((G 10 t).toNatClampNeg)) < 0 then 0 else 1) else 0)) : Int32)), (3, .int ((if (G 10 t) < 0 then 1 else (if (G 19 ((G 10 t).toNatClampNeg)) = (G 11 t) then 1 else 0)) : Int32)), (2, .int ((if (G 19 ((G 8 t).toNatClampNeg)) = (G 9 t) then 1 else 0) : Int32)), (0, .ref a), (1, .int (nI t))]) hx hb dM_counts_102 hl (by decide) rfl (fun ls hl => ?_)
        refine lv_iload hx hb dM_counts_104 (lv_at hl 0 rfl) ?_
        have j126 : ∀ (ls : Array Slot), lv_has ls 5 [(4, .int ((if ((if (G 19 ((G 8 t).toNatClampNeg)) = (G 9 t) then 1 else 0) : Int32) = 0 then (if 0 ≤ (G 19 ((G 8 t).toNatClampNeg)) then 1 else (if ((if (G 10 t) < 0 then 1 else (if (G 19 ((G 10 t).toNatClampNeg)) = (G 11 t) then 1 else 0)) : Int32) = 0 then (if (G 19 ((G 10 t).toNatClampNeg)) < 0 then 0 else 1) else 0)) else (if ((if (G 10 t) < 0 then 1 else (if (G 19 ((G 10 t).toNatClampNeg)) = (G 11 t) then 1 else 0)) : Int32) = 0 then (if (G 19 ((G 10 t).toNatClampNeg)) < 0 then 0 else 1) else 0)) : Int32)), (3, .int ((if (G 10 t) < 0 then 1 else (if (G 19 ((G 10 t).toNatClampNeg)) = (G 11 t) then 1 else 0)) : Int32)), (2, .int ((if (G 19 ((G 8 t).toNatClampNeg)) = (G 9 t) then 1 else 0) : Int32)), (0, .ref a), (1, .int (nI t))] → W p l e ({ frames := 0, cells := 0, slots := 0, locals := 0 } : Room) s m args below meth c H [] 0 0 Q (F0 m 126 ls [.int ((if ((if ((if (G 19 ((G 8 t).toNatClampNeg)) = (G 9 t) then 1 else 0) : Int32) = 0 then (if 0 ≤ (G 19 ((G 8 t).toNatClampNeg)) then 1 else (if ((if (G 10 t) < 0 then 1 else (if (G 19 ((G 10 t).toNatClampNeg)) = (G 11 t) then 1 else 0)) : Int32) = 0 then (if (G 19 ((G 10 t).toNatClampNeg)) < 0 then 0 else 1) else 0)) else (if ((if (G 10 t) < 0 then 1 else (if (G 19 ((G 10 t).toNatClampNeg)) = (G 11 t) then 1 else 0)) : Int32) = 0 then (if (G 19 ((G 10 t).toNatClampNeg)) < 0 then 0 else 1) else 0)) : Int32) = 0 then (if ((if (G 19 ((G 8 t).toNatClampNeg)) = (G 9 t) then 1 else 0) : Int32) = 0 then 0 else (if ((if (G 10 t) < 0 then 1 else (if (G 19 ((G 10 t).toNatClampNeg)) = (G 11 t) then 1 else 0)) : Int32) = 0 then 0 else 1)) else (-1)) : Int32)]) := by
          intro ls hl
          exact hret _ _ _ (by rw [mr_M_counts]) dM_counts_126
        refine lv_if_eq (tgt := 113) hx hb dM_counts_106 (by decide) (fun c106 => ?_) (fun c106 => ?_)
        · refine lv_iload_n hx hb dM_counts_113 rfl (lv_at hl 2 rfl) ?_
          refine lv_if_eq (tgt := 125) hx hb dM_counts_114 (by decide) (fun c114 => ?_) (fun c114 => ?_)
          · refine lv_iconst (v := 0) hx hb dM_counts_125 (by decide) ?_
            exact wt_i (by rw [if_pos c106, if_pos c114]) (j126 ls hl)
          · refine lv_iload_n hx hb dM_counts_117 rfl (lv_at hl 1 rfl) ?_
            refine lv_if_eq (tgt := 125) hx hb dM_counts_118 (by decide) (fun c118 => ?_) (fun c118 => ?_)
            · refine lv_iconst (v := 0) hx hb dM_counts_125 (by decide) ?_
              exact wt_i (by rw [if_pos c106, if_neg c114, if_pos c118]) (j126 ls hl)
            · refine lv_iconst (v := 1) hx hb dM_counts_121 (by decide) ?_
              refine lv_goto (tgt := 126) hx hb dM_counts_122 (by decide) ?_
              exact wt_i (by rw [if_pos c106, if_neg c114, if_neg c118]) (j126 ls hl)
        · refine lv_iconst (v := (-1)) hx hb dM_counts_109 (by decide) ?_
          refine lv_goto (tgt := 126) hx hb dM_counts_110 (by decide) ?_
          exact wt_i (by rw [if_neg c106]) (j126 ls hl)
      refine lv_if_ne (tgt := 79) hx hb dM_counts_62 (by decide) (fun c62 => ?_) (fun c62 => ?_)
      · refine lv_iload_n hx hb dM_counts_79 rfl (lv_at hl 0 rfl) ?_
        refine lv_if_ne (tgt := 101) hx hb dM_counts_80 (by decide) (fun c80 => ?_) (fun c80 => ?_)
        · refine lv_iconst (v := 0) hx hb dM_counts_101 (by decide) ?_
          exact wt_i (by rw [if_neg c62, if_neg c80]) (j102 ls hl)
        · have xb := ix_cl (ix_nn (h10 t ht) (bq_b c80)) (by omega)
          refine lv_aload_n hx hb dM_counts_83 rfl (lv_at hl 2 rfl) ?_
          refine va_get (D := D) (ci := 0) (v := .ref (ba 19)) (C := RM) (T := TM) (N := 29) hx hb hts inM_ hown hK hP 0 rfl hcl 19 (by decide) f54 (fun _ h9 => h9) rfl dM_counts_84 ?_
          refine lv_aload_n hx hb dM_counts_87 rfl (lv_at hl 2 rfl) ?_
          refine va_get (D := D) (ci := 0) (v := .ref (ba 10)) (C := RM) (T := TM) (N := 29) hx hb hts inM_ hown hK hP 0 rfl hcl 10 (by decide) f26 (fun _ h9 => h9) rfl dM_counts_88 ?_
          refine lv_iload_n hx hb dM_counts_91 rfl (lv_at hl 3 rfl) ?_
          have sd92 : t < 100 := by omega
          refine wn_iald (f := G 10) hx hb hK hP 5 4 rfl rfl t rfl sd92 (by decide) dM_counts_92 ?_
          have sd93 : (G 10 t).toNatClampNeg < 8 := by have := xb.2; omega
          refine wn_iald (f := G 19) hx hb hK hP 14 13 rfl rfl ((G 10 t).toNatClampNeg) xb.1 sd93 (by decide) dM_counts_93 ?_
          refine lv_if_lt (tgt := 101) hx hb dM_counts_94 (by decide) (fun c94 => ?_) (fun c94 => ?_)
          · refine lv_iconst (v := 0) hx hb dM_counts_101 (by decide) ?_
            exact wt_i (by rw [if_neg c62, if_pos c80, if_pos c94]) (j102 ls hl)
          · refine lv_iconst (v := 1) hx hb dM_counts_97 (by decide) ?_
            refine lv_goto (tgt := 102) hx hb dM_counts_98 (by decide) ?_
            exact wt_i (by rw [if_neg c62, if_pos c80, if_neg c94]) (j102 ls hl)
      · refine lv_aload_n hx hb dM_counts_65 rfl (lv_at hl 2 rfl) ?_
        refine va_get (D := D) (ci := 0) (v := .ref (ba 19)) (C := RM) (T := TM) (N := 29) hx hb hts inM_ hown hK hP 0 rfl hcl 19 (by decide) f54 (fun _ h9 => h9) rfl dM_counts_66 ?_
        refine lv_aload_n hx hb dM_counts_69 rfl (lv_at hl 2 rfl) ?_
        refine va_get (D := D) (ci := 0) (v := .ref (ba 8)) (C := RM) (T := TM) (N := 29) hx hb hts inM_ hown hK hP 0 rfl hcl 8 (by decide) f20 (fun _ h9 => h9) rfl dM_counts_70 ?_
        refine lv_iload_n hx hb dM_counts_73 rfl (lv_at hl 3 rfl) ?_
        have sd74 : t < 100 := by omega
        refine wn_iald (f := G 8) hx hb hK hP 3 2 rfl rfl t rfl sd74 (by decide) dM_counts_74 ?_
        have sd75 : (G 8 t).toNatClampNeg < 8 := by have := xa.2; omega
        refine wn_iald (f := G 19) hx hb hK hP 14 13 rfl rfl ((G 8 t).toNatClampNeg) xa.1 sd75 (by decide) dM_counts_75 ?_
        refine lv_if_ge (tgt := 97) hx hb dM_counts_76 (by decide) (fun c76 => ?_) (fun c76 => ?_)
        · refine lv_iconst (v := 1) hx hb dM_counts_97 (by decide) ?_
          refine lv_goto (tgt := 102) hx hb dM_counts_98 (by decide) ?_
          exact wt_i (by rw [if_pos c62, if_pos c76]) (j102 ls hl)
        · refine lv_iload_n hx hb dM_counts_79 rfl (lv_at hl 0 rfl) ?_
          refine lv_if_ne (tgt := 101) hx hb dM_counts_80 (by decide) (fun c80 => ?_) (fun c80 => ?_)
          · refine lv_iconst (v := 0) hx hb dM_counts_101 (by decide) ?_
            exact wt_i (by rw [if_pos c62, if_neg c76, if_neg c80]) (j102 ls hl)
          · have xb := ix_cl (ix_nn (h10 t ht) (bq_b c80)) (by omega)
            refine lv_aload_n hx hb dM_counts_83 rfl (lv_at hl 2 rfl) ?_
            refine va_get (D := D) (ci := 0) (v := .ref (ba 19)) (C := RM) (T := TM) (N := 29) hx hb hts inM_ hown hK hP 0 rfl hcl 19 (by decide) f54 (fun _ h9 => h9) rfl dM_counts_84 ?_
            refine lv_aload_n hx hb dM_counts_87 rfl (lv_at hl 2 rfl) ?_
            refine va_get (D := D) (ci := 0) (v := .ref (ba 10)) (C := RM) (T := TM) (N := 29) hx hb hts inM_ hown hK hP 0 rfl hcl 10 (by decide) f26 (fun _ h9 => h9) rfl dM_counts_88 ?_
            refine lv_iload_n hx hb dM_counts_91 rfl (lv_at hl 3 rfl) ?_
            have sd92 : t < 100 := by omega
            refine wn_iald (f := G 10) hx hb hK hP 5 4 rfl rfl t rfl sd92 (by decide) dM_counts_92 ?_
            have sd93 : (G 10 t).toNatClampNeg < 8 := by have := xb.2; omega
            refine wn_iald (f := G 19) hx hb hK hP 14 13 rfl rfl ((G 10 t).toNatClampNeg) xb.1 sd93 (by decide) dM_counts_93 ?_
            refine lv_if_lt (tgt := 101) hx hb dM_counts_94 (by decide) (fun c94 => ?_) (fun c94 => ?_)
            · refine lv_iconst (v := 0) hx hb dM_counts_101 (by decide) ?_
              exact wt_i (by rw [if_pos c62, if_neg c76, if_pos c80, if_pos c94]) (j102 ls hl)
            · refine lv_iconst (v := 1) hx hb dM_counts_97 (by decide) ?_
              refine lv_goto (tgt := 102) hx hb dM_counts_98 (by decide) ?_
              exact wt_i (by rw [if_pos c62, if_neg c76, if_pos c80, if_neg c94]) (j102 ls hl)
    refine lv_if_lt (tgt := 55) hx hb dM_counts_32 (by decide) (fun c32 => ?_) (fun c32 => ?_)
    · refine lv_iconst (v := 1) hx hb dM_counts_55 (by decide) ?_
      refine lv_goto (tgt := 60) hx hb dM_counts_56 (by decide) ?_
      exact wt_i (by rw [if_pos c32]) (j60 ls hl)
    · have xb := ix_cl (ix_nn (h10 t ht) c32) (by omega)
      refine lv_aload_n hx hb dM_counts_35 rfl (lv_at hl 1 rfl) ?_
      refine va_get (D := D) (ci := 0) (v := .ref (ba 19)) (C := RM) (T := TM) (N := 29) hx hb hts inM_ hown hK hP 0 rfl hcl 19 (by decide) f54 (fun _ h9 => h9) rfl dM_counts_36 ?_
      refine lv_aload_n hx hb dM_counts_39 rfl (lv_at hl 1 rfl) ?_
      refine va_get (D := D) (ci := 0) (v := .ref (ba 10)) (C := RM) (T := TM) (N := 29) hx hb hts inM_ hown hK hP 0 rfl hcl 10 (by decide) f26 (fun _ h9 => h9) rfl dM_counts_40 ?_
      refine lv_iload_n hx hb dM_counts_43 rfl (lv_at hl 2 rfl) ?_
      have sd44 : t < 100 := by omega
      refine wn_iald (f := G 10) hx hb hK hP 5 4 rfl rfl t rfl sd44 (by decide) dM_counts_44 ?_
      have sd45 : (G 10 t).toNatClampNeg < 8 := by have := xb.2; omega
      refine wn_iald (f := G 19) hx hb hK hP 14 13 rfl rfl ((G 10 t).toNatClampNeg) xb.1 sd45 (by decide) dM_counts_45 ?_
      refine lv_aload_n hx hb dM_counts_46 rfl (lv_at hl 1 rfl) ?_
      refine va_get (D := D) (ci := 0) (v := .ref (ba 11)) (C := RM) (T := TM) (N := 29) hx hb hts inM_ hown hK hP 0 rfl hcl 11 (by decide) f29 (fun _ h9 => h9) rfl dM_counts_47 ?_
      refine lv_iload_n hx hb dM_counts_50 rfl (lv_at hl 2 rfl) ?_
      have sd51 : t < 100 := by omega
      refine wn_iald (f := G 11) hx hb hK hP 6 5 rfl rfl t rfl sd51 (by decide) dM_counts_51 ?_
      refine lv_icmp_ne (tgt := 59) hx hb dM_counts_52 (by decide) (fun c52 => ?_) (fun c52 => ?_)
      · refine lv_iconst (v := 0) hx hb dM_counts_59 (by decide) ?_
        exact wt_i (by rw [if_neg c32, if_neg c52]) (j60 ls hl)
      · refine lv_iconst (v := 1) hx hb dM_counts_55 (by decide) ?_
        refine lv_goto (tgt := 60) hx hb dM_counts_56 (by decide) ?_
        exact wt_i (by rw [if_neg c32, if_pos c52]) (j60 ls hl)
  refine lv_icmp_ne (tgt := 24) hx hb dM_counts_17 (by decide) (fun c17 => ?_) (fun c17 => ?_)
  · refine lv_iconst (v := 0) hx hb dM_counts_24 (by decide) ?_
    exact wt_i (by rw [if_neg c17]) (j25 ls hl)
  · refine lv_iconst (v := 1) hx hb dM_counts_20 (by decide) ?_
    refine lv_goto (tgt := 25) hx hb dM_counts_21 (by decide) ?_
    exact wt_i (by rw [if_pos c17]) (j25 ls hl)
def lf_M_boundOf_4 (g7 : Nat → Int32) (g8 : Nat → Int32) (g9 : Nat → Int32) (g10 : Nat → Int32) (g11 : Nat → Int32) (g12 : Nat → Int32) (g19 : Nat → Int32) (nC : Nat) (nT : Nat) (nu : Int32) (i0 : Int32) : Nat → Int32
  | 0 => i0
  | k4 + 1 => (if (g7 k4) = nu then ((lf_M_boundOf_4 g7 g8 g9 g10 g11 g12 g19 nC nT nu i0 k4) + ((if (mr_M_counts g8 g9 g10 g11 g19 nC nT k4) = 1 then g12 k4 else (if (mr_M_counts g8 g9 g10 g11 g19 nC nT k4) = 0 then (if 0 ≤ (g12 k4) then 0 else g12 k4) else 0)) : Int32)) else (lf_M_boundOf_4 g7 g8 g9 g10 g11 g12 g19 nC nT nu i0 k4))
def mr_M_boundOf (g7 : Nat → Int32) (g8 : Nat → Int32) (g9 : Nat → Int32) (g10 : Nat → Int32) (g11 : Nat → Int32) (g12 : Nat → Int32) (g19 : Nat → Int32) (nC : Nat) (nT : Nat) (nu : Int32) : Int32 := (lf_M_boundOf_4 g7 g8 g9 g10 g11 g12 g19 nC nT nu 0 nT)
set_option maxHeartbeats 4000000 in
set_option maxRecDepth 100000 in
theorem c_M_boundOf (l : Launch) (D : va_G) (cl : List vw_C) (hcl : cl[0]? = some (RM, TM, 29)) (a : Nat) (ba : Nat → Nat) (ka : Nat → ClassId) (F : Nat → Int32) (G : Nat → Nat → Int32) {H : Heap} (hP : va_P D cl (mW a ba ka F G) H) (nC : Nat) (nT : Nat) (nu : Int32) (hC : nC ≤ 8) (h3 : F 3 = nI nT) (hT : nT ≤ 100) (h8 : ∀ t, t < nT → ∃ x : Nat, x < nC ∧ G 8 t = nI x) (h10 : ∀ t, t < nT → G 10 t = -1 ∨ ∃ x : Nat, x < nC ∧ G 10 t = nI x) : ro_Met l yM_boundOf wsM_boundOf ({ frames := 1, cells := 0, slots := 0, locals := 24 } : Room) D cl (mT ka) H [.ref a, .int nu] (.int (mr_M_boundOf (G 7) (G 8) (G 9) (G 10) (G 11) (G 12) (G 19) nC nT nu)) := by
  refine ro_metI (by decide) rfl (Nat.le_of_ble_eq_true rfl) ?_
  intro p e s m args below meth c Q Sx hK ls hl hret
  obtain ⟨hx, hb, hml, hown, hts⟩ := id Sx
  have hl : lv_has ls 5 [(0, .ref a), (1, .int nu)] := hl
  have f100 := hts _ (List.mem_cons_of_mem _ mfM_100)
  have inM_ : ∀ w ∈ wsM0, w ∈ wsM_boundOf := fun w h => List.mem_cons_of_mem _ (inM_all w h)
  have f17 := hts _ (List.mem_cons_of_mem _ mfM_17)
  have f32 := hts _ (List.mem_cons_of_mem _ mfM_32)
  refine lv_iconst (v := 0) hx hb dM_boundOf_0 (by decide) ?_
  refine lv_istore_n (lv' := [(2, .int 0), (0, .ref a), (1, .int nu)]) hx hb dM_boundOf_1 rfl hl (by decide) rfl (fun ls hl => ?_)
  refine lv_iconst (v := 0) hx hb dM_boundOf_2 (by decide) ?_
  refine lv_istore_n (lv' := [(3, .int 0), (2, .int 0), (0, .ref a), (1, .int nu)]) hx hb dM_boundOf_3 rfl hl (by decide) rfl (fun ls hl => ?_)
  have loop4 : ∀ (N4 k4 : Nat), k4 ≤ nT → nT - k4 < N4 → ∀ (ls : Array Slot), lv_has ls 5 [(3, .int (nI k4)), (2, .int (lf_M_boundOf_4 (G 7) (G 8) (G 9) (G 10) (G 11) (G 12) (G 19) nC nT nu 0 k4)), (0, .ref a), (1, .int nu)] → W p l e ({ frames := 1, cells := 0, slots := 0, locals := 24 } : Room) s m args below meth c H [] 0 0 Q (F0 m 4 ls []) := by
    intro N4
    induction N4 with
    | zero => intro k4 hk4 hm4; exact absurd hm4 (Nat.not_lt_zero _)
    | succ N4 ih4 =>
      intro k4 hk4 hm4  ls hl
      refine lv_iload_n hx hb dM_boundOf_4 rfl (lv_at hl 0 rfl) ?_
      refine lv_aload_n hx hb dM_boundOf_5 rfl (lv_at hl 2 rfl) ?_
      refine va_get (D := D) (ci := 0) (v := .int (F 3)) (C := RM) (T := TM) (N := 29) hx hb hts inM_ hown hK hP 0 rfl hcl 3 (by decide) f100 (fun _ h9 => h9) rfl dM_boundOf_6 ?_
      refine wt_i h3 ?_
      refine lv_icmp_ge (tgt := 68) hx hb dM_boundOf_9 (by decide) (fun c9 => ?_) (fun c9 => ?_)
      · have n9 : nT ≤ k4 := (nI_leI (a := nT) (b := k4) (by omega) (by omega)).mp c9
        have hx4 : nT = k4 := by omega
        subst hx4
        refine lv_iload_n hx hb dM_boundOf_68 rfl (lv_at hl 1 rfl) ?_
        exact hret _ _ _ (by rw [mr_M_boundOf]) dM_boundOf_69
      · have n9 : ¬ nT ≤ k4 := fun h9 => c9 ((nI_leI (a := nT) (b := k4) (by omega) (by omega)).mpr h9)
        refine lv_aload_n hx hb dM_boundOf_12 rfl (lv_at hl 2 rfl) ?_
        refine va_get (D := D) (ci := 0) (v := .ref (ba 7)) (C := RM) (T := TM) (N := 29) hx hb hts inM_ hown hK hP 0 rfl hcl 7 (by decide) f17 (fun _ h9 => h9) rfl dM_boundOf_13 ?_
        refine lv_iload_n hx hb dM_boundOf_16 rfl (lv_at hl 0 rfl) ?_
        have sd17 : k4 < 100 := by omega
        refine wn_iald (f := G 7) hx hb hK hP 2 1 rfl rfl k4 rfl sd17 (by decide) dM_boundOf_17 ?_
        refine lv_iload_n hx hb dM_boundOf_18 rfl (lv_at hl 3 rfl) ?_
        refine lv_icmp_ne (tgt := 62) hx hb dM_boundOf_19 (by decide) (fun c19 => ?_) (fun c19 => ?_)
        · refine lv_iinc (v := nI (k4 + 1)) (lv' := [(3, .int (nI (k4 + 1))), (2, .int (lf_M_boundOf_4 (G 7) (G 8) (G 9) (G 10) (G 11) (G 12) (G 19) nC nT nu 0 k4)), (0, .ref a), (1, .int nu)]) hx hb dM_boundOf_62 hl (k := 0) rfl (by exact ii_1 k4) (by decide) rfl (fun ls hl => ?_)
          refine lv_goto (tgt := 4) hx hb dM_boundOf_65 (by decide) ?_
          have eb4 : lf_M_boundOf_4 (G 7) (G 8) (G 9) (G 10) (G 11) (G 12) (G 19) nC nT nu 0 (k4 + 1) = lf_M_boundOf_4 (G 7) (G 8) (G 9) (G 10) (G 11) (G 12) (G 19) nC nT nu 0 k4 := by rw [lf_M_boundOf_4, if_neg c19]
          exact ih4 (k4 + 1) (by omega) (by omega)  ls (by rw [eb4]; exact lv_sub hl [0, 1, 2, 3] rfl)
        · refine lv_aload_n hx hb dM_boundOf_22 rfl (lv_at hl 2 rfl) ?_
          refine lv_iload_n hx hb dM_boundOf_23 rfl (lv_at hl 0 rfl) ?_
          refine ro_callV (r := (.int (mr_M_counts (G 8) (G 9) (G 10) (G 11) (G 19) nC nT k4))) (As := [.int (nI k4)]) (rest := []) Sx (c_M_counts l D cl hcl a ba ka F G hP nC nT k4 hC hT h8 h10 (by omega)) (cwV 1 hts gM_boundOf_M_counts rfl rfl rfl (by decide +kernel) ⟨Nat.le_of_ble_eq_true rfl, Nat.le_of_ble_eq_true rfl⟩) hK (va_recv hK hP (ci := 0) (q0 := 0) hcl rfl) rfl hl.1 rfl (Nat.le_of_ble_eq_true rfl) dM_boundOf_24 ⟨Nat.zero_le _, Nat.zero_le _⟩ ?_
          refine lv_istore (lv' := [(4, .int (mr_M_counts (G 8) (G 9) (G 10) (G 11) (G 19) nC nT k4)), (3, .int (nI k4)), (2, .int (lf_M_boundOf_4 (G 7) (G 8) (G 9) (G 10) (G 11) (G 12) (G 19) nC nT nu 0 k4)), (0, .ref a), (1, .int nu)]) hx hb dM_boundOf_27 hl (by decide) rfl (fun ls hl => ?_)
          refine lv_iload_n hx hb dM_boundOf_29 rfl (lv_at hl 2 rfl) ?_
          refine lv_iload hx hb dM_boundOf_30 (lv_at hl 0 rfl) ?_
          refine lv_iconst (v := 1) hx hb dM_boundOf_32 (by decide) ?_
          have j60 : ∀ (ls : Array Slot), lv_has ls 5 [(4, .int (mr_M_counts (G 8) (G 9) (G 10) (G 11) (G 19) nC nT k4)), (3, .int (nI k4)), (2, .int (lf_M_boundOf_4 (G 7) (G 8) (G 9) (G 10) (G 11) (G 12) (G 19) nC nT nu 0 k4)), (0, .ref a), (1, .int nu)] → W p l e ({ frames := 1, cells := 0, slots := 0, locals := 24 } : Room) s m args below meth c H [] 0 0 Q (F0 m 60 ls [.int ((if (mr_M_counts (G 8) (G 9) (G 10) (G 11) (G 19) nC nT k4) = 1 then G 12 k4 else (if (mr_M_counts (G 8) (G 9) (G 10) (G 11) (G 19) nC nT k4) = 0 then (if 0 ≤ (G 12 k4) then 0 else G 12 k4) else 0)) : Int32), .int (lf_M_boundOf_4 (G 7) (G 8) (G 9) (G 10) (G 11) (G 12) (G 19) nC nT nu 0 k4)]) := by
            intro ls hl
            refine lv_iadd hx hb dM_boundOf_60 ?_
            refine lv_istore_n (lv' := [(2, .int ((lf_M_boundOf_4 (G 7) (G 8) (G 9) (G 10) (G 11) (G 12) (G 19) nC nT nu 0 k4) + ((if (mr_M_counts (G 8) (G 9) (G 10) (G 11) (G 19) nC nT k4) = 1 then G 12 k4 else (if (mr_M_counts (G 8) (G 9) (G 10) (G 11) (G 19) nC nT k4) = 0 then (if 0 ≤ (G 12 k4) then 0 else G 12 k4) else 0)) : Int32))), (4, .int (mr_M_counts (G 8) (G 9) (G 10) (G 11) (G 19) nC nT k4)), (3, .int (nI k4)), (0, .ref a), (1, .int nu)]) hx hb dM_boundOf_61 rfl hl (by decide) rfl (fun ls hl => ?_)
            refine lv_iinc (v := nI (k4 + 1)) (lv' := [(3, .int (nI (k4 + 1))), (2, .int ((lf_M_boundOf_4 (G 7) (G 8) (G 9) (G 10) (G 11) (G 12) (G 19) nC nT nu 0 k4) + ((if (mr_M_counts (G 8) (G 9) (G 10) (G 11) (G 19) nC nT k4) = 1 then G 12 k4 else (if (mr_M_counts (G 8) (G 9) (G 10) (G 11) (G 19) nC nT k4) = 0 then (if 0 ≤ (G 12 k4) then 0 else G 12 k4) else 0)) : Int32))), (4, .int (mr_M_counts (G 8) (G 9) (G 10) (G 11) (G 19) nC nT k4)), (0, .ref a), (1, .int nu)]) hx hb dM_boundOf_62 hl (k := 2) rfl (by exact ii_1 k4) (by decide) rfl (fun ls hl => ?_)
            refine lv_goto (tgt := 4) hx hb dM_boundOf_65 (by decide) ?_
            have eb4 : lf_M_boundOf_4 (G 7) (G 8) (G 9) (G 10) (G 11) (G 12) (G 19) nC nT nu 0 (k4 + 1) = (lf_M_boundOf_4 (G 7) (G 8) (G 9) (G 10) (G 11) (G 12) (G 19) nC nT nu 0 k4) + ((if (mr_M_counts (G 8) (G 9) (G 10) (G 11) (G 19) nC nT k4) = 1 then G 12 k4 else (if (mr_M_counts (G 8) (G 9) (G 10) (G 11) (G 19) nC nT k4) = 0 then (if 0 ≤ (G 12 k4) then 0 else G 12 k4) else 0)) : Int32) := by rw [lf_M_boundOf_4, if_pos c19]
            exact ih4 (k4 + 1) (by omega) (by omega)  ls (by rw [eb4]; exact lv_sub hl [0, 1, 3, 4] rfl)
          refine lv_icmp_eq (tgt := 50) hx hb dM_boundOf_33 (by decide) (fun c33 => ?_) (fun c33 => ?_)
          · refine lv_aload_n hx hb dM_boundOf_50 rfl (lv_at hl 3 rfl) ?_
            refine va_get (D := D) (ci := 0) (v := .ref (ba 12)) (C := RM) (T := TM) (N := 29) hx hb hts inM_ hown hK hP 0 rfl hcl 12 (by decide) f32 (fun _ h9 => h9) rfl dM_boundOf_51 ?_
            refine lv_iload_n hx hb dM_boundOf_54 rfl (lv_at hl 1 rfl) ?_
            have sd55 : k4 < 100 := by omega
            refine wn_iald (f := G 12) hx hb hK hP 7 6 rfl rfl k4 rfl sd55 (by decide) dM_boundOf_55 ?_
            refine lv_goto (tgt := 60) hx hb dM_boundOf_56 (by decide) ?_
            exact wt_i (by rw [if_pos c33]) (j60 ls hl)
          · refine lv_iload hx hb dM_boundOf_36 (lv_at hl 0 rfl) ?_
            refine lv_if_ne (tgt := 59) hx hb dM_boundOf_38 (by decide) (fun c38 => ?_) (fun c38 => ?_)
            · refine lv_iconst (v := 0) hx hb dM_boundOf_59 (by decide) ?_
              exact wt_i (by rw [if_neg c33, if_neg c38]) (j60 ls hl)
            · refine lv_aload_n hx hb dM_boundOf_41 rfl (lv_at hl 3 rfl) ?_
              refine va_get (D := D) (ci := 0) (v := .ref (ba 12)) (C := RM) (T := TM) (N := 29) hx hb hts inM_ hown hK hP 0 rfl hcl 12 (by decide) f32 (fun _ h9 => h9) rfl dM_boundOf_42 ?_
              refine lv_iload_n hx hb dM_boundOf_45 rfl (lv_at hl 1 rfl) ?_
              have sd46 : k4 < 100 := by omega
              refine wn_iald (f := G 12) hx hb hK hP 7 6 rfl rfl k4 rfl sd46 (by decide) dM_boundOf_46 ?_
              refine lv_if_ge (tgt := 59) hx hb dM_boundOf_47 (by decide) (fun c47 => ?_) (fun c47 => ?_)
              · refine lv_iconst (v := 0) hx hb dM_boundOf_59 (by decide) ?_
                exact wt_i (by rw [if_neg c33, if_pos c38, if_pos c47]) (j60 ls hl)
              · refine lv_aload_n hx hb dM_boundOf_50 rfl (lv_at hl 3 rfl) ?_
                refine va_get (D := D) (ci := 0) (v := .ref (ba 12)) (C := RM) (T := TM) (N := 29) hx hb hts inM_ hown hK hP 0 rfl hcl 12 (by decide) f32 (fun _ h9 => h9) rfl dM_boundOf_51 ?_
                refine lv_iload_n hx hb dM_boundOf_54 rfl (lv_at hl 1 rfl) ?_
                have sd55 : k4 < 100 := by omega
                refine wn_iald (f := G 12) hx hb hK hP 7 6 rfl rfl k4 rfl sd55 (by decide) dM_boundOf_55 ?_
                refine lv_goto (tgt := 60) hx hb dM_boundOf_56 (by decide) ?_
                exact wt_i (by rw [if_neg c33, if_pos c38, if_neg c47]) (j60 ls hl)
  exact loop4 _ 0 (Nat.zero_le _) (Nat.lt_succ_self _)  ls (lv_sub hl [0, 1, 2, 3] rfl)
def lf_M_closed_4 (g6 : Nat → Int32) (g19 : Nat → Int32) (nC : Nat) (i0 : Int32) : Nat → Int32
  | 0 => i0
  | k4 + 1 => (((lf_M_closed_4 g6 g19 nC i0 k4) * (g6 k4)) + (g19 k4))
def mr_M_closed (g6 : Nat → Int32) (g19 : Nat → Int32) (nC : Nat) : Int32 := (lf_M_closed_4 g6 g19 nC 0 nC)
set_option maxHeartbeats 4000000 in
set_option maxRecDepth 100000 in
theorem c_M_closed (l : Launch) (D : va_G) (cl : List vw_C) (hcl : cl[0]? = some (RM, TM, 29)) (a : Nat) (ba : Nat → Nat) (ka : Nat → ClassId) (F : Nat → Int32) (G : Nat → Nat → Int32) {H : Heap} (hP : va_P D cl (mW a ba ka F G) H) (nC : Nat) (h2 : F 2 = nI nC) (hC : nC ≤ 8) : ro_Met l yM_closed wsM_closed ({ frames := 0, cells := 0, slots := 0, locals := 0 } : Room) D cl (mT ka) H [.ref a] (.int (mr_M_closed (G 6) (G 19) nC)) := by
  refine ro_metI (by decide) rfl (Nat.le_of_ble_eq_true rfl) ?_
  intro p e s m args below meth c Q Sx hK ls hl hret
  obtain ⟨hx, hb, hml, hown, hts⟩ := id Sx
  have hl : lv_has ls 3 [(0, .ref a)] := hl
  have f81 := hts _ (List.mem_cons_of_mem _ mfM_81)
  have inM_ : ∀ w ∈ wsM0, w ∈ wsM_closed := fun w h => List.mem_cons_of_mem _ (inM_all w h)
  have f13 := hts _ (List.mem_cons_of_mem _ mfM_13)
  have f54 := hts _ (List.mem_cons_of_mem _ mfM_54)
  refine lv_iconst (v := 0) hx hb dM_closed_0 (by decide) ?_
  refine lv_istore_n (lv' := [(1, .int 0), (0, .ref a)]) hx hb dM_closed_1 rfl hl (by decide) rfl (fun ls hl => ?_)
  refine lv_iconst (v := 0) hx hb dM_closed_2 (by decide) ?_
  refine lv_istore_n (lv' := [(2, .int 0), (1, .int 0), (0, .ref a)]) hx hb dM_closed_3 rfl hl (by decide) rfl (fun ls hl => ?_)
  have loop4 : ∀ (N4 k4 : Nat), k4 ≤ nC → nC - k4 < N4 → ∀ (ls : Array Slot), lv_has ls 3 [(2, .int (nI k4)), (1, .int (lf_M_closed_4 (G 6) (G 19) nC 0 k4)), (0, .ref a)] → W p l e ({ frames := 0, cells := 0, slots := 0, locals := 0 } : Room) s m args below meth c H [] 0 0 Q (F0 m 4 ls []) := by
    intro N4
    induction N4 with
    | zero => intro k4 hk4 hm4; exact absurd hm4 (Nat.not_lt_zero _)
    | succ N4 ih4 =>
      intro k4 hk4 hm4  ls hl
      refine lv_iload_n hx hb dM_closed_4 rfl (lv_at hl 0 rfl) ?_
      refine lv_aload_n hx hb dM_closed_5 rfl (lv_at hl 2 rfl) ?_
      refine va_get (D := D) (ci := 0) (v := .int (F 2)) (C := RM) (T := TM) (N := 29) hx hb hts inM_ hown hK hP 0 rfl hcl 2 (by decide) f81 (fun _ h9 => h9) rfl dM_closed_6 ?_
      refine wt_i h2 ?_
      refine lv_icmp_ge (tgt := 34) hx hb dM_closed_9 (by decide) (fun c9 => ?_) (fun c9 => ?_)
      · have n9 : nC ≤ k4 := (nI_leI (a := nC) (b := k4) (by omega) (by omega)).mp c9
        have hx4 : nC = k4 := by omega
        subst hx4
        refine lv_iload_n hx hb dM_closed_34 rfl (lv_at hl 1 rfl) ?_
        exact hret _ _ _ (by rw [mr_M_closed]) dM_closed_35
      · have n9 : ¬ nC ≤ k4 := fun h9 => c9 ((nI_leI (a := nC) (b := k4) (by omega) (by omega)).mpr h9)
        refine lv_iload_n hx hb dM_closed_12 rfl (lv_at hl 1 rfl) ?_
        refine lv_aload_n hx hb dM_closed_13 rfl (lv_at hl 2 rfl) ?_
        refine va_get (D := D) (ci := 0) (v := .ref (ba 6)) (C := RM) (T := TM) (N := 29) hx hb hts inM_ hown hK hP 0 rfl hcl 6 (by decide) f13 (fun _ h9 => h9) rfl dM_closed_14 ?_
        refine lv_iload_n hx hb dM_closed_17 rfl (lv_at hl 0 rfl) ?_
        have sd18 : k4 < 8 := by omega
        refine wn_iald (f := G 6) hx hb hK hP 1 0 rfl rfl k4 rfl sd18 (by decide) dM_closed_18 ?_
        refine lv_imul hx hb dM_closed_19 ?_
        refine lv_aload_n hx hb dM_closed_20 rfl (lv_at hl 2 rfl) ?_
        refine va_get (D := D) (ci := 0) (v := .ref (ba 19)) (C := RM) (T := TM) (N := 29) hx hb hts inM_ hown hK hP 0 rfl hcl 19 (by decide) f54 (fun _ h9 => h9) rfl dM_closed_21 ?_
        refine lv_iload_n hx hb dM_closed_24 rfl (lv_at hl 0 rfl) ?_
        have sd25 : k4 < 8 := by omega
        refine wn_iald (f := G 19) hx hb hK hP 14 13 rfl rfl k4 rfl sd25 (by decide) dM_closed_25 ?_
        refine lv_iadd hx hb dM_closed_26 ?_
        refine lv_istore_n (lv' := [(1, .int (((lf_M_closed_4 (G 6) (G 19) nC 0 k4) * (G 6 k4)) + (G 19 k4))), (2, .int (nI k4)), (0, .ref a)]) hx hb dM_closed_27 rfl hl (by decide) rfl (fun ls hl => ?_)
        refine lv_iinc (v := nI (k4 + 1)) (lv' := [(2, .int (nI (k4 + 1))), (1, .int (((lf_M_closed_4 (G 6) (G 19) nC 0 k4) * (G 6 k4)) + (G 19 k4))), (0, .ref a)]) hx hb dM_closed_28 hl (k := 1) rfl (by exact ii_1 k4) (by decide) rfl (fun ls hl => ?_)
        refine lv_goto (tgt := 4) hx hb dM_closed_31 (by decide) ?_
        have eb4 : lf_M_closed_4 (G 6) (G 19) nC 0 (k4 + 1) = ((lf_M_closed_4 (G 6) (G 19) nC 0 k4) * (G 6 k4)) + (G 19 k4) := by rw [lf_M_closed_4]
        exact ih4 (k4 + 1) (by omega) (by omega)  ls (by rw [eb4]; exact lv_sub hl [0, 1, 2] rfl)
  exact loop4 _ 0 (Nat.zero_le _) (Nat.lt_succ_self _)  ls (lv_sub hl [0, 1, 2] rfl)
def lf_M_passesLimits_4 (g7 : Nat → Int32) (g8 : Nat → Int32) (g9 : Nat → Int32) (g10 : Nat → Int32) (g11 : Nat → Int32) (g12 : Nat → Int32) (g17 : Nat → Int32) (g18 : Nat → Int32) (g19 : Nat → Int32) (nC : Nat) (nT : Nat) (i0 : Int32) : Nat → Int32
  | 0 => i0
  | k4 + 1 => ((if (lf_M_passesLimits_4 g7 g8 g9 g10 g11 g12 g17 g18 g19 nC nT i0 k4) = 0 then (if (g17 k4) = 0 then 0 else (if (mr_M_boundOf g7 g8 g9 g10 g11 g12 g19 nC nT (nI k4)) ≤ (g18 k4) then 0 else 1)) else 1) : Int32)
def mr_M_passesLimits (g7 : Nat → Int32) (g8 : Nat → Int32) (g9 : Nat → Int32) (g10 : Nat → Int32) (g11 : Nat → Int32) (g12 : Nat → Int32) (g17 : Nat → Int32) (g18 : Nat → Int32) (g19 : Nat → Int32) (nC : Nat) (nT : Nat) : Int32 := (lf_M_passesLimits_4 g7 g8 g9 g10 g11 g12 g17 g18 g19 nC nT 0 4)
set_option maxHeartbeats 4000000 in
set_option maxRecDepth 100000 in
theorem c_M_passesLimits (l : Launch) (D : va_G) (cl : List vw_C) (hcl : cl[0]? = some (RM, TM, 29)) (a : Nat) (ba : Nat → Nat) (ka : Nat → ClassId) (F : Nat → Int32) (G : Nat → Nat → Int32) {H : Heap} (hP : va_P D cl (mW a ba ka F G) H) (nC : Nat) (nT : Nat) (hC : nC ≤ 8) (h3 : F 3 = nI nT) (hT : nT ≤ 100) (h8 : ∀ t, t < nT → ∃ x : Nat, x < nC ∧ G 8 t = nI x) (h10 : ∀ t, t < nT → G 10 t = -1 ∨ ∃ x : Nat, x < nC ∧ G 10 t = nI x) : ro_Met l yM_passesLimits wsM_passesLimits ({ frames := 2, cells := 0, slots := 0, locals := 48 } : Room) D cl (mT ka) H [.ref a] (.int (mr_M_passesLimits (G 7) (G 8) (G 9) (G 10) (G 11) (G 12) (G 17) (G 18) (G 19) nC nT)) := by
  refine ro_metZ (by unfold mr_M_passesLimits; rw [lf_M_passesLimits_4]; repeat' first | refine zb_i ?_ ?_ | exact zb_0 | exact zb_1) (by decide) rfl (Nat.le_of_ble_eq_true rfl) ?_
  intro p e s m args below meth c Q Sx hK ls hl hret
  obtain ⟨hx, hb, hml, hown, hts⟩ := id Sx
  have hl : lv_has ls 3 [(0, .ref a)] := hl
  have f47 := hts _ (List.mem_cons_of_mem _ mfM_47)
  have inM_ : ∀ w ∈ wsM0, w ∈ wsM_passesLimits := fun w h => List.mem_cons_of_mem _ (inM_all w h)
  have f51 := hts _ (List.mem_cons_of_mem _ mfM_51)
  refine lv_iconst (v := 0) hx hb dM_passesLimits_0 (by decide) ?_
  refine lv_istore_n (lv' := [(1, .int 0), (0, .ref a)]) hx hb dM_passesLimits_1 rfl hl (by decide) rfl (fun ls hl => ?_)
  refine lv_iconst (v := 0) hx hb dM_passesLimits_2 (by decide) ?_
  refine lv_istore_n (lv' := [(2, .int 0), (1, .int 0), (0, .ref a)]) hx hb dM_passesLimits_3 rfl hl (by decide) rfl (fun ls hl => ?_)
  have loop4 : ∀ (N4 k4 : Nat), k4 ≤ 4 → 4 - k4 < N4 → ∀ (ls : Array Slot), lv_has ls 3 [(2, .int (nI k4)), (1, .int (lf_M_passesLimits_4 (G 7) (G 8) (G 9) (G 10) (G 11) (G 12) (G 17) (G 18) (G 19) nC nT 0 k4)), (0, .ref a)] → W p l e ({ frames := 2, cells := 0, slots := 0, locals := 48 } : Room) s m args below meth c H [] 0 0 Q (F0 m 4 ls []) := by
    intro N4
    induction N4 with
    | zero => intro k4 hk4 hm4; exact absurd hm4 (Nat.not_lt_zero _)
    | succ N4 ih4 =>
      intro k4 hk4 hm4  ls hl
      refine lv_iload_n hx hb dM_passesLimits_4 rfl (lv_at hl 0 rfl) ?_
      refine lv_iconst (v := 4) hx hb dM_passesLimits_5 (by decide) ?_
      refine lv_icmp_ge (tgt := 48) hx hb dM_passesLimits_6 (by decide) (fun c6 => ?_) (fun c6 => ?_)
      · have n6 : 4 ≤ k4 := (nI_leI (a := 4) (b := k4) (by omega) (by omega)).mp c6
        have hx4 : 4 = k4 := by omega
        subst hx4
        refine lv_iload_n hx hb dM_passesLimits_48 rfl (lv_at hl 1 rfl) ?_
        exact hret _ _ _ (by rw [mr_M_passesLimits]) dM_passesLimits_49
      · have n6 : ¬ 4 ≤ k4 := fun h9 => c6 ((nI_leI (a := 4) (b := k4) (by omega) (by omega)).mpr h9)
        refine lv_iload_n hx hb dM_passesLimits_9 rfl (lv_at hl 1 rfl) ?_
        have j41 : ∀ (ls : Array Slot), lv_has ls 3 [(2, .int (nI k4)), (1, .int (lf_M_passesLimits_4 (G 7) (G 8) (G 9) (G 10) (G 11) (G 12) (G 17) (G 18) (G 19) nC nT 0 k4)), (0, .ref a)] → W p l e ({ frames := 2, cells := 0, slots := 0, locals := 48 } : Room) s m args below meth c H [] 0 0 Q (F0 m 41 ls [.int ((if (lf_M_passesLimits_4 (G 7) (G 8) (G 9) (G 10) (G 11) (G 12) (G 17) (G 18) (G 19) nC nT 0 k4) = 0 then (if (G 17 k4) = 0 then 0 else (if (mr_M_boundOf (G 7) (G 8) (G 9) (G 10) (G 11) (G 12) (G 19) nC nT (nI k4)) ≤ (G 18 k4) then 0 else 1)) else 1) : Int32)]) := by
          intro ls hl
          refine lv_istore_n (lv' := [(1, .int ((if (lf_M_passesLimits_4 (G 7) (G 8) (G 9) (G 10) (G 11) (G 12) (G 17) (G 18) (G 19) nC nT 0 k4) = 0 then (if (G 17 k4) = 0 then 0 else (if (mr_M_boundOf (G 7) (G 8) (G 9) (G 10) (G 11) (G 12) (G 19) nC nT (nI k4)) ≤ (G 18 k4) then 0 else 1)) else 1) : Int32)), (2, .int (nI k4)), (0, .ref a)]) hx hb dM_passesLimits_41 rfl hl (by decide) rfl (fun ls hl => ?_)
          refine lv_iinc (v := nI (k4 + 1)) (lv' := [(2, .int (nI (k4 + 1))), (1, .int ((if (lf_M_passesLimits_4 (G 7) (G 8) (G 9) (G 10) (G 11) (G 12) (G 17) (G 18) (G 19) nC nT 0 k4) = 0 then (if (G 17 k4) = 0 then 0 else (if (mr_M_boundOf (G 7) (G 8) (G 9) (G 10) (G 11) (G 12) (G 19) nC nT (nI k4)) ≤ (G 18 k4) then 0 else 1)) else 1) : Int32)), (0, .ref a)]) hx hb dM_passesLimits_42 hl (k := 1) rfl (by exact ii_1 k4) (by decide) rfl (fun ls hl => ?_)
          refine lv_goto (tgt := 4) hx hb dM_passesLimits_45 (by decide) ?_
          have eb4 : lf_M_passesLimits_4 (G 7) (G 8) (G 9) (G 10) (G 11) (G 12) (G 17) (G 18) (G 19) nC nT 0 (k4 + 1) = ((if (lf_M_passesLimits_4 (G 7) (G 8) (G 9) (G 10) (G 11) (G 12) (G 17) (G 18) (G 19) nC nT 0 k4) = 0 then (if (G 17 k4) = 0 then 0 else (if (mr_M_boundOf (G 7) (G 8) (G 9) (G 10) (G 11) (G 12) (G 19) nC nT (nI k4)) ≤ (G 18 k4) then 0 else 1)) else 1) : Int32) := by rw [lf_M_passesLimits_4]
          exact ih4 (k4 + 1) (by omega) (by omega)  ls (by rw [eb4]; exact lv_sub hl [0, 1, 2] rfl)
        refine lv_if_ne (tgt := 36) hx hb dM_passesLimits_10 (by decide) (fun c10 => ?_) (fun c10 => ?_)
        · refine lv_iconst (v := 1) hx hb dM_passesLimits_36 (by decide) ?_
          refine lv_goto (tgt := 41) hx hb dM_passesLimits_37 (by decide) ?_
          exact wt_i (by rw [if_neg c10]) (j41 ls hl)
        · refine lv_aload_n hx hb dM_passesLimits_13 rfl (lv_at hl 2 rfl) ?_
          refine va_get (D := D) (ci := 0) (v := .ref (ba 17)) (C := RM) (T := TM) (N := 29) hx hb hts inM_ hown hK hP 0 rfl hcl 17 (by decide) f47 (fun _ h9 => h9) rfl dM_passesLimits_14 ?_
          refine lv_iload_n hx hb dM_passesLimits_17 rfl (lv_at hl 0 rfl) ?_
          have sd18 : k4 < 4 := by omega
          refine wn_zald (f := G 17) hx hb hK hP 12 11 rfl rfl k4 rfl sd18 (by decide) dM_passesLimits_18 ?_
          refine lv_if_eq (tgt := 40) hx hb dM_passesLimits_19 (by decide) (fun c19 => ?_) (fun c19 => ?_)
          · refine lv_iconst (v := 0) hx hb dM_passesLimits_40 (by decide) ?_
            exact wt_i (by rw [if_pos c10, if_pos c19]) (j41 ls hl)
          · refine lv_aload_n hx hb dM_passesLimits_22 rfl (lv_at hl 2 rfl) ?_
            refine lv_iload_n hx hb dM_passesLimits_23 rfl (lv_at hl 0 rfl) ?_
            refine ro_callV (r := (.int (mr_M_boundOf (G 7) (G 8) (G 9) (G 10) (G 11) (G 12) (G 19) nC nT (nI k4)))) (As := [.int (nI k4)]) (rest := []) Sx (c_M_boundOf l D cl hcl a ba ka F G hP nC nT (nI k4) hC h3 hT h8 h10) (cwV 1 hts gM_passesLimits_M_boundOf rfl rfl rfl (by decide +kernel) ⟨Nat.le_of_ble_eq_true rfl, Nat.le_of_ble_eq_true rfl⟩) hK (va_recv hK hP (ci := 0) (q0 := 0) hcl rfl) rfl hl.1 rfl (Nat.le_of_ble_eq_true rfl) dM_passesLimits_24 ⟨Nat.zero_le _, Nat.zero_le _⟩ ?_
            refine lv_aload_n hx hb dM_passesLimits_27 rfl (lv_at hl 2 rfl) ?_
            refine va_get (D := D) (ci := 0) (v := .ref (ba 18)) (C := RM) (T := TM) (N := 29) hx hb hts inM_ hown hK hP 0 rfl hcl 18 (by decide) f51 (fun _ h9 => h9) rfl dM_passesLimits_28 ?_
            refine lv_iload_n hx hb dM_passesLimits_31 rfl (lv_at hl 0 rfl) ?_
            have sd32 : k4 < 4 := by omega
            refine wn_iald (f := G 18) hx hb hK hP 13 12 rfl rfl k4 rfl sd32 (by decide) dM_passesLimits_32 ?_
            refine lv_icmp_le (tgt := 40) hx hb dM_passesLimits_33 (by decide) (fun c33 => ?_) (fun c33 => ?_)
            · refine lv_iconst (v := 0) hx hb dM_passesLimits_40 (by decide) ?_
              exact wt_i (by rw [if_pos c10, if_neg c19, if_pos c33]) (j41 ls hl)
            · refine lv_iconst (v := 1) hx hb dM_passesLimits_36 (by decide) ?_
              refine lv_goto (tgt := 41) hx hb dM_passesLimits_37 (by decide) ?_
              exact wt_i (by rw [if_pos c10, if_neg c19, if_neg c33]) (j41 ls hl)
  exact loop4 _ 0 (Nat.zero_le _) (Nat.lt_succ_self _)  ls (lv_sub hl [0, 1, 2] rfl)
def mr_M_isDesign (nD : Nat) (d : Int32) : Int32 := (mr_M_within d 0 ((nI nD) - 1))
theorem wi_ix {c : Int32} {n : Nat} (h : ¬ mr_M_within c 0 (nI n - 1) = 0) (hn : n ≤ 65536) : ∃ j : Nat, j < n ∧ c = nI j := by
  unfold mr_M_within at h
  by_cases h1 : c < 0
  · rw [if_pos h1] at h; exact absurd rfl h
  · rw [if_neg h1] at h
    by_cases h2 : nI n - 1 < c
    · rw [if_pos h2] at h; exact absurd rfl h
    · exact wi_ge h1 h2 hn
theorem wi_nx {c : Int32} {n : Nat} (h : ¬ mr_M_within c 0 (nI n) = 0) (hn : n ≤ 65536) : ∃ j : Nat, j < n + 1 ∧ c = nI j := by
  unfold mr_M_within at h
  by_cases h1 : c < 0
  · rw [if_pos h1] at h; exact absurd rfl h
  · rw [if_neg h1] at h
    by_cases h2 : nI n < c
    · rw [if_pos h2] at h; exact absurd rfl h
    · exact wi_le h1 h2 hn
theorem wd_ix {d : Int32} {nD : Nat} (h : ¬ mr_M_isDesign nD d = 0) (hn : nD ≤ 4096) : ∃ j : Nat, j < nD ∧ d = nI j := wi_ix h (Nat.le_trans hn (by decide))
set_option maxHeartbeats 4000000 in
set_option maxRecDepth 100000 in
theorem c_M_isDesign (l : Launch) (D : va_G) (cl : List vw_C) (hcl : cl[0]? = some (RM, TM, 29)) (a : Nat) (ba : Nat → Nat) (ka : Nat → ClassId) (F : Nat → Int32) (G : Nat → Nat → Int32) {H : Heap} (hP : va_P D cl (mW a ba ka F G) H) (nD : Nat) (d : Int32) (h5 : F 5 = nI nD) : ro_Met l yM_isDesign wsM_isDesign ({ frames := 1, cells := 0, slots := 0, locals := 22 } : Room) D cl (mT ka) H [.ref a, .int d] (.int (mr_M_isDesign nD d)) := by
  refine ro_metZ (by unfold mr_M_isDesign mr_M_within; repeat' first | refine zb_i ?_ ?_ | exact zb_0 | exact zb_1) (by decide) rfl (Nat.le_of_ble_eq_true rfl) ?_
  intro p e s m args below meth c Q Sx hK ls hl hret
  obtain ⟨hx, hb, hml, hown, hts⟩ := id Sx
  have hl : lv_has ls 2 [(0, .ref a), (1, .int d)] := hl
  have f7 := hts _ (List.mem_cons_of_mem _ mfM_7)
  have inM_ : ∀ w ∈ wsM0, w ∈ wsM_isDesign := fun w h => List.mem_cons_of_mem _ (inM_all w h)
  refine lv_iload_n hx hb dM_isDesign_0 rfl (lv_at hl 1 rfl) ?_
  refine lv_iconst (v := 0) hx hb dM_isDesign_1 (by decide) ?_
  refine lv_aload_n hx hb dM_isDesign_2 rfl (lv_at hl 0 rfl) ?_
  refine va_get (D := D) (ci := 0) (v := .int (F 5)) (C := RM) (T := TM) (N := 29) hx hb hts inM_ hown hK hP 0 rfl hcl 5 (by decide) f7 (fun _ h9 => h9) rfl dM_isDesign_3 ?_
  refine wt_i h5 ?_
  refine lv_iconst (v := 1) hx hb dM_isDesign_6 (by decide) ?_
  refine lv_isub hx hb dM_isDesign_7 ?_
  refine ro_callS (r := (.int (mr_M_within d 0 ((nI nD) - 1)))) (As := [.int d, .int 0, .int ((nI nD) - 1)]) (rest := []) Sx (c_M_within l D cl hcl a ba ka F G hP d 0 ((nI nD) - 1)) (va_cwS 3 hts gM_isDesign_M_within rfl rfl rfl (by decide +kernel) ⟨Nat.le_of_ble_eq_true rfl, Nat.le_of_ble_eq_true rfl⟩) hK rfl hl.1 rfl (Nat.le_of_ble_eq_true rfl) dM_isDesign_8 ⟨Nat.zero_le _, Nat.zero_le _⟩ ?_
  exact hret _ _ _ (by rw [mr_M_isDesign]) dM_isDesign_11
def mr_M_isValue (g6 : Nat → Int32) (nC : Nat) (ch : Int32) (v : Int32) : Int32 := ((if (mr_M_within ch 0 ((nI nC) - 1)) = 0 then 0 else (if (mr_M_within v 0 ((g6 ch.toNatClampNeg) - 1)) = 0 then 0 else 1)) : Int32)
set_option maxHeartbeats 4000000 in
set_option maxRecDepth 100000 in
theorem c_M_isValue (l : Launch) (D : va_G) (cl : List vw_C) (hcl : cl[0]? = some (RM, TM, 29)) (a : Nat) (ba : Nat → Nat) (ka : Nat → ClassId) (F : Nat → Int32) (G : Nat → Nat → Int32) {H : Heap} (hP : va_P D cl (mW a ba ka F G) H) (nC : Nat) (ch : Int32) (v : Int32) (h2 : F 2 = nI nC) (hC : nC ≤ 8) : ro_Met l yM_isValue wsM_isValue ({ frames := 1, cells := 0, slots := 0, locals := 22 } : Room) D cl (mT ka) H [.ref a, .int ch, .int v] (.int (mr_M_isValue (G 6) nC ch v)) := by
  refine ro_metZ (by unfold mr_M_isValue; repeat' first | refine zb_i ?_ ?_ | exact zb_0 | exact zb_1) (by decide) rfl (Nat.le_of_ble_eq_true rfl) ?_
  intro p e s m args below meth c Q Sx hK ls hl hret
  obtain ⟨hx, hb, hml, hown, hts⟩ := id Sx
  have hl : lv_has ls 3 [(0, .ref a), (1, .int ch), (2, .int v)] := hl
  have f81 := hts _ (List.mem_cons_of_mem _ mfM_81)
  have inM_ : ∀ w ∈ wsM0, w ∈ wsM_isValue := fun w h => List.mem_cons_of_mem _ (inM_all w h)
  have f13 := hts _ (List.mem_cons_of_mem _ mfM_13)
  refine lv_iload_n hx hb dM_isValue_0 rfl (lv_at hl 1 rfl) ?_
  refine lv_iconst (v := 0) hx hb dM_isValue_1 (by decide) ?_
  refine lv_aload_n hx hb dM_isValue_2 rfl (lv_at hl 0 rfl) ?_
  refine va_get (D := D) (ci := 0) (v := .int (F 2)) (C := RM) (T := TM) (N := 29) hx hb hts inM_ hown hK hP 0 rfl hcl 2 (by decide) f81 (fun _ h9 => h9) rfl dM_isValue_3 ?_
  refine wt_i h2 ?_
  refine lv_iconst (v := 1) hx hb dM_isValue_6 (by decide) ?_
  refine lv_isub hx hb dM_isValue_7 ?_
  refine ro_callS (r := (.int (mr_M_within ch 0 ((nI nC) - 1)))) (As := [.int ch, .int 0, .int ((nI nC) - 1)]) (rest := []) Sx (c_M_within l D cl hcl a ba ka F G hP ch 0 ((nI nC) - 1)) (va_cwS 3 hts gM_isValue_M_within rfl rfl rfl (by decide +kernel) ⟨Nat.le_of_ble_eq_true rfl, Nat.le_of_ble_eq_true rfl⟩) hK rfl hl.1 rfl (Nat.le_of_ble_eq_true rfl) dM_isValue_8 ⟨Nat.zero_le _, Nat.zero_le _⟩ ?_
  have j35 : ∀ (ls : Array Slot), lv_has ls 3 [(0, .ref a), (1, .int ch), (2, .int v)] → W p l e ({ frames := 1, cells := 0, slots := 0, locals := 22 } : Room) s m args below meth c H [] 0 0 Q (F0 m 35 ls [.int ((if (mr_M_within ch 0 ((nI nC) - 1)) = 0 then 0 else (if (mr_M_within v 0 ((G 6 ch.toNatClampNeg) - 1)) = 0 then 0 else 1)) : Int32)]) := by
    intro ls hl
    exact hret _ _ _ (by rw [mr_M_isValue]) dM_isValue_35
  refine lv_if_eq (tgt := 34) hx hb dM_isValue_11 (by decide) (fun c11 => ?_) (fun c11 => ?_)
  · refine lv_iconst (v := 0) hx hb dM_isValue_34 (by decide) ?_
    exact wt_i (by rw [if_pos c11]) (j35 ls hl)
  · have xc := ix_cl (wi_ix c11 (by omega)) (by omega)
    refine lv_iload_n hx hb dM_isValue_14 rfl (lv_at hl 2 rfl) ?_
    refine lv_iconst (v := 0) hx hb dM_isValue_15 (by decide) ?_
    refine lv_aload_n hx hb dM_isValue_16 rfl (lv_at hl 0 rfl) ?_
    refine va_get (D := D) (ci := 0) (v := .ref (ba 6)) (C := RM) (T := TM) (N := 29) hx hb hts inM_ hown hK hP 0 rfl hcl 6 (by decide) f13 (fun _ h9 => h9) rfl dM_isValue_17 ?_
    refine lv_iload_n hx hb dM_isValue_20 rfl (lv_at hl 1 rfl) ?_
    have sd21 : ch.toNatClampNeg < 8 := by have := xc.2; omega
    refine wn_iald (f := G 6) hx hb hK hP 1 0 rfl rfl ch.toNatClampNeg xc.1 sd21 (by decide) dM_isValue_21 ?_
    refine lv_iconst (v := 1) hx hb dM_isValue_22 (by decide) ?_
    refine lv_isub hx hb dM_isValue_23 ?_
    refine ro_callS (r := (.int (mr_M_within v 0 ((G 6 ch.toNatClampNeg) - 1)))) (As := [.int v, .int 0, .int ((G 6 ch.toNatClampNeg) - 1)]) (rest := []) Sx (c_M_within l D cl hcl a ba ka F G hP v 0 ((G 6 ch.toNatClampNeg) - 1)) (va_cwS 3 hts gM_isValue_M_within rfl rfl rfl (by decide +kernel) ⟨Nat.le_of_ble_eq_true rfl, Nat.le_of_ble_eq_true rfl⟩) hK rfl hl.1 rfl (Nat.le_of_ble_eq_true rfl) dM_isValue_24 ⟨Nat.zero_le _, Nat.zero_le _⟩ ?_
    refine lv_if_eq (tgt := 34) hx hb dM_isValue_27 (by decide) (fun c27 => ?_) (fun c27 => ?_)
    · refine lv_iconst (v := 0) hx hb dM_isValue_34 (by decide) ?_
      exact wt_i (by rw [if_neg c11, if_pos c27]) (j35 ls hl)
    · refine lv_iconst (v := 1) hx hb dM_isValue_30 (by decide) ?_
      refine lv_goto (tgt := 35) hx hb dM_isValue_31 (by decide) ?_
      exact wt_i (by rw [if_neg c11, if_neg c27]) (j35 ls hl)
