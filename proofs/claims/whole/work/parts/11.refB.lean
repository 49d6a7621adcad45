def lf_M_isBeaten_8 (g28 : Nat → Int32) (d : Nat) (y : Nat) (i0 : Int32) (i1 : Int32) : Nat → Int32 × Int32
  | 0 => (i0, i1)
  | k8 + 1 => (((if ((lf_M_isBeaten_8 g28 d y i0 i1 k8).1) = 0 then (if (g28 ((4 * d) + k8)) ≤ (g28 ((4 * y) + k8)) then 0 else 1) else 1) : Int32), ((if ((lf_M_isBeaten_8 g28 d y i0 i1 k8).2) = 0 then (if (g28 ((4 * y) + k8)) ≤ (g28 ((4 * d) + k8)) then 0 else 1) else 1) : Int32))
def mr_M_isBeaten (g28 : Nat → Int32) (d : Nat) (y : Nat) : Int32 := ((if ((lf_M_isBeaten_8 g28 d y 0 0 4).1) = 0 then 0 else (if ((lf_M_isBeaten_8 g28 d y 0 0 4).2) = 0 then 1 else 0)) : Int32)
set_option maxHeartbeats 4000000 in
set_option maxRecDepth 100000 in
theorem c_M_isBeaten (l : Launch) (D : va_G) (cl : List vw_C) (hcl : cl[0]? = some (RM, TM, 29)) (a : Nat) (ba : Nat → Nat) (ka : Nat → ClassId) (F : Nat → Int32) (G : Nat → Nat → Int32) {H : Heap} (hP : va_P D cl (mW a ba ka F G) H) (d : Nat) (y : Nat) (hd : d < 4096) (hy : y < 4096) : ro_Met l yM_isBeaten wsM_isBeaten ({ frames := 0, cells := 0, slots := 0, locals := 0 } : Room) D cl (mT ka) H [.ref a, .int (nI d), .int (nI y)] (.int (mr_M_isBeaten (G 28) d y)) := by
  refine ro_metZ (by unfold mr_M_isBeaten; repeat' first | refine zb_i ?_ ?_ | exact zb_0 | exact zb_1) (by decide) rfl (Nat.le_of_ble_eq_true rfl) ?_
  intro p e s m args below meth c Q Sx hK ls hl hret
  obtain ⟨hx, hb, hml, hown, hts⟩ := id Sx
  have hl : lv_has ls 6 [(0, .ref a), (1, .int (nI d)), (2, .int (nI y))] := hl
  have f63 := hts _ (List.mem_cons_of_mem _ mfM_63)
  have inM_ : ∀ w ∈ wsM0, w ∈ wsM_isBeaten := fun w h => List.mem_cons_of_mem _ (inM_all w h)
  refine lv_iconst (v := 0) hx hb dM_isBeaten_0 (by decide) ?_
  refine lv_istore_n (lv' := [(3, .int 0), (0, .ref a), (1, .int (nI d)), (2, .int (nI y))]) hx hb dM_isBeaten_1 rfl hl (by decide) rfl (fun ls hl => ?_)
  refine lv_iconst (v := 0) hx hb dM_isBeaten_2 (by decide) ?_
  refine lv_istore (lv' := [(4, .int 0), (3, .int 0), (0, .ref a), (1, .int (nI d)), (2, .int (nI y))]) hx hb dM_isBeaten_3 hl (by decide) rfl (fun ls hl => ?_)
  refine lv_iconst (v := 0) hx hb dM_isBeaten_5 (by decide) ?_
  refine lv_istore (lv' := [(5, .int 0), (4, .int 0), (3, .int 0), (0, .ref a), (1, .int (nI d)), (2, .int (nI y))]) hx hb dM_isBeaten_6 hl (by decide) rfl (fun ls hl => ?_)
  have loop8 : ∀ (N8 k8 : Nat), k8 ≤ 4 → 4 - k8 < N8 → ∀ (ls : Array Slot), lv_has ls 6 [(5, .int (nI k8)), (4, .int ((lf_M_isBeaten_8 (G 28) d y 0 0 k8).2)), (3, .int ((lf_M_isBeaten_8 (G 28) d y 0 0 k8).1)), (0, .ref a), (1, .int (nI d)), (2, .int (nI y))] → W p l e ({ frames := 0, cells := 0, slots := 0, locals := 0 } : Room) s m args below meth c H [] 0 0 Q (F0 m 8 ls []) := by
    intro N8
    induction N8 with
    | zero => intro k8 hk8 hm8; exact absurd hm8 (Nat.not_lt_zero _)
    | succ N8 ih8 =>
      intro k8 hk8 hm8  ls hl
      refine lv_iload hx hb dM_isBeaten_8 (lv_at hl 0 rfl) ?_
      refine lv_iconst (v := 4) hx hb dM_isBeaten_10 (by decide) ?_
      refine lv_icmp_ge (tgt := 92) hx hb dM_isBeaten_11 (by decide) (fun c11 => ?_) (fun c11 => ?_)
      · have n11 : 4 ≤ k8 := (nI_leI (a := 4) (b := k8) (by omega) (by omega)).mp c11
        have hx8 : 4 = k8 := by omega
        subst hx8
        refine lv_iload_n hx hb dM_isBeaten_92 rfl (lv_at hl 2 rfl) ?_
        have j106 : ∀ (ls : Array Slot), lv_has ls 6 [(5, .int (nI 4)), (4, .int ((lf_M_isBeaten_8 (G 28) d y 0 0 4).2)), (3, .int ((lf_M_isBeaten_8 (G 28) d y 0 0 4).1)), (0, .ref a), (1, .int (nI d)), (2, .int (nI y))] → W p l e ({ frames := 0, cells := 0, slots := 0, locals := 0 } : Room) s m args below meth c H [] 0 0 Q (F0 m 106 ls [.int ((if ((lf_M_isBeaten_8 (G 28) d y 0 0 4).1) = 0 then 0 else (if ((lf_M_isBeaten_8 (G 28) d y 0 0 4).2) = 0 then 1 else 0)) : Int32)]) := by
          intro ls hl
          exact hret _ _ _ (by rw [mr_M_isBeaten]) dM_isBeaten_106
        refine lv_if_eq (tgt := 105) hx hb dM_isBeaten_93 (by decide) (fun c93 => ?_) (fun c93 => ?_)
        · refine lv_iconst (v := 0) hx hb dM_isBeaten_105 (by decide) ?_
          exact wt_i (by rw [if_pos c93]) (j106 ls hl)
        · refine lv_iload hx hb dM_isBeaten_96 (lv_at hl 1 rfl) ?_
          refine lv_if_ne (tgt := 105) hx hb dM_isBeaten_98 (by decide) (fun c98 => ?_) (fun c98 => ?_)
          · refine lv_iconst (v := 0) hx hb dM_isBeaten_105 (by decide) ?_
            exact wt_i (by rw [if_neg c93, if_neg c98]) (j106 ls hl)
          · refine lv_iconst (v := 1) hx hb dM_isBeaten_101 (by decide) ?_
            refine lv_goto (tgt := 106) hx hb dM_isBeaten_102 (by decide) ?_
            exact wt_i (by rw [if_neg c93, if_pos c98]) (j106 ls hl)
      · have n11 : ¬ 4 ≤ k8 := fun h9 => c11 ((nI_leI (a := 4) (b := k8) (by omega) (by omega)).mpr h9)
        refine lv_iload_n hx hb dM_isBeaten_14 rfl (lv_at hl 2 rfl) ?_
        have j48 : ∀ (ls : Array Slot), lv_has ls 6 [(5, .int (nI k8)), (4, .int ((lf_M_isBeaten_8 (G 28) d y 0 0 k8).2)), (3, .int ((lf_M_isBeaten_8 (G 28) d y 0 0 k8).1)), (0, .ref a), (1, .int (nI d)), (2, .int (nI y))] → W p l e ({ frames := 0, cells := 0, slots := 0, locals := 0 } : Room) s m args below meth c H [] 0 0 Q (F0 m 48 ls [.int ((if ((lf_M_isBeaten_8 (G 28) d y 0 0 k8).1) = 0 then (if (G 28 ((4 * d) + k8)) ≤ (G 28 ((4 * y) + k8)) then 0 else 1) else 1) : Int32)]) := by
          intro ls hl
          refine lv_istore_n (lv' := [(3, .int ((if ((lf_M_isBeaten_8 (G 28) d y 0 0 k8).1) = 0 then (if (G 28 ((4 * d) + k8)) ≤ (G 28 ((4 * y) + k8)) then 0 else 1) else 1) : Int32)), (5, .int (nI k8)), (4, .int ((lf_M_isBeaten_8 (G 28) d y 0 0 k8).2)), (0, .ref a), (1, .int (nI d)), (2, .int (nI y))]) hx hb dM_isBeaten_48 rfl hl (by decide) rfl (fun ls hl => ?_)
          refine lv_iload hx hb dM_isBeaten_49 (lv_at hl 2 rfl) ?_
          have j84 : ∀ (ls : Array Slot), lv_has ls 6 [(3, .int ((if ((lf_M_isBeaten_8 (G 28) d y 0 0 k8).1) = 0 then (if (G 28 ((4 * d) + k8)) ≤ (G 28 ((4 * y) + k8)) then 0 else 1) else 1) : Int32)), (5, .int (nI k8)), (4, .int ((lf_M_isBeaten_8 (G 28) d y 0 0 k8).2)), (0, .ref a), (1, .int (nI d)), (2, .int (nI y))] → W p l e ({ frames := 0, cells := 0, slots := 0, locals := 0 } : Room) s m args below meth c H [] 0 0 Q (F0 m 84 ls [.int ((if ((lf_M_isBeaten_8 (G 28) d y 0 0 k8).2) = 0 then (if (G 28 ((4 * y) + k8)) ≤ (G 28 ((4 * d) + k8)) then 0 else 1) else 1) : Int32)]) := by
            intro ls hl
            refine lv_istore (lv' := [(4, .int ((if ((lf_M_isBeaten_8 (G 28) d y 0 0 k8).2) = 0 then (if (G 28 ((4 * y) + k8)) ≤ (G 28 ((4 * d) + k8)) then 0 else 1) else 1) : Int32)), (3, .int ((if ((lf_M_isBeaten_8 (G 28) d y 0 0 k8).1) = 0 then (if (G 28 ((4 * d) + k8)) ≤ (G 28 ((4 * y) + k8)) then 0 else 1) else 1) : Int32)), (5, .int (nI k8)), (0, .ref a), (1, .int (nI d)), (2, .int (nI y))]) hx hb dM_isBeaten_84 hl (by decide) rfl (fun ls hl => ?_)
            refine lv_iinc (v := nI (k8 + 1)) (lv' := [(5, .int (nI (k8 + 1))), (4, .int ((if ((lf_M_isBeaten_8 (G 28) d y 0 0 k8).2) = 0 then (if (G 28 ((4 * y) + k8)) ≤ (G 28 ((4 * d) + k8)) then 0 else 1) else 1) : Int32)), (3, .int ((if ((lf_M_isBeaten_8 (G 28) d y 0 0 k8).1) = 0 then (if (G 28 ((4 * d) + k8)) ≤ (G 28 ((4 * y) + k8)) then 0 else 1) else 1) : Int32)), (0, .ref a), (1, .int (nI d)), (2, .int (nI y))]) hx hb dM_isBeaten_86 hl (k := 2) rfl (by exact ii_1 k8) (by decide) rfl (fun ls hl => ?_)
            refine lv_goto (tgt := 8) hx hb dM_isBeaten_89 (by decide) ?_
            have eb8 : lf_M_isBeaten_8 (G 28) d y 0 0 (k8 + 1) = (((if ((lf_M_isBeaten_8 (G 28) d y 0 0 k8).1) = 0 then (if (G 28 ((4 * d) + k8)) ≤ (G 28 ((4 * y) + k8)) then 0 else 1) else 1) : Int32), ((if ((lf_M_isBeaten_8 (G 28) d y 0 0 k8).2) = 0 then (if (G 28 ((4 * y) + k8)) ≤ (G 28 ((4 * d) + k8)) then 0 else 1) else 1) : Int32)) := by rw [lf_M_isBeaten_8]
            exact ih8 (k8 + 1) (by omega) (by omega)  ls (by rw [eb8]; exact lv_sub hl [0, 1, 2, 3, 4, 5] rfl)
          refine lv_if_ne (tgt := 79) hx hb dM_isBeaten_51 (by decide) (fun c51 => ?_) (fun c51 => ?_)
          · refine lv_iconst (v := 1) hx hb dM_isBeaten_79 (by decide) ?_
            refine lv_goto (tgt := 84) hx hb dM_isBeaten_80 (by decide) ?_
            exact wt_i (by rw [if_neg c51]) (j84 ls hl)
          · refine lv_aload_n hx hb dM_isBeaten_54 rfl (lv_at hl 3 rfl) ?_
            refine va_get (D := D) (ci := 0) (v := .ref (ba 28)) (C := RM) (T := TM) (N := 29) hx hb hts inM_ hown hK hP 0 rfl hcl 28 (by decide) f63 (fun _ h9 => h9) rfl dM_isBeaten_55 ?_
            refine lv_iconst (v := 4) hx hb dM_isBeaten_58 (by decide) ?_
            refine lv_iload_n hx hb dM_isBeaten_59 rfl (lv_at hl 5 rfl) ?_
            refine lv_imul hx hb dM_isBeaten_60 ?_
            refine wt_i (r := nI (4 * y)) (by exact pk_mul 4 y) ?_
            refine lv_iload hx hb dM_isBeaten_61 (lv_at hl 1 rfl) ?_
            refine lv_iadd hx hb dM_isBeaten_63 ?_
            refine wt_i (r := nI ((4 * y) + k8)) (by exact nI_add (4 * y) k8) ?_
            have sd64 : ((4 * y) + k8) < 16384 := by omega
            refine wn_iald (f := G 28) hx hb hK hP 16 15 rfl rfl ((4 * y) + k8) rfl sd64 (by decide) dM_isBeaten_64 ?_
            refine lv_aload_n hx hb dM_isBeaten_65 rfl (lv_at hl 3 rfl) ?_
            refine va_get (D := D) (ci := 0) (v := .ref (ba 28)) (C := RM) (T := TM) (N := 29) hx hb hts inM_ hown hK hP 0 rfl hcl 28 (by decide) f63 (fun _ h9 => h9) rfl dM_isBeaten_66 ?_
            refine lv_iconst (v := 4) hx hb dM_isBeaten_69 (by decide) ?_
            refine lv_iload_n hx hb dM_isBeaten_70 rfl (lv_at hl 4 rfl) ?_
            refine lv_imul hx hb dM_isBeaten_71 ?_
            refine wt_i (r := nI (4 * d)) (by exact pk_mul 4 d) ?_
            refine lv_iload hx hb dM_isBeaten_72 (lv_at hl 1 rfl) ?_
            refine lv_iadd hx hb dM_isBeaten_74 ?_
            refine wt_i (r := nI ((4 * d) + k8)) (by exact nI_add (4 * d) k8) ?_
            have sd75 : ((4 * d) + k8) < 16384 := by omega
            refine wn_iald (f := G 28) hx hb hK hP 16 15 rfl rfl ((4 * d) + k8) rfl sd75 (by decide) dM_isBeaten_75 ?_
            refine lv_icmp_le (tgt := 83) hx hb dM_isBeaten_76 (by decide) (fun c76 => ?_) (fun c76 => ?_)
            · refine lv_iconst (v := 0) hx hb dM_isBeaten_83 (by decide) ?_
              exact wt_i (by rw [if_pos c51, if_pos c76]) (j84 ls hl)
            · refine lv_iconst (v := 1) hx hb dM_isBeaten_79 (by decide) ?_
              refine lv_goto (tgt := 84) hx hb dM_isBeaten_80 (by decide) ?_
              exact wt_i (by rw [if_pos c51, if_neg c76]) (j84 ls hl)
        refine lv_if_ne (tgt := 43) hx hb dM_isBeaten_15 (by decide) (fun c15 => ?_) (fun c15 => ?_)
        · refine lv_iconst (v := 1) hx hb dM_isBeaten_43 (by decide) ?_
          refine lv_goto (tgt := 48) hx hb dM_isBeaten_44 (by decide) ?_
          exact wt_i (by rw [if_neg c15]) (j48 ls hl)
        · refine lv_aload_n hx hb dM_isBeaten_18 rfl (lv_at hl 3 rfl) ?_
          refine va_get (D := D) (ci := 0) (v := .ref (ba 28)) (C := RM) (T := TM) (N := 29) hx hb hts inM_ hown hK hP 0 rfl hcl 28 (by decide) f63 (fun _ h9 => h9) rfl dM_isBeaten_19 ?_
          refine lv_iconst (v := 4) hx hb dM_isBeaten_22 (by decide) ?_
          refine lv_iload_n hx hb dM_isBeaten_23 rfl (lv_at hl 5 rfl) ?_
          refine lv_imul hx hb dM_isBeaten_24 ?_
          refine wt_i (r := nI (4 * y)) (by exact pk_mul 4 y) ?_
          refine lv_iload hx hb dM_isBeaten_25 (lv_at hl 0 rfl) ?_
          refine lv_iadd hx hb dM_isBeaten_27 ?_
          refine wt_i (r := nI ((4 * y) + k8)) (by exact nI_add (4 * y) k8) ?_
          have sd28 : ((4 * y) + k8) < 16384 := by omega
          refine wn_iald (f := G 28) hx hb hK hP 16 15 rfl rfl ((4 * y) + k8) rfl sd28 (by decide) dM_isBeaten_28 ?_
          refine lv_aload_n hx hb dM_isBeaten_29 rfl (lv_at hl 3 rfl) ?_
          refine va_get (D := D) (ci := 0) (v := .ref (ba 28)) (C := RM) (T := TM) (N := 29) hx hb hts inM_ hown hK hP 0 rfl hcl 28 (by decide) f63 (fun _ h9 => h9) rfl dM_isBeaten_30 ?_
          refine lv_iconst (v := 4) hx hb dM_isBeaten_33 (by decide) ?_
          refine lv_iload_n hx hb dM_isBeaten_34 rfl (lv_at hl 4 rfl) ?_
          refine lv_imul hx hb dM_isBeaten_35 ?_
          refine wt_i (r := nI (4 * d)) (by exact pk_mul 4 d) ?_
          refine lv_iload hx hb dM_isBeaten_36 (lv_at hl 0 rfl) ?_
          refine lv_iadd hx hb dM_isBeaten_38 ?_
          refine wt_i (r := nI ((4 * d) + k8)) (by exact nI_add (4 * d) k8) ?_
          have sd39 : ((4 * d) + k8) < 16384 := by omega
          refine wn_iald (f := G 28) hx hb hK hP 16 15 rfl rfl ((4 * d) + k8) rfl sd39 (by decide) dM_isBeaten_39 ?_
          refine lv_icmp_ge (tgt := 47) hx hb dM_isBeaten_40 (by decide) (fun c40 => ?_) (fun c40 => ?_)
          · refine lv_iconst (v := 0) hx hb dM_isBeaten_47 (by decide) ?_
            exact wt_i (by rw [if_pos c15, if_pos c40]) (j48 ls hl)
          · refine lv_iconst (v := 1) hx hb dM_isBeaten_43 (by decide) ?_
            refine lv_goto (tgt := 48) hx hb dM_isBeaten_44 (by decide) ?_
            exact wt_i (by rw [if_pos c15, if_neg c40]) (j48 ls hl)
  exact loop8 _ 0 (Nat.zero_le _) (Nat.lt_succ_self _)  ls (lv_sub hl [0, 1, 2, 3, 4, 5] rfl)
def lf_M_isUndominated_13 (g27 : Nat → Int32) (g28 : Nat → Int32) (nD : Nat) (d : Nat) : Nat → Nat → Int32
  | 0, y => 0
  | N + 1, y => (if (nI nD) ≤ (nI y) then 1 else (if (g27 y) = 0 then lf_M_isUndominated_13 g27 g28 nD d N (y + 1) else (if (mr_M_isBeaten g28 d y) = 0 then lf_M_isUndominated_13 g27 g28 nD d N (y + 1) else 0)))
def mr_M_isUndominated (g27 : Nat → Int32) (g28 : Nat → Int32) (nD : Nat) (d : Nat) : Int32 := (if (g27 d) = 0 then 0 else lf_M_isUndominated_13 g27 g28 nD d (nD + 1) 0)
theorem zb_M_und (g27 g28 : Nat → Int32) (nD d : Nat) : ∀ (N y : Nat), narrow .boolean (.int (lf_M_isUndominated_13 g27 g28 nD d N y)) = .int (lf_M_isUndominated_13 g27 g28 nD d N y) := by
  intro N
  induction N with
  | zero => intro y; rw [lf_M_isUndominated_13]; rfl
  | succ N ih => intro y; rw [lf_M_isUndominated_13]; repeat' first | refine zb_i ?_ ?_ | exact zb_0 | exact zb_1 | exact ih _
set_option maxHeartbeats 4000000 in
set_option maxRecDepth 100000 in
theorem c_M_isUndominated (l : Launch) (D : va_G) (cl : List vw_C) (hcl : cl[0]? = some (RM, TM, 29)) (a : Nat) (ba : Nat → Nat) (ka : Nat → ClassId) (F : Nat → Int32) (G : Nat → Nat → Int32) {H : Heap} (hP : va_P D cl (mW a ba ka F G) H) (nD : Nat) (d : Nat) (h5 : F 5 = nI nD) (hN : nD ≤ 4096) (hd : d < nD) : ro_Met l yM_isUndominated wsM_isUndominated ({ frames := 1, cells := 0, slots := 0, locals := 25 } : Room) D cl (mT ka) H [.ref a, .int (nI d)] (.int (mr_M_isUndominated (G 27) (G 28) nD d)) := by
  refine ro_metZ (by unfold mr_M_isUndominated; refine zb_i zb_0 ?_; exact zb_M_und _ _ _ _ _ _) (by decide) rfl (Nat.le_of_ble_eq_true rfl) ?_
  intro p e s m args below meth c Q Sx hK ls hl hret
  obtain ⟨hx, hb, hml, hown, hts⟩ := id Sx
  have hl : lv_has ls 3 [(0, .ref a), (1, .int (nI d))] := hl
  have f60 := hts _ (List.mem_cons_of_mem _ mfM_60)
  have inM_ : ∀ w ∈ wsM0, w ∈ wsM_isUndominated := fun w h => List.mem_cons_of_mem _ (inM_all w h)
  have f7 := hts _ (List.mem_cons_of_mem _ mfM_7)
  refine lv_aload_n hx hb dM_isUndominated_0 rfl (lv_at hl 0 rfl) ?_
  refine va_get (D := D) (ci := 0) (v := .ref (ba 27)) (C := RM) (T := TM) (N := 29) hx hb hts inM_ hown hK hP 0 rfl hcl 27 (by decide) f60 (fun _ h9 => h9) rfl dM_isUndominated_1 ?_
  refine lv_iload_n hx hb dM_isUndominated_4 rfl (lv_at hl 1 rfl) ?_
  have sd5 : d < 4096 := by omega
  refine wn_zald (f := G 27) hx hb hK hP 15 14 rfl rfl d rfl sd5 (by decide) dM_isUndominated_5 ?_
  refine lv_if_ne (tgt := 11) hx hb dM_isUndominated_6 (by decide) (fun c6 => ?_) (fun c6 => ?_)
  · refine lv_iconst (v := 0) hx hb dM_isUndominated_11 (by decide) ?_
    refine lv_istore_n (lv' := [(2, .int 0), (0, .ref a), (1, .int (nI d))]) hx hb dM_isUndominated_12 rfl hl (by decide) rfl (fun ls hl => ?_)
    have loop13 : ∀ (N13 : Nat) (y : Nat), y ≤ nD → nD - y < N13 → lf_M_isUndominated_13 (G 27) (G 28) nD d (nD + 1) 0 = lf_M_isUndominated_13 (G 27) (G 28) nD d N13 y → ∀ (ls : Array Slot), lv_has ls 3 [(2, .int (nI y)), (0, .ref a), (1, .int (nI d))] → W p l e ({ frames := 1, cells := 0, slots := 0, locals := 25 } : Room) s m args below meth c H [] 0 0 Q (F0 m 13 ls []) := by
      intro N13
      induction N13 with
      | zero => intro y hy hm13; exact absurd hm13 (Nat.not_lt_zero _)
      | succ N13 ih13 =>
        intro y hy hm13 hR13 ls hl
        refine lv_iload_n hx hb dM_isUndominated_13 rfl (lv_at hl 0 rfl) ?_
        refine lv_aload_n hx hb dM_isUndominated_14 rfl (lv_at hl 1 rfl) ?_
        refine va_get (D := D) (ci := 0) (v := .int (F 5)) (C := RM) (T := TM) (N := 29) hx hb hts inM_ hown hK hP 0 rfl hcl 5 (by decide) f7 (fun _ h9 => h9) rfl dM_isUndominated_15 ?_
        refine wt_i h5 ?_
        refine lv_icmp_ge (tgt := 47) hx hb dM_isUndominated_18 (by decide) (fun c18 => ?_) (fun c18 => ?_)
        · have n18 : nD ≤ y := (nI_leI (a := nD) (b := y) (by omega) (by omega)).mp c18
          refine lv_iconst (v := 1) hx hb dM_isUndominated_47 (by decide) ?_
          exact hret _ _ _ (by rw [mr_M_isUndominated, if_neg c6, hR13, lf_M_isUndominated_13, if_pos c18]) dM_isUndominated_48
        · have n18 : ¬ nD ≤ y := fun h9 => c18 ((nI_leI (a := nD) (b := y) (by omega) (by omega)).mpr h9)
          refine lv_aload_n hx hb dM_isUndominated_21 rfl (lv_at hl 1 rfl) ?_
          refine va_get (D := D) (ci := 0) (v := .ref (ba 27)) (C := RM) (T := TM) (N := 29) hx hb hts inM_ hown hK hP 0 rfl hcl 27 (by decide) f60 (fun _ h9 => h9) rfl dM_isUndominated_22 ?_
          refine lv_iload_n hx hb dM_isUndominated_25 rfl (lv_at hl 0 rfl) ?_
          have sd26 : y < 4096 := by omega
          refine wn_zald (f := G 27) hx hb hK hP 15 14 rfl rfl y rfl sd26 (by decide) dM_isUndominated_26 ?_
          refine lv_if_eq (tgt := 41) hx hb dM_isUndominated_27 (by decide) (fun c27 => ?_) (fun c27 => ?_)
          · refine lv_iinc (v := nI (y + 1)) (lv' := [(2, .int (nI (y + 1))), (0, .ref a), (1, .int (nI d))]) hx hb dM_isUndominated_41 hl (k := 0) rfl (by exact ii_1 y) (by decide) rfl (fun ls hl => ?_)
            refine lv_goto (tgt := 13) hx hb dM_isUndominated_44 (by decide) ?_
            have er13 : lf_M_isUndominated_13 (G 27) (G 28) nD d (N13 + 1) y = lf_M_isUndominated_13 (G 27) (G 28) nD d N13 (y + 1) := by rw [lf_M_isUndominated_13, if_neg c18, if_pos c27]
            exact ih13 (y + 1) (by omega) (by omega) (hR13.trans er13) ls (lv_sub hl [0, 1, 2] rfl)
          · refine lv_aload_n hx hb dM_isUndominated_30 rfl (lv_at hl 1 rfl) ?_
            refine lv_iload_n hx hb dM_isUndominated_31 rfl (lv_at hl 2 rfl) ?_
            refine lv_iload_n hx hb dM_isUndominated_32 rfl (lv_at hl 0 rfl) ?_
            refine ro_callV (r := (.int (mr_M_isBeaten (G 28) d y))) (As := [.int (nI d), .int (nI y)]) (rest := []) Sx (c_M_isBeaten l D cl hcl a ba ka F G hP d y (by omega) (by omega)) (cwV 2 hts gM_isUndominated_M_isBeaten rfl rfl rfl (by decide +kernel) ⟨Nat.le_of_ble_eq_true rfl, Nat.le_of_ble_eq_true rfl⟩) hK (va_recv hK hP (ci := 0) (q0 := 0) hcl rfl) rfl hl.1 rfl (Nat.le_of_ble_eq_true rfl) dM_isUndominated_33 ⟨Nat.zero_le _, Nat.zero_le _⟩ ?_
            refine lv_if_eq (tgt := 41) hx hb dM_isUndominated_36 (by decide) (fun c36 => ?_) (fun c36 => ?_)
            · refine lv_iinc (v := nI (y + 1)) (lv' := [(2, .int (nI (y + 1))), (0, .ref a), (1, .int (nI d))]) hx hb dM_isUndominated_41 hl (k := 0) rfl (by exact ii_1 y) (by decide) rfl (fun ls hl => ?_)
              refine lv_goto (tgt := 13) hx hb dM_isUndominated_44 (by decide) ?_
              have er13 : lf_M_isUndominated_13 (G 27) (G 28) nD d (N13 + 1) y = lf_M_isUndominated_13 (G 27) (G 28) nD d N13 (y + 1) := by rw [lf_M_isUndominated_13, if_neg c18, if_neg c27, if_pos c36]
              exact ih13 (y + 1) (by omega) (by omega) (hR13.trans er13) ls (lv_sub hl [0, 1, 2] rfl)
            · refine lv_iconst (v := 0) hx hb dM_isUndominated_39 (by decide) ?_
              exact hret _ _ _ (by rw [mr_M_isUndominated, if_neg c6, hR13, lf_M_isUndominated_13, if_neg c18, if_neg c27, if_neg c36]) dM_isUndominated_40
    exact loop13 (nD + 1) 0 (by omega) (by omega) rfl ls (lv_sub hl [0, 1, 2] rfl)
  · refine lv_iconst (v := 0) hx hb dM_isUndominated_9 (by decide) ?_
    exact hret _ _ _ (by rw [mr_M_isUndominated, if_pos c6]) dM_isUndominated_10
def lf_M_nears_4 (g6 : Nat → Int32) (nC : Nat) (i0 : Int32) : Nat → Int32
  | 0 => i0
  | k4 + 1 => ((lf_M_nears_4 g6 nC i0 k4) + ((g6 k4) - 1))
def mr_M_nears (g6 : Nat → Int32) (nC : Nat) : Int32 := (lf_M_nears_4 g6 nC 0 nC)
set_option maxHeartbeats 4000000 in
set_option maxRecDepth 100000 in
theorem c_M_nears (l : Launch) (D : va_G) (cl : List vw_C) (hcl : cl[0]? = some (RM, TM, 29)) (a : Nat) (ba : Nat → Nat) (ka : Nat → ClassId) (F : Nat → Int32) (G : Nat → Nat → Int32) {H : Heap} (hP : va_P D cl (mW a ba ka F G) H) (nC : Nat) (h2 : F 2 = nI nC) (hC : nC ≤ 8) : ro_Met l yM_nears wsM_nears ({ frames := 0, cells := 0, slots := 0, locals := 0 } : Room) D cl (mT ka) H [.ref a] (.int (mr_M_nears (G 6) nC)) := by
  refine ro_metI (by decide) rfl (Nat.le_of_ble_eq_true rfl) ?_
  intro p e s m args below meth c Q Sx hK ls hl hret
  obtain ⟨hx, hb, hml, hown, hts⟩ := id Sx
  have hl : lv_has ls 3 [(0, .ref a)] := hl
  have f81 := hts _ (List.mem_cons_of_mem _ mfM_81)
  have inM_ : ∀ w ∈ wsM0, w ∈ wsM_nears := fun w h => List.mem_cons_of_mem _ (inM_all w h)
  have f13 := hts _ (List.mem_cons_of_mem _ mfM_13)
  refine lv_iconst (v := 0) hx hb dM_nears_0 (by decide) ?_
  refine lv_istore_n (lv' := [(1, .int 0), (0, .ref a)]) hx hb dM_nears_1 rfl hl (by decide) rfl (fun ls hl => ?_)
  refine lv_iconst (v := 0) hx hb dM_nears_2 (by decide) ?_
  refine lv_istore_n (lv' := [(2, .int 0), (1, .int 0), (0, .ref a)]) hx hb dM_nears_3 rfl hl (by decide) rfl (fun ls hl => ?_)
  have loop4 : ∀ (N4 k4 : Nat), k4 ≤ nC → nC - k4 < N4 → ∀ (ls : Array Slot), lv_has ls 3 [(2, .int (nI k4)), (1, .int (lf_M_nears_4 (G 6) nC 0 k4)), (0, .ref a)] → W p l e ({ frames := 0, cells := 0, slots := 0, locals := 0 } : Room) s m args below meth c H [] 0 0 Q (F0 m 4 ls []) := by
    intro N4
    induction N4 with
    | zero => intro k4 hk4 hm4; exact absurd hm4 (Nat.not_lt_zero _)
    | succ N4 ih4 =>
      intro k4 hk4 hm4  ls hl
      refine lv_iload_n hx hb dM_nears_4 rfl (lv_at hl 0 rfl) ?_
      refine lv_aload_n hx hb dM_nears_5 rfl (lv_at hl 2 rfl) ?_
      refine va_get (D := D) (ci := 0) (v := .int (F 2)) (C := RM) (T := TM) (N := 29) hx hb hts inM_ hown hK hP 0 rfl hcl 2 (by decide) f81 (fun _ h9 => h9) rfl dM_nears_6 ?_
      refine wt_i h2 ?_
      refine lv_icmp_ge (tgt := 29) hx hb dM_nears_9 (by decide) (fun c9 => ?_) (fun c9 => ?_)
      · have n9 : nC ≤ k4 := (nI_leI (a := nC) (b := k4) (by omega) (by omega)).mp c9
        have hx4 : nC = k4 := by omega
        subst hx4
        refine lv_iload_n hx hb dM_nears_29 rfl (lv_at hl 1 rfl) ?_
        exact hret _ _ _ (by rw [mr_M_nears]) dM_nears_30
      · have n9 : ¬ nC ≤ k4 := fun h9 => c9 ((nI_leI (a := nC) (b := k4) (by omega) (by omega)).mpr h9)
        refine lv_iload_n hx hb dM_nears_12 rfl (lv_at hl 1 rfl) ?_
        refine lv_aload_n hx hb dM_nears_13 rfl (lv_at hl 2 rfl) ?_
        refine va_get (D := D) (ci := 0) (v := .ref (ba 6)) (C := RM) (T := TM) (N := 29) hx hb hts inM_ hown hK hP 0 rfl hcl 6 (by decide) f13 (fun _ h9 => h9) rfl dM_nears_14 ?_
        refine lv_iload_n hx hb dM_nears_17 rfl (lv_at hl 0 rfl) ?_
        have sd18 : k4 < 8 := by omega
        refine wn_iald (f := G 6) hx hb hK hP 1 0 rfl rfl k4 rfl sd18 (by decide) dM_nears_18 ?_
        refine lv_iconst (v := 1) hx hb dM_nears_19 (by decide) ?_
        refine lv_isub hx hb dM_nears_20 ?_
        refine lv_iadd hx hb dM_nears_21 ?_
        refine lv_istore_n (lv' := [(1, .int ((lf_M_nears_4 (G 6) nC 0 k4) + ((G 6 k4) - 1))), (2, .int (nI k4)), (0, .ref a)]) hx hb dM_nears_22 rfl hl (by decide) rfl (fun ls hl => ?_)
        refine lv_iinc (v := nI (k4 + 1)) (lv' := [(2, .int (nI (k4 + 1))), (1, .int ((lf_M_nears_4 (G 6) nC 0 k4) + ((G 6 k4) - 1))), (0, .ref a)]) hx hb dM_nears_23 hl (k := 1) rfl (by exact ii_1 k4) (by decide) rfl (fun ls hl => ?_)
        refine lv_goto (tgt := 4) hx hb dM_nears_26 (by decide) ?_
        have eb4 : lf_M_nears_4 (G 6) nC 0 (k4 + 1) = (lf_M_nears_4 (G 6) nC 0 k4) + ((G 6 k4) - 1) := by rw [lf_M_nears_4]
        exact ih4 (k4 + 1) (by omega) (by omega)  ls (by rw [eb4]; exact lv_sub hl [0, 1, 2] rfl)
  exact loop4 _ 0 (Nat.zero_le _) (Nat.lt_succ_self _)  ls (lv_sub hl [0, 1, 2] rfl)
def mr_M_cost (g28 : Nat → Int32) (d : Nat) : Int64 := (((((g28 (4 * d)).toInt64) + ((g28 ((4 * d) + 1)).toInt64)) + ((g28 ((4 * d) + 2)).toInt64)) + ((g28 ((4 * d) + 3)).toInt64))
set_option maxHeartbeats 4000000 in
set_option maxRecDepth 100000 in
theorem c_M_cost (l : Launch) (D : va_G) (cl : List vw_C) (hcl : cl[0]? = some (RM, TM, 29)) (a : Nat) (ba : Nat → Nat) (ka : Nat → ClassId) (F : Nat → Int32) (G : Nat → Nat → Int32) {H : Heap} (hP : va_P D cl (mW a ba ka F G) H) (d : Nat) (hd : d < 4096) : ro_Met l yM_cost wsM_cost ({ frames := 0, cells := 0, slots := 0, locals := 0 } : Room) D cl (mT ka) H [.ref a, .int (nI d)] (.long (mr_M_cost (G 28) d)) := by
  refine ro_metJ (by decide) rfl (Nat.le_of_ble_eq_true rfl) ?_
  intro p e s m args below meth c Q Sx hK ls hl hret
  obtain ⟨hx, hb, hml, hown, hts⟩ := id Sx
  have hl : lv_has ls 2 [(0, .ref a), (1, .int (nI d))] := hl
  have f63 := hts _ (List.mem_cons_of_mem _ mfM_63)
  have inM_ : ∀ w ∈ wsM0, w ∈ wsM_cost := fun w h => List.mem_cons_of_mem _ (inM_all w h)
  refine lv_aload_n hx hb dM_cost_0 rfl (lv_at hl 0 rfl) ?_
  refine va_get (D := D) (ci := 0) (v := .ref (ba 28)) (C := RM) (T := TM) (N := 29) hx hb hts inM_ hown hK hP 0 rfl hcl 28 (by decide) f63 (fun _ h9 => h9) rfl dM_cost_1 ?_
  refine lv_iconst (v := 4) hx hb dM_cost_4 (by decide) ?_
  refine lv_iload_n hx hb dM_cost_5 rfl (lv_at hl 1 rfl) ?_
  refine lv_imul hx hb dM_cost_6 ?_
  refine wt_i (r := nI (4 * d)) (by exact pk_mul 4 d) ?_
  have sd7 : (4 * d) < 16384 := by omega
  refine wn_iald (f := G 28) hx hb hK hP 16 15 rfl rfl (4 * d) rfl sd7 (by decide) dM_cost_7 ?_
  refine lv_i2l hx hb dM_cost_8 rfl ?_
  refine lv_aload_n hx hb dM_cost_9 rfl (lv_at hl 0 rfl) ?_
  refine va_get (D := D) (ci := 0) (v := .ref (ba 28)) (C := RM) (T := TM) (N := 29) hx hb hts inM_ hown hK hP 0 rfl hcl 28 (by decide) f63 (fun _ h9 => h9) rfl dM_cost_10 ?_
  refine lv_iconst (v := 4) hx hb dM_cost_13 (by decide) ?_
  refine lv_iload_n hx hb dM_cost_14 rfl (lv_at hl 1 rfl) ?_
  refine lv_imul hx hb dM_cost_15 ?_
  refine wt_i (r := nI (4 * d)) (by exact pk_mul 4 d) ?_
  refine lv_iconst (v := 1) hx hb dM_cost_16 (by decide) ?_
  refine lv_iadd hx hb dM_cost_17 ?_
  refine wt_i (r := nI ((4 * d) + 1)) (by exact nI_add (4 * d) 1) ?_
  have sd18 : ((4 * d) + 1) < 16384 := by omega
  refine wn_iald (f := G 28) hx hb hK hP 16 15 rfl rfl ((4 * d) + 1) rfl sd18 (by decide) dM_cost_18 ?_
  refine lv_i2l hx hb dM_cost_19 rfl ?_
  refine lv_ladd hx hb dM_cost_20 ?_
  refine lv_aload_n hx hb dM_cost_21 rfl (lv_at hl 0 rfl) ?_
  refine va_get (D := D) (ci := 0) (v := .ref (ba 28)) (C := RM) (T := TM) (N := 29) hx hb hts inM_ hown hK hP 0 rfl hcl 28 (by decide) f63 (fun _ h9 => h9) rfl dM_cost_22 ?_
  refine lv_iconst (v := 4) hx hb dM_cost_25 (by decide) ?_
  refine lv_iload_n hx hb dM_cost_26 rfl (lv_at hl 1 rfl) ?_
  refine lv_imul hx hb dM_cost_27 ?_
  refine wt_i (r := nI (4 * d)) (by exact pk_mul 4 d) ?_
  refine lv_iconst (v := 2) hx hb dM_cost_28 (by decide) ?_
  refine lv_iadd hx hb dM_cost_29 ?_
  refine wt_i (r := nI ((4 * d) + 2)) (by exact nI_add (4 * d) 2) ?_
  have sd30 : ((4 * d) + 2) < 16384 := by omega
  refine wn_iald (f := G 28) hx hb hK hP 16 15 rfl rfl ((4 * d) + 2) rfl sd30 (by decide) dM_cost_30 ?_
  refine lv_i2l hx hb dM_cost_31 rfl ?_
  refine lv_ladd hx hb dM_cost_32 ?_
  refine lv_aload_n hx hb dM_cost_33 rfl (lv_at hl 0 rfl) ?_
  refine va_get (D := D) (ci := 0) (v := .ref (ba 28)) (C := RM) (T := TM) (N := 29) hx hb hts inM_ hown hK hP 0 rfl hcl 28 (by decide) f63 (fun _ h9 => h9) rfl dM_cost_34 ?_
  refine lv_iconst (v := 4) hx hb dM_cost_37 (by decide) ?_
  refine lv_iload_n hx hb dM_cost_38 rfl (lv_at hl 1 rfl) ?_
  refine lv_imul hx hb dM_cost_39 ?_
  refine wt_i (r := nI (4 * d)) (by exact pk_mul 4 d) ?_
  refine lv_iconst (v := 3) hx hb dM_cost_40 (by decide) ?_
  refine lv_iadd hx hb dM_cost_41 ?_
  refine wt_i (r := nI ((4 * d) + 3)) (by exact nI_add (4 * d) 3) ?_
  have sd42 : ((4 * d) + 3) < 16384 := by omega
  refine wn_iald (f := G 28) hx hb hK hP 16 15 rfl rfl ((4 * d) + 3) rfl sd42 (by decide) dM_cost_42 ?_
  refine lv_i2l hx hb dM_cost_43 rfl ?_
  refine lv_ladd hx hb dM_cost_44 ?_
  exact hret _ _ _ (by rw [mr_M_cost]) dM_cost_45
def mr_M_looked (f20 : Int32) : Int32 × Int32 := (f20, 0)
set_option maxHeartbeats 4000000 in
set_option maxRecDepth 100000 in
theorem c_M_looked (l : Launch) (D : va_G) (cl : List vw_C) (hcl : cl[0]? = some (RM, TM, 29)) (a : Nat) (ba : Nat → Nat) (ka : Nat → ClassId) (F : Nat → Int32) (G : Nat → Nat → Int32) {H0 : Heap} (hP : va_P D cl (mW a ba ka F G) H0) (hD : va_D (fun _ => True) (mW a ba ka F G)) : ww_Met l yM_looked wsM_looked ({ frames := 0, cells := 0, slots := 0, locals := 0 } : Room) D cl (mT ka) H0 [.ref a] (mW a ba ka F G) (some (.int ((mr_M_looked (F 20)).1))) (mW a ba ka (upd F 0 ((mr_M_looked (F 20)).2)) G) := by
  refine ww_metI (by decide) rfl (Nat.le_of_ble_eq_true rfl) hP hD ?_
  intro p e s m args below meth c Q A Sx hK hP hD hS hA ls hl hret
  obtain ⟨hx, hb, hml, hown, hts⟩ := id Sx
  have hl : lv_has ls 1 [(0, .ref a)] := hl
  obtain ⟨H, eH⟩ : ∃ H : Heap, H = H0 := ⟨_, rfl⟩
  obtain ⟨locs, eL⟩ : ∃ L : List Loc, L = [] := ⟨_, rfl⟩
  have hP : va_P D cl (mW a ba ka F G) H := by rw [eH]; exact hP
  have hS : va_S A H0 H locs := by rw [eH, eL]; exact hS
  rw [show W p l e ({ frames := 0, cells := 0, slots := 0, locals := 0 } : Room) s m args below meth c H0 [] 0 0 Q (F0 m 0 ls []) = W p l e ({ frames := 0, cells := 0, slots := 0, locals := 0 } : Room) s m args below meth c H locs 0 0 Q (F0 m 0 ls []) by rw [eH, eL]]
  clear eH eL
  have f70 := hts _ (List.mem_cons_of_mem _ mfM_70)
  have inM_ : ∀ w ∈ wsM0, w ∈ wsM_looked := fun w h => List.mem_cons_of_mem _ (inM_all w h)
  have f136 := hts _ (List.mem_cons_of_mem _ mfM_136)
  refine lv_aload_n hx hb dM_looked_0 rfl (lv_at hl 0 rfl) ?_
  refine lv_iconst (v := 0) hx hb dM_looked_1 (by decide) ?_
  refine va_put (D := D) (ci := 0) (fs := mWl0 ba F) (v := .int 0) (ty := .int) (C := RM) (T := TM) (N := 29) hx hb hts inM_ tyM tyM_ok nmM hown hK hP hD hS 0 rfl hcl 0 (by decide) f70 (fun _ h9 => h9) rfl (by decide +kernel) rfl rfl (Nat.le_of_ble_eq_true rfl) dM_looked_2 (fun H locs hP hD hS => ?_)
  rw [mW_f0] at hP hD
  refine lv_aload_n hx hb dM_looked_5 rfl (lv_at hl 0 rfl) ?_
  refine va_get (D := D) (ci := 0) (v := .int (F 20)) (C := RM) (T := TM) (N := 29) hx hb hts inM_ hown hK hP 0 rfl hcl 20 (by decide) f136 (fun _ h9 => h9) rfl dM_looked_6 ?_
  have em : mr_M_looked (F 20) = (F 20, 0) := by rw [mr_M_looked]
  exact hret _ _ _ _ _ _ (by simp only [em]) (by simp only [em]) hP hD hS dM_looked_9
def mr_M_lowest (f22 : Int32) : Int32 × Int32 := (f22, 0)
set_option maxHeartbeats 4000000 in
set_option maxRecDepth 100000 in
theorem c_M_lowest (l : Launch) (D : va_G) (cl : List vw_C) (hcl : cl[0]? = some (RM, TM, 29)) (a : Nat) (ba : Nat → Nat) (ka : Nat → ClassId) (F : Nat → Int32) (G : Nat → Nat → Int32) {H0 : Heap} (hP : va_P D cl (mW a ba ka F G) H0) (hD : va_D (fun _ => True) (mW a ba ka F G)) : ww_Met l yM_lowest wsM_lowest ({ frames := 0, cells := 0, slots := 0, locals := 0 } : Room) D cl (mT ka) H0 [.ref a] (mW a ba ka F G) (some (.int ((mr_M_lowest (F 22)).1))) (mW a ba ka (upd F 0 ((mr_M_lowest (F 22)).2)) G) := by
  refine ww_metI (by decide) rfl (Nat.le_of_ble_eq_true rfl) hP hD ?_
  intro p e s m args below meth c Q A Sx hK hP hD hS hA ls hl hret
  obtain ⟨hx, hb, hml, hown, hts⟩ := id Sx
  have hl : lv_has ls 1 [(0, .ref a)] := hl
  obtain ⟨H, eH⟩ : ∃ H : Heap, H = H0 := ⟨_, rfl⟩
  obtain ⟨locs, eL⟩ : ∃ L : List Loc, L = [] := ⟨_, rfl⟩
  have hP : va_P D cl (mW a ba ka F G) H := by rw [eH]; exact hP
  have hS : va_S A H0 H locs := by rw [eH, eL]; exact hS
  rw [show W p l e ({ frames := 0, cells := 0, slots := 0, locals := 0 } : Room) s m args below meth c H0 [] 0 0 Q (F0 m 0 ls []) = W p l e ({ frames := 0, cells := 0, slots := 0, locals := 0 } : Room) s m args below meth c H locs 0 0 Q (F0 m 0 ls []) by rw [eH, eL]]
  clear eH eL
  have f70 := hts _ (List.mem_cons_of_mem _ mfM_70)
  have inM_ : ∀ w ∈ wsM0, w ∈ wsM_lowest := fun w h => List.mem_cons_of_mem _ (inM_all w h)
  have f57 := hts _ (List.mem_cons_of_mem _ mfM_57)
  refine lv_aload_n hx hb dM_lowest_0 rfl (lv_at hl 0 rfl) ?_
  refine lv_iconst (v := 0) hx hb dM_lowest_1 (by decide) ?_
  refine va_put (D := D) (ci := 0) (fs := mWl0 ba F) (v := .int 0) (ty := .int) (C := RM) (T := TM) (N := 29) hx hb hts inM_ tyM tyM_ok nmM hown hK hP hD hS 0 rfl hcl 0 (by decide) f70 (fun _ h9 => h9) rfl (by decide +kernel) rfl rfl (Nat.le_of_ble_eq_true rfl) dM_lowest_2 (fun H locs hP hD hS => ?_)
  rw [mW_f0] at hP hD
  refine lv_aload_n hx hb dM_lowest_5 rfl (lv_at hl 0 rfl) ?_
  refine va_get (D := D) (ci := 0) (v := .int (F 22)) (C := RM) (T := TM) (N := 29) hx hb hts inM_ hown hK hP 0 rfl hcl 22 (by decide) f57 (fun _ h9 => h9) rfl dM_lowest_6 ?_
  have em : mr_M_lowest (F 22) = (F 22, 0) := by rw [mr_M_lowest]
  exact hret _ _ _ _ _ _ (by simp only [em]) (by simp only [em]) hP hD hS dM_lowest_9
def mr_M_slack (f21 : Int32) (x : Int32) : Int32 × Int32 × Int32 := (if 0 ≤ x then (f21, 0, x) else ((mr_M_fail 1).1, (mr_M_fail 1).2, f21))
set_option maxHeartbeats 4000000 in
set_option maxRecDepth 100000 in
theorem c_M_slack (l : Launch) (D : va_G) (cl : List vw_C) (hcl : cl[0]? = some (RM, TM, 29)) (a : Nat) (ba : Nat → Nat) (ka : Nat → ClassId) (F : Nat → Int32) (G : Nat → Nat → Int32) {H0 : Heap} (hP : va_P D cl (mW a ba ka F G) H0) (hD : va_D (fun _ => True) (mW a ba ka F G)) (x : Int32) : ww_Met l yM_slack wsM_slack ({ frames := 1, cells := 0, slots := 0, locals := 21 } : Room) D cl (mT ka) H0 [.ref a, .int x] (mW a ba ka F G) (some (.int ((mr_M_slack (F 21) x).1))) (mW a ba ka (upd (upd F 0 ((mr_M_slack (F 21) x).2.1)) 21 ((mr_M_slack (F 21) x).2.2)) G) := by
  refine ww_metI (by decide) rfl (Nat.le_of_ble_eq_true rfl) hP hD ?_
  intro p e s m args below meth c Q A Sx hK hP hD hS hA ls hl hret
  obtain ⟨hx, hb, hml, hown, hts⟩ := id Sx
  have hl : lv_has ls 3 [(0, .ref a), (1, .int x)] := hl
  obtain ⟨H, eH⟩ : ∃ H : Heap, H = H0 := ⟨_, rfl⟩
  obtain ⟨locs, eL⟩ : ∃ L : List Loc, L = [] := ⟨_, rfl⟩
  have hP : va_P D cl (mW a ba ka F G) H := by rw [eH]; exact hP
  have hS : va_S A H0 H locs := by rw [eH, eL]; exact hS
  rw [show W p l e ({ frames := 1, cells := 0, slots := 0, locals := 21 } : Room) s m args below meth c H0 [] 0 0 Q (F0 m 0 ls []) = W p l e ({ frames := 1, cells := 0, slots := 0, locals := 21 } : Room) s m args below meth c H locs 0 0 Q (F0 m 0 ls []) by rw [eH, eL]]
  clear eH eL
  have f70 := hts _ (List.mem_cons_of_mem _ mfM_70)
  have inM_ : ∀ w ∈ wsM0, w ∈ wsM_slack := fun w h => List.mem_cons_of_mem _ (inM_all w h)
  have f153 := hts _ (List.mem_cons_of_mem _ mfM_153)
  refine lv_aload_n hx hb dM_slack_0 rfl (lv_at hl 0 rfl) ?_
  refine lv_iconst (v := 0) hx hb dM_slack_1 (by decide) ?_
  refine va_put (D := D) (ci := 0) (fs := mWl0 ba F) (v := .int 0) (ty := .int) (C := RM) (T := TM) (N := 29) hx hb hts inM_ tyM tyM_ok nmM hown hK hP hD hS 0 rfl hcl 0 (by decide) f70 (fun _ h9 => h9) rfl (by decide +kernel) rfl rfl (Nat.le_of_ble_eq_true rfl) dM_slack_2 (fun H locs hP hD hS => ?_)
  rw [mW_f0] at hP hD
  refine lv_iload_n hx hb dM_slack_5 rfl (lv_at hl 1 rfl) ?_
  refine lv_if_ge (tgt := 15) hx hb dM_slack_6 (by decide) (fun c6 => ?_) (fun c6 => ?_)
  · refine lv_aload_n hx hb dM_slack_15 rfl (lv_at hl 0 rfl) ?_
    refine va_get (D := D) (ci := 0) (v := .int (F 21)) (C := RM) (T := TM) (N := 29) hx hb hts inM_ hown hK hP 0 rfl hcl 21 (by decide) f153 (fun _ h9 => h9) rfl dM_slack_16 ?_
    refine lv_istore_n (lv' := [(2, .int (F 21)), (0, .ref a), (1, .int x)]) hx hb dM_slack_19 rfl hl (by decide) rfl (fun ls hl => ?_)
    refine lv_aload_n hx hb dM_slack_20 rfl (lv_at hl 1 rfl) ?_
    refine lv_iload_n hx hb dM_slack_21 rfl (lv_at hl 2 rfl) ?_
    refine va_put (D := D) (ci := 0) (fs := mWl0 ba (upd F 0 0)) (v := .int x) (ty := .int) (C := RM) (T := TM) (N := 29) hx hb hts inM_ tyM tyM_ok nmM hown hK hP hD hS 0 rfl hcl 21 (by decide) f153 (fun _ h9 => h9) rfl (by decide +kernel) rfl rfl (Nat.le_of_ble_eq_true rfl) dM_slack_22 (fun H locs hP hD hS => ?_)
    rw [mW_f21] at hP hD
    refine lv_iload_n hx hb dM_slack_25 rfl (lv_at hl 0 rfl) ?_
    have em : mr_M_slack (F 21) x = (F 21, 0, x) := by rw [mr_M_slack, if_pos c6]
    exact hret _ _ _ _ _ _ (by simp only [em]) (by simp only [em]) hP hD hS dM_slack_26
  · refine lv_aload_n hx hb dM_slack_9 rfl (lv_at hl 0 rfl) ?_
    refine lv_iconst (v := 1) hx hb dM_slack_10 (by decide) ?_
    refine ww_callV (r := (some (.int ((mr_M_fail 1).1)))) (w' := mW a ba ka (upd (upd F 0 0) 0 ((mr_M_fail 1).2)) G) (As := [.int 1]) (rest := []) Sx (c_M_fail l D cl hcl a ba ka (upd F 0 0) G hP (hD.weaken (fun _ _ _ _ => trivial)) 1) (cwV 1 hts gM_slack_M_fail rfl rfl rfl (by decide +kernel) ⟨Nat.le_of_ble_eq_true rfl, Nat.le_of_ble_eq_true rfl⟩) hK (va_recv hK hP (ci := 0) (q0 := 0) hcl rfl) rfl hl.1 rfl (Nat.le_of_ble_eq_true rfl) dM_slack_11 ⟨Nat.zero_le _, Nat.zero_le _⟩ hD hS hA (fun H locs hP hD hS => ?_)
    rw [upd_ow] at hP hD
    have em : mr_M_slack (F 21) x = ((mr_M_fail 1).1, (mr_M_fail 1).2, F 21) := by rw [mr_M_slack, if_neg c6]
    exact hret _ _ _ _ _ _ (by simp only [em]) (by simp only [em]; rw [upd_keep (f := upd F 0 ((mr_M_fail 1).2)) (j := 21) (x := F 21) rfl]) hP hD hS dM_slack_14
def lf_M_open_10 (g6 : Nat → Int32) (nC : Nat) (d : Nat) (st : Nat) (i0 : Int32) (i1 : (Nat → Int32)) : Nat → Int32 × (Nat → Int32)
  | 0 => (i0, i1)
  | k10 + 1 => (((lf_M_open_10 g6 nC d st i0 i1 k10).1) / (g6 (nC - 1 - k10)), upd ((lf_M_open_10 g6 nC d st i0 i1 k10).2) (nC - 1 - k10) ((if (nI st) ≤ (nI (nC - k10) - 1) then (-1) else ((lf_M_open_10 g6 nC d st i0 i1 k10).1) - ((lf_M_open_10 g6 nC d st i0 i1 k10).1) / (g6 (nC - 1 - k10)) * (g6 (nC - 1 - k10))) : Int32))
def mr_M_open (g6 : Nat → Int32) (g19 : Nat → Int32) (nC : Nat) (d : Nat) (st : Nat) : (Nat → Int32) := ((lf_M_open_10 g6 nC d st (nI d) g19 nC).2)
set_option maxHeartbeats 4000000 in
set_option maxRecDepth 100000 in
theorem c_M_open (l : Launch) (D : va_G) (cl : List vw_C) (hcl : cl[0]? = some (RM, TM, 29)) (a : Nat) (ba : Nat → Nat) (ka : Nat → ClassId) (F : Nat → Int32) (G : Nat → Nat → Int32) {H0 : Heap} (hP : va_P D cl (mW a ba ka F G) H0) (hD : va_D (fun _ => True) (mW a ba ka F G)) (nC : Nat) (d : Nat) (st : Nat) (h2 : F 2 = nI nC) (hC : nC ≤ 8) (h6 : ∀ c, c < nC → ∃ z : Nat, G 6 c = nI z ∧ 2 ≤ z ∧ z ≤ 6) (hst : st ≤ 8) : ww_Met l yM_open wsM_open ({ frames := 0, cells := 0, slots := 0, locals := 0 } : Room) D cl (mT ka) H0 [.ref a, .int (nI d), .int (nI st)] (mW a ba ka F G) none (mW a ba ka F (va_up G 19 (mr_M_open (G 6) (G 19) nC d st))) := by
  refine ww_metV (by decide) rfl (Nat.le_of_ble_eq_true rfl) hP hD ?_
  intro p e s m args below meth c Q A Sx hK hP hD hS hA ls hl hret
  obtain ⟨hx, hb, hml, hown, hts⟩ := id Sx
  have hl : lv_has ls 5 [(0, .ref a), (1, .int (nI d)), (2, .int (nI st))] := hl
  obtain ⟨H, eH⟩ : ∃ H : Heap, H = H0 := ⟨_, rfl⟩
  obtain ⟨locs, eL⟩ : ∃ L : List Loc, L = [] := ⟨_, rfl⟩
  have hP : va_P D cl (mW a ba ka F G) H := by rw [eH]; exact hP
  have hS : va_S A H0 H locs := by rw [eH, eL]; exact hS
  rw [show W p l e ({ frames := 0, cells := 0, slots := 0, locals := 0 } : Room) s m args below meth c H0 [] 0 0 Q (F0 m 0 ls []) = W p l e ({ frames := 0, cells := 0, slots := 0, locals := 0 } : Room) s m args below meth c H locs 0 0 Q (F0 m 0 ls []) by rw [eH, eL]]
  clear eH eL
  have f81 := hts _ (List.mem_cons_of_mem _ mfM_81)
  have inM_ : ∀ w ∈ wsM0, w ∈ wsM_open := fun w h => List.mem_cons_of_mem _ (inM_all w h)
  have f54 := hts _ (List.mem_cons_of_mem _ mfM_54)
  have f13 := hts _ (List.mem_cons_of_mem _ mfM_13)
  refine lv_iload_n hx hb dM_open_0 rfl (lv_at hl 1 rfl) ?_
  refine lv_istore_n (lv' := [(3, .int (nI d)), (0, .ref a), (1, .int (nI d)), (2, .int (nI st))]) hx hb dM_open_1 rfl hl (by decide) rfl (fun ls hl => ?_)
  refine lv_aload_n hx hb dM_open_2 rfl (lv_at hl 1 rfl) ?_
  refine va_get (D := D) (ci := 0) (v := .int (F 2)) (C := RM) (T := TM) (N := 29) hx hb hts inM_ hown hK hP 0 rfl hcl 2 (by decide) f81 (fun _ h9 => h9) rfl dM_open_3 ?_
  refine wt_i h2 ?_
  refine lv_iconst (v := 1) hx hb dM_open_6 (by decide) ?_
  refine lv_isub hx hb dM_open_7 ?_
  refine lv_istore (lv' := [(4, .int ((nI nC) - 1)), (3, .int (nI d)), (0, .ref a), (1, .int (nI d)), (2, .int (nI st))]) hx hb dM_open_8 hl (by decide) rfl (fun ls hl => ?_)
  have loop10 : ∀ (N10 k10 : Nat), k10 ≤ nC → nC - k10 < N10 → ∀ (H : Heap) (locs : List Loc), va_P D cl (mW a ba ka F (va_up G 19 ((lf_M_open_10 (G 6) nC d st (nI d) (G 19) k10).2))) H → va_D A (mW a ba ka F (va_up G 19 ((lf_M_open_10 (G 6) nC d st (nI d) (G 19) k10).2))) → va_S A H0 H locs → ∀ (ls : Array Slot), lv_has ls 5 [(4, .int (nI (nC - k10) - 1)), (3, .int ((lf_M_open_10 (G 6) nC d st (nI d) (G 19) k10).1)), (0, .ref a), (1, .int (nI d)), (2, .int (nI st))] → W p l e ({ frames := 0, cells := 0, slots := 0, locals := 0 } : Room) s m args below meth c H locs 0 0 Q (F0 m 10 ls []) := by
    intro N10
    induction N10 with
    | zero => intro k10 hk10 hm10; exact absurd hm10 (Nat.not_lt_zero _)
    | succ N10 ih10 =>
      intro k10 hk10 hm10  H locs hP hD hS ls hl
      refine lv_iload hx hb dM_open_10 (lv_at hl 0 rfl) ?_
      refine lv_if_lt (tgt := 57) hx hb dM_open_12 (by decide) (fun c12 => ?_) (fun c12 => ?_)
      · have n12 : nC ≤ k10 := dn_neg c12 (by omega)
        have hx10 : nC = k10 := by omega
        subst hx10
        have em : mr_M_open (G 6) (G 19) nC d st = (lf_M_open_10 (G 6) nC d st (nI d) (G 19) nC).2 := by rw [mr_M_open]
        exact hret _ _ _ _ _ (by simp only [em]) hP hD hS dM_open_57
      · have n12 : ¬ nC ≤ k10 := dn_nneg c12 (by omega)
        have c0 : nI (nC - k10) - 1 = nI (nC - 1 - k10) := dn_ix (by omega)
        obtain ⟨z, ez, hz1, hz2⟩ := h6 (nC - 1 - k10) (by omega)
        have hz0 : ¬ G 6 (nC - 1 - k10) = 0 := by rw [ez]; exact nI_ne0 (by omega) (by omega)
        refine lv_aload_n hx hb dM_open_15 rfl (lv_at hl 2 rfl) ?_
        refine va_get (D := D) (ci := 0) (v := .ref (ba 19)) (C := RM) (T := TM) (N := 29) hx hb hts inM_ hown hK hP 0 rfl hcl 19 (by decide) f54 (fun _ h9 => h9) rfl dM_open_16 ?_
        refine lv_iload hx hb dM_open_19 (lv_at hl 0 rfl) ?_
        refine lv_iload hx hb dM_open_21 (lv_at hl 0 rfl) ?_
        refine lv_iload_n hx hb dM_open_23 rfl (lv_at hl 4 rfl) ?_
        have j40 : ∀ (ls : Array Slot), lv_has ls 5 [(4, .int (nI (nC - k10) - 1)), (3, .int ((lf_M_open_10 (G 6) nC d st (nI d) (G 19) k10).1)), (0, .ref a), (1, .int (nI d)), (2, .int (nI st))] → W p l e ({ frames := 0, cells := 0, slots := 0, locals := 0 } : Room) s m args below meth c H locs 0 0 Q (F0 m 40 ls [.int ((if (nI st) ≤ (nI (nC - k10) - 1) then (-1) else ((lf_M_open_10 (G 6) nC d st (nI d) (G 19) k10).1) - ((lf_M_open_10 (G 6) nC d st (nI d) (G 19) k10).1) / (G 6 (nC - 1 - k10)) * (G 6 (nC - 1 - k10))) : Int32), .int (nI (nC - k10) - 1), .ref (ba 19)]) := by
          intro ls hl
          have sd40 : nC - 1 - k10 < 8 := by omega
          have eg40 : (va_up G 19 ((lf_M_open_10 (G 6) nC d st (nI d) (G 19) k10).2)) 19 = (lf_M_open_10 (G 6) nC d st (nI d) (G 19) k10).2 := by rw [vup_us]
          refine wn_iast (f := (lf_M_open_10 (G 6) nC d st (nI d) (G 19) k10).2) hx hb hK hP hD hS 14 13 (congrArg (fun z : Nat → Int32 => (some ((ba 19), (.inl ((ka 19), 8, .inl z) : va_E)) : Option (Nat × va_E))) eg40) rfl (nC - 1 - k10) c0 sd40 (by decide) dM_open_40 (fun H locs hP hD hS => ?_)
          rw [mW_g19, vup_ow] at hP hD
          refine lv_iload_n hx hb dM_open_41 rfl (lv_at hl 1 rfl) ?_
          refine lv_aload_n hx hb dM_open_42 rfl (lv_at hl 2 rfl) ?_
          refine va_get (D := D) (ci := 0) (v := .ref (ba 6)) (C := RM) (T := TM) (N := 29) hx hb hts inM_ hown hK hP 0 rfl hcl 6 (by decide) f13 (fun _ h9 => h9) rfl dM_open_43 ?_
          refine lv_iload hx hb dM_open_46 (lv_at hl 0 rfl) ?_
          have sd48 : nC - 1 - k10 < 8 := by omega
          refine wn_iald (f := G 6) hx hb hK hP 1 0 rfl rfl (nC - 1 - k10) c0 sd48 (by decide) dM_open_48 ?_
          have sd49 : ¬ (G 6 (nC - 1 - k10)) = 0 := by assumption
          refine lv_idiv hx hb dM_open_49 sd49 ?_
          refine lv_istore_n (lv' := [(3, .int (((lf_M_open_10 (G 6) nC d st (nI d) (G 19) k10).1) / (G 6 (nC - 1 - k10)))), (4, .int (nI (nC - k10) - 1)), (0, .ref a), (1, .int (nI d)), (2, .int (nI st))]) hx hb dM_open_50 rfl hl (by decide) rfl (fun ls hl => ?_)
          refine lv_iinc (v := nI (nC - (k10 + 1)) - 1) (lv' := [(4, .int (nI (nC - (k10 + 1)) - 1)), (3, .int (((lf_M_open_10 (G 6) nC d st (nI d) (G 19) k10).1) / (G 6 (nC - 1 - k10)))), (0, .ref a), (1, .int (nI d)), (2, .int (nI st))]) hx hb dM_open_51 hl (k := 1) rfl (by exact dn_dec (by omega)) (by decide) rfl (fun ls hl => ?_)
          refine lv_goto (tgt := 10) hx hb dM_open_54 (by decide) ?_
          have eb10 : lf_M_open_10 (G 6) nC d st (nI d) (G 19) (k10 + 1) = (((lf_M_open_10 (G 6) nC d st (nI d) (G 19) k10).1) / (G 6 (nC - 1 - k10)), upd ((lf_M_open_10 (G 6) nC d st (nI d) (G 19) k10).2) (nC - 1 - k10) ((if (nI st) ≤ (nI (nC - k10) - 1) then (-1) else ((lf_M_open_10 (G 6) nC d st (nI d) (G 19) k10).1) - ((lf_M_open_10 (G 6) nC d st (nI d) (G 19) k10).1) / (G 6 (nC - 1 - k10)) * (G 6 (nC - 1 - k10))) : Int32)) := by rw [lf_M_open_10]
          exact ih10 (k10 + 1) (by omega) (by omega)  H locs (by rw [eb10]; exact hP) (by rw [eb10]; exact hD) hS ls (by rw [eb10]; exact lv_sub hl [0, 1, 2, 3, 4] rfl)
        refine lv_icmp_ge (tgt := 39) hx hb dM_open_24 (by decide) (fun c24 => ?_) (fun c24 => ?_)
        · refine lv_iconst (v := (-1)) hx hb dM_open_39 (by decide) ?_
          exact wt_i (by rw [if_pos c24]) (j40 ls hl)
        · refine lv_iload_n hx hb dM_open_27 rfl (lv_at hl 1 rfl) ?_
          refine lv_aload_n hx hb dM_open_28 rfl (lv_at hl 2 rfl) ?_
          refine va_get (D := D) (ci := 0) (v := .ref (ba 6)) (C := RM) (T := TM) (N := 29) hx hb hts inM_ hown hK hP 0 rfl hcl 6 (by decide) f13 (fun _ h9 => h9) rfl dM_open_29 ?_
          refine lv_iload hx hb dM_open_32 (lv_at hl 0 rfl) ?_
          have sd34 : nC - 1 - k10 < 8 := by omega
          refine wn_iald (f := G 6) hx hb hK hP 1 0 rfl rfl (nC - 1 - k10) c0 sd34 (by decide) dM_open_34 ?_
          have sd35 : ¬ (G 6 (nC - 1 - k10)) = 0 := by assumption
          refine lv_irem hx hb dM_open_35 sd35 ?_
          refine lv_goto (tgt := 40) hx hb dM_open_36 (by decide) ?_
          exact wt_i (by rw [if_neg c24]) (j40 ls hl)
  exact loop10 _ 0 (Nat.zero_le _) (Nat.lt_succ_self _)  H locs hP hD hS ls (lv_sub hl [0, 1, 2, 3, 4] rfl)
