def mr_Sh_hasDesign (f1 : Int32) (d : Int32) : Int32 := ((if d < 0 then 0 else (if f1 ≤ d then 0 else 1)) : Int32)
set_option maxHeartbeats 4000000 in
set_option maxRecDepth 100000 in
theorem c_Sh_hasDesign (l : Launch) (D : va_G) (cl : List vw_C) (hcl : cOK cl) (oa ca : Nat → Nat) (ck : Nat → ClassId) (F : Nat → Int32) (G : Nat → Nat → Int32) {H : Heap} (hP : va_P D cl (cW oa ca ck F G) H) (d : Int32) : ro_Met l ySh_hasDesign wsSh_hasDesign ({ frames := 0, cells := 0, slots := 0, locals := 0 } : Room) D cl (cT ck) H [.ref (oa 1), .int d] (.int (mr_Sh_hasDesign (F 1) d)) := by
  refine ro_metZ (by unfold mr_Sh_hasDesign; repeat' first | refine zb_i ?_ ?_ | exact zb_0 | exact zb_1) (by decide) rfl (Nat.le_of_ble_eq_true rfl) ?_
  intro p e s m args below meth c Q Sx hK ls hl hret
  obtain ⟨hx, hb, hml, hown, hts⟩ := id Sx
  have hl : lv_has ls 2 [(0, .ref (oa 1)), (1, .int d)] := hl
  have f22 := hts _ (List.mem_cons_of_mem _ mfSh_22)
  have inSh_ : ∀ w ∈ wsSh0, w ∈ wsSh_hasDesign := fun w h => List.mem_cons_of_mem _ (inSh_all w h)
  refine lv_iload_n hx hb dSh_hasDesign_0 rfl (lv_at hl 1 rfl) ?_
  have j17 : ∀ (ls : Array Slot), lv_has ls 2 [(0, .ref (oa 1)), (1, .int d)] → W p l e ({ frames := 0, cells := 0, slots := 0, locals := 0 } : Room) s m args below meth c H [] 0 0 Q (F0 m 17 ls [.int ((if d < 0 then 0 else (if (F 1) ≤ d then 0 else 1)) : Int32)]) := by
    intro ls hl
    exact hret _ _ _ (by rw [mr_Sh_hasDesign]) dSh_hasDesign_17
  refine lv_if_lt (tgt := 16) hx hb dSh_hasDesign_1 (by decide) (fun c1 => ?_) (fun c1 => ?_)
  · refine lv_iconst (v := 0) hx hb dSh_hasDesign_16 (by decide) ?_
    exact wt_i (by rw [if_pos c1]) (j17 ls hl)
  · refine lv_iload_n hx hb dSh_hasDesign_4 rfl (lv_at hl 1 rfl) ?_
    refine lv_aload_n hx hb dSh_hasDesign_5 rfl (lv_at hl 0 rfl) ?_
    refine va_get (D := D) (ci := 1) (v := .int (F 1)) (C := RSh) (T := TSh) (N := 4) hx hb hts inSh_ hown hK hP 0 rfl hcl.1 3 (by decide) f22 (fun _ h9 => h9) rfl dSh_hasDesign_6 ?_
    refine lv_icmp_ge (tgt := 16) hx hb dSh_hasDesign_9 (by decide) (fun c9 => ?_) (fun c9 => ?_)
    · refine lv_iconst (v := 0) hx hb dSh_hasDesign_16 (by decide) ?_
      exact wt_i (by rw [if_neg c1, if_pos c9]) (j17 ls hl)
    · refine lv_iconst (v := 1) hx hb dSh_hasDesign_12 (by decide) ?_
      refine lv_goto (tgt := 17) hx hb dSh_hasDesign_13 (by decide) ?_
      exact wt_i (by rw [if_neg c1, if_neg c9]) (j17 ls hl)
def mr_Sh_hasChoice (nC : Nat) (ch : Int32) : Int32 := ((if ch < 0 then 0 else (if (nI nC) ≤ ch then 0 else 1)) : Int32)
theorem hc_ix {nC : Nat} {ch : Int32} (h : ¬ mr_Sh_hasChoice nC ch = 0) (hC : nC ≤ 8) : ∃ j : Nat, j < nC ∧ ch = nI j := by
  unfold mr_Sh_hasChoice at h
  by_cases h1 : ch < 0
  · rw [if_pos h1] at h; exact absurd rfl h
  · rw [if_neg h1] at h
    by_cases h2 : nI nC ≤ ch
    · rw [if_pos h2] at h; exact absurd rfl h
    · rcases pk_ix ch (n := nC) (by omega) with q | q | q
      · exact absurd q h1
      · exact absurd q h2
      · exact q
set_option maxHeartbeats 4000000 in
set_option maxRecDepth 100000 in
theorem c_Sh_hasChoice (l : Launch) (D : va_G) (cl : List vw_C) (hcl : cOK cl) (oa ca : Nat → Nat) (ck : Nat → ClassId) (F : Nat → Int32) (G : Nat → Nat → Int32) {H : Heap} (hP : va_P D cl (cW oa ca ck F G) H) (nC : Nat) (ch : Int32) (k0 : F 0 = nI nC) : ro_Met l ySh_hasChoice wsSh_hasChoice ({ frames := 0, cells := 0, slots := 0, locals := 0 } : Room) D cl (cT ck) H [.ref (oa 1), .int ch] (.int (mr_Sh_hasChoice nC ch)) := by
  refine ro_metZ (by unfold mr_Sh_hasChoice; repeat' first | refine zb_i ?_ ?_ | exact zb_0 | exact zb_1) (by decide) rfl (Nat.le_of_ble_eq_true rfl) ?_
  intro p e s m args below meth c Q Sx hK ls hl hret
  obtain ⟨hx, hb, hml, hown, hts⟩ := id Sx
  have hl : lv_has ls 2 [(0, .ref (oa 1)), (1, .int ch)] := hl
  have f18 := hts _ (List.mem_cons_of_mem _ mfSh_18)
  have inSh_ : ∀ w ∈ wsSh0, w ∈ wsSh_hasChoice := fun w h => List.mem_cons_of_mem _ (inSh_all w h)
  refine lv_iload_n hx hb dSh_hasChoice_0 rfl (lv_at hl 1 rfl) ?_
  have j17 : ∀ (ls : Array Slot), lv_has ls 2 [(0, .ref (oa 1)), (1, .int ch)] → W p l e ({ frames := 0, cells := 0, slots := 0, locals := 0 } : Room) s m args below meth c H [] 0 0 Q (F0 m 17 ls [.int ((if ch < 0 then 0 else (if (nI nC) ≤ ch then 0 else 1)) : Int32)]) := by
    intro ls hl
    exact hret _ _ _ (by rw [mr_Sh_hasChoice]) dSh_hasChoice_17
  refine lv_if_lt (tgt := 16) hx hb dSh_hasChoice_1 (by decide) (fun c1 => ?_) (fun c1 => ?_)
  · refine lv_iconst (v := 0) hx hb dSh_hasChoice_16 (by decide) ?_
    exact wt_i (by rw [if_pos c1]) (j17 ls hl)
  · refine lv_iload_n hx hb dSh_hasChoice_4 rfl (lv_at hl 1 rfl) ?_
    refine lv_aload_n hx hb dSh_hasChoice_5 rfl (lv_at hl 0 rfl) ?_
    refine va_get (D := D) (ci := 1) (v := .int (F 0)) (C := RSh) (T := TSh) (N := 4) hx hb hts inSh_ hown hK hP 0 rfl hcl.1 2 (by decide) f18 (fun _ h9 => h9) rfl dSh_hasChoice_6 ?_
    refine wt_i k0 ?_
    refine lv_icmp_ge (tgt := 16) hx hb dSh_hasChoice_9 (by decide) (fun c9 => ?_) (fun c9 => ?_)
    · refine lv_iconst (v := 0) hx hb dSh_hasChoice_16 (by decide) ?_
      exact wt_i (by rw [if_neg c1, if_pos c9]) (j17 ls hl)
    · refine lv_iconst (v := 1) hx hb dSh_hasChoice_12 (by decide) ?_
      refine lv_goto (tgt := 17) hx hb dSh_hasChoice_13 (by decide) ?_
      exact wt_i (by rw [if_neg c1, if_neg c9]) (j17 ls hl)
def mr_Sh_hasValue (g0 : Nat → Int32) (nC : Nat) (ch : Int32) (v : Int32) : Int32 := ((if (mr_Sh_hasChoice nC ch) = 0 then 0 else (if v < 0 then 0 else (if (g0 ch.toNatClampNeg) ≤ v then 0 else 1))) : Int32)
set_option maxHeartbeats 4000000 in
set_option maxRecDepth 100000 in
theorem c_Sh_hasValue (l : Launch) (D : va_G) (cl : List vw_C) (hcl : cOK cl) (oa ca : Nat → Nat) (ck : Nat → ClassId) (F : Nat → Int32) (G : Nat → Nat → Int32) {H : Heap} (hP : va_P D cl (cW oa ca ck F G) H) (nC : Nat) (ch : Int32) (v : Int32) (k0 : F 0 = nI nC) (hC : nC ≤ 8) : ro_Met l ySh_hasValue wsSh_hasValue ({ frames := 1, cells := 0, slots := 0, locals := 21 } : Room) D cl (cT ck) H [.ref (oa 1), .int ch, .int v] (.int (mr_Sh_hasValue (G 0) nC ch v)) := by
  refine ro_metZ (by unfold mr_Sh_hasValue; repeat' first | refine zb_i ?_ ?_ | exact zb_0 | exact zb_1) (by decide) rfl (Nat.le_of_ble_eq_true rfl) ?_
  intro p e s m args below meth c Q Sx hK ls hl hret
  obtain ⟨hx, hb, hml, hown, hts⟩ := id Sx
  have hl : lv_has ls 3 [(0, .ref (oa 1)), (1, .int ch), (2, .int v)] := hl
  have f9 := hts _ (List.mem_cons_of_mem _ mfSh_9)
  have inSh_ : ∀ w ∈ wsSh0, w ∈ wsSh_hasValue := fun w h => List.mem_cons_of_mem _ (inSh_all w h)
  refine lv_aload_n hx hb dSh_hasValue_0 rfl (lv_at hl 0 rfl) ?_
  refine lv_iload_n hx hb dSh_hasValue_1 rfl (lv_at hl 1 rfl) ?_
  refine ro_callV (r := (.int (mr_Sh_hasChoice nC ch))) (As := [.int ch]) (rest := []) Sx (c_Sh_hasChoice l D cl hcl oa ca ck F G hP nC ch k0) (cwV 1 hts gSh_hasValue_Sh_hasChoice rfl rfl rfl (by decide +kernel) ⟨Nat.le_of_ble_eq_true rfl, Nat.le_of_ble_eq_true rfl⟩) hK (va_recv hK hP (ci := 1) (q0 := 0) hcl.1 rfl) rfl hl.1 rfl (Nat.le_of_ble_eq_true rfl) dSh_hasValue_2 ⟨Nat.zero_le _, Nat.zero_le _⟩ ?_
  have j27 : ∀ (ls : Array Slot), lv_has ls 3 [(0, .ref (oa 1)), (1, .int ch), (2, .int v)] → W p l e ({ frames := 1, cells := 0, slots := 0, locals := 21 } : Room) s m args below meth c H [] 0 0 Q (F0 m 27 ls [.int ((if (mr_Sh_hasChoice nC ch) = 0 then 0 else (if v < 0 then 0 else (if (G 0 ch.toNatClampNeg) ≤ v then 0 else 1))) : Int32)]) := by
    intro ls hl
    exact hret _ _ _ (by rw [mr_Sh_hasValue]) dSh_hasValue_27
  refine lv_if_eq (tgt := 26) hx hb dSh_hasValue_5 (by decide) (fun c5 => ?_) (fun c5 => ?_)
  · refine lv_iconst (v := 0) hx hb dSh_hasValue_26 (by decide) ?_
    exact wt_i (by rw [if_pos c5]) (j27 ls hl)
  · have xc := ix_cl (hc_ix c5 hC) (by omega)
    refine lv_iload_n hx hb dSh_hasValue_8 rfl (lv_at hl 2 rfl) ?_
    refine lv_if_lt (tgt := 26) hx hb dSh_hasValue_9 (by decide) (fun c9 => ?_) (fun c9 => ?_)
    · refine lv_iconst (v := 0) hx hb dSh_hasValue_26 (by decide) ?_
      exact wt_i (by rw [if_neg c5, if_pos c9]) (j27 ls hl)
    · refine lv_iload_n hx hb dSh_hasValue_12 rfl (lv_at hl 2 rfl) ?_
      refine lv_aload_n hx hb dSh_hasValue_13 rfl (lv_at hl 0 rfl) ?_
      refine va_get (D := D) (ci := 1) (v := .ref (ca 0)) (C := RSh) (T := TSh) (N := 4) hx hb hts inSh_ hown hK hP 0 rfl hcl.1 0 (by decide) f9 (fun _ h9 => h9) rfl dSh_hasValue_14 ?_
      refine lv_iload_n hx hb dSh_hasValue_17 rfl (lv_at hl 1 rfl) ?_
      have sd18 : ch.toNatClampNeg < 8 := by have := xc.2; omega
      refine wn_iald (f := G 0) hx hb hK hP 2 0 rfl rfl ch.toNatClampNeg xc.1 sd18 (by decide) dSh_hasValue_18 ?_
      refine lv_icmp_ge (tgt := 26) hx hb dSh_hasValue_19 (by decide) (fun c19 => ?_) (fun c19 => ?_)
      · refine lv_iconst (v := 0) hx hb dSh_hasValue_26 (by decide) ?_
        exact wt_i (by rw [if_neg c5, if_neg c9, if_pos c19]) (j27 ls hl)
      · refine lv_iconst (v := 1) hx hb dSh_hasValue_22 (by decide) ?_
        refine lv_goto (tgt := 27) hx hb dSh_hasValue_23 (by decide) ?_
        exact wt_i (by rw [if_neg c5, if_neg c9, if_neg c19]) (j27 ls hl)
def mr_Sh_digit (g0 : Nat → Int32) (g1 : Nat → Int32) (d : Int32) (j : Nat) : Int32 := ((if (g1 j) ≤ 0 then 0 else (if (g0 j) ≤ 0 then 0 else (d / (g1 j)) - (d / (g1 j)) / (g0 j) * (g0 j))) : Int32)
set_option maxHeartbeats 4000000 in
set_option maxRecDepth 100000 in
theorem c_Sh_digit (l : Launch) (D : va_G) (cl : List vw_C) (hcl : cOK cl) (oa ca : Nat → Nat) (ck : Nat → ClassId) (F : Nat → Int32) (G : Nat → Nat → Int32) {H : Heap} (hP : va_P D cl (cW oa ca ck F G) H) (d : Int32) (j : Nat) (hj : j < 8) : ro_Met l ySh_digit wsSh_digit ({ frames := 0, cells := 0, slots := 0, locals := 0 } : Room) D cl (cT ck) H [.ref (oa 1), .int d, .int (nI j)] (.int (mr_Sh_digit (G 0) (G 1) d j)) := by
  refine ro_metI (by decide) rfl (Nat.le_of_ble_eq_true rfl) ?_
  intro p e s m args below meth c Q Sx hK ls hl hret
  obtain ⟨hx, hb, hml, hown, hts⟩ := id Sx
  have hl : lv_has ls 5 [(0, .ref (oa 1)), (1, .int d), (2, .int (nI j))] := hl
  have f15 := hts _ (List.mem_cons_of_mem _ mfSh_15)
  have inSh_ : ∀ w ∈ wsSh0, w ∈ wsSh_digit := fun w h => List.mem_cons_of_mem _ (inSh_all w h)
  have f9 := hts _ (List.mem_cons_of_mem _ mfSh_9)
  refine lv_aload_n hx hb dSh_digit_0 rfl (lv_at hl 0 rfl) ?_
  refine va_get (D := D) (ci := 1) (v := .ref (ca 1)) (C := RSh) (T := TSh) (N := 4) hx hb hts inSh_ hown hK hP 0 rfl hcl.1 1 (by decide) f15 (fun _ h9 => h9) rfl dSh_digit_1 ?_
  refine lv_iload_n hx hb dSh_digit_4 rfl (lv_at hl 2 rfl) ?_
  have sd5 : j < 8 := by omega
  refine wn_iald (f := G 1) hx hb hK hP 3 1 rfl rfl j rfl sd5 (by decide) dSh_digit_5 ?_
  refine lv_istore_n (lv' := [(3, .int (G 1 j)), (0, .ref (oa 1)), (1, .int d), (2, .int (nI j))]) hx hb dSh_digit_6 rfl hl (by decide) rfl (fun ls hl => ?_)
  refine lv_aload_n hx hb dSh_digit_7 rfl (lv_at hl 1 rfl) ?_
  refine va_get (D := D) (ci := 1) (v := .ref (ca 0)) (C := RSh) (T := TSh) (N := 4) hx hb hts inSh_ hown hK hP 0 rfl hcl.1 0 (by decide) f9 (fun _ h9 => h9) rfl dSh_digit_8 ?_
  refine lv_iload_n hx hb dSh_digit_11 rfl (lv_at hl 3 rfl) ?_
  have sd12 : j < 8 := by omega
  refine wn_iald (f := G 0) hx hb hK hP 2 0 rfl rfl j rfl sd12 (by decide) dSh_digit_12 ?_
  refine lv_istore (lv' := [(4, .int (G 0 j)), (3, .int (G 1 j)), (0, .ref (oa 1)), (1, .int d), (2, .int (nI j))]) hx hb dSh_digit_13 hl (by decide) rfl (fun ls hl => ?_)
  refine lv_iload_n hx hb dSh_digit_15 rfl (lv_at hl 1 rfl) ?_
  have j34 : ∀ (ls : Array Slot), lv_has ls 5 [(4, .int (G 0 j)), (3, .int (G 1 j)), (0, .ref (oa 1)), (1, .int d), (2, .int (nI j))] → W p l e ({ frames := 0, cells := 0, slots := 0, locals := 0 } : Room) s m args below meth c H [] 0 0 Q (F0 m 34 ls [.int ((if (G 1 j) ≤ 0 then 0 else (if (G 0 j) ≤ 0 then 0 else (d / (G 1 j)) - (d / (G 1 j)) / (G 0 j) * (G 0 j))) : Int32)]) := by
    intro ls hl
    exact hret _ _ _ (by rw [mr_Sh_digit]) dSh_digit_34
  refine lv_if_le (tgt := 33) hx hb dSh_digit_16 (by decide) (fun c16 => ?_) (fun c16 => ?_)
  · refine lv_iconst (v := 0) hx hb dSh_digit_33 (by decide) ?_
    exact wt_i (by rw [if_pos c16]) (j34 ls hl)
  · refine lv_iload hx hb dSh_digit_19 (lv_at hl 0 rfl) ?_
    refine lv_if_le (tgt := 33) hx hb dSh_digit_21 (by decide) (fun c21 => ?_) (fun c21 => ?_)
    · refine lv_iconst (v := 0) hx hb dSh_digit_33 (by decide) ?_
      exact wt_i (by rw [if_neg c16, if_pos c21]) (j34 ls hl)
    · refine lv_iload_n hx hb dSh_digit_24 rfl (lv_at hl 3 rfl) ?_
      refine lv_iload_n hx hb dSh_digit_25 rfl (lv_at hl 1 rfl) ?_
      have sd26 : ¬ (G 1 j) = 0 := by exact ne_nle c16
      refine lv_idiv hx hb dSh_digit_26 sd26 ?_
      refine lv_iload hx hb dSh_digit_27 (lv_at hl 0 rfl) ?_
      have sd29 : ¬ (G 0 j) = 0 := by exact ne_nle c21
      refine lv_irem hx hb dSh_digit_29 sd29 ?_
      refine lv_goto (tgt := 34) hx hb dSh_digit_30 (by decide) ?_
      exact wt_i (by rw [if_neg c16, if_neg c21]) (j34 ls hl)
def lf_Sh_neighbours_4 (g0 : Nat → Int32) (nC : Nat) (i0 : Int32) : Nat → Int32
  | 0 => i0
  | k4 + 1 => ((lf_Sh_neighbours_4 g0 nC i0 k4) + ((g0 k4) - 1))
def mr_Sh_neighbours (g0 : Nat → Int32) (nC : Nat) : Int32 := (lf_Sh_neighbours_4 g0 nC 0 nC)
set_option maxHeartbeats 4000000 in
set_option maxRecDepth 100000 in
theorem c_Sh_neighbours (l : Launch) (D : va_G) (cl : List vw_C) (hcl : cOK cl) (oa ca : Nat → Nat) (ck : Nat → ClassId) (F : Nat → Int32) (G : Nat → Nat → Int32) {H : Heap} (hP : va_P D cl (cW oa ca ck F G) H) (nC : Nat) (k0 : F 0 = nI nC) (hC : nC ≤ 8) : ro_Met l ySh_neighbours wsSh_neighbours ({ frames := 0, cells := 0, slots := 0, locals := 0 } : Room) D cl (cT ck) H [.ref (oa 1)] (.int (mr_Sh_neighbours (G 0) nC)) := by
  refine ro_metI (by decide) rfl (Nat.le_of_ble_eq_true rfl) ?_
  intro p e s m args below meth c Q Sx hK ls hl hret
  obtain ⟨hx, hb, hml, hown, hts⟩ := id Sx
  have hl : lv_has ls 3 [(0, .ref (oa 1))] := hl
  have f18 := hts _ (List.mem_cons_of_mem _ mfSh_18)
  have inSh_ : ∀ w ∈ wsSh0, w ∈ wsSh_neighbours := fun w h => List.mem_cons_of_mem _ (inSh_all w h)
  have f9 := hts _ (List.mem_cons_of_mem _ mfSh_9)
  refine lv_iconst (v := 0) hx hb dSh_neighbours_0 (by decide) ?_
  refine lv_istore_n (lv' := [(1, .int 0), (0, .ref (oa 1))]) hx hb dSh_neighbours_1 rfl hl (by decide) rfl (fun ls hl => ?_)
  refine lv_iconst (v := 0) hx hb dSh_neighbours_2 (by decide) ?_
  refine lv_istore_n (lv' := [(2, .int 0), (1, .int 0), (0, .ref (oa 1))]) hx hb dSh_neighbours_3 rfl hl (by decide) rfl (fun ls hl => ?_)
  have loop4 : ∀ (N4 k4 : Nat), k4 ≤ nC → nC - k4 < N4 → ∀ (ls : Array Slot), lv_has ls 3 [(2, .int (nI k4)), (1, .int (lf_Sh_neighbours_4 (G 0) nC 0 k4)), (0, .ref (oa 1))] → W p l e ({ frames := 0, cells := 0, slots := 0, locals := 0 } : Room) s m args below meth c H [] 0 0 Q (F0 m 4 ls []) := by
    intro N4
    induction N4 with
    | zero => intro k4 hk4 hm4; exact absurd hm4 (Nat.not_lt_zero _)
    | succ N4 ih4 =>
      intro k4 hk4 hm4  ls hl
      refine lv_iload_n hx hb dSh_neighbours_4 rfl (lv_at hl 0 rfl) ?_
      refine lv_aload_n hx hb dSh_neighbours_5 rfl (lv_at hl 2 rfl) ?_
      refine va_get (D := D) (ci := 1) (v := .int (F 0)) (C := RSh) (T := TSh) (N := 4) hx hb hts inSh_ hown hK hP 0 rfl hcl.1 2 (by decide) f18 (fun _ h9 => h9) rfl dSh_neighbours_6 ?_
      refine wt_i k0 ?_
      refine lv_icmp_ge (tgt := 29) hx hb dSh_neighbours_9 (by decide) (fun c9 => ?_) (fun c9 => ?_)
      · have n9 : nC ≤ k4 := (nI_leI (a := nC) (b := k4) (by omega) (by omega)).mp c9
        have hx4 : nC = k4 := by omega
        subst hx4
        refine lv_iload_n hx hb dSh_neighbours_29 rfl (lv_at hl 1 rfl) ?_
        exact hret _ _ _ (by rw [mr_Sh_neighbours]) dSh_neighbours_30
      · have n9 : ¬ nC ≤ k4 := fun h9 => c9 ((nI_leI (a := nC) (b := k4) (by omega) (by omega)).mpr h9)
        refine lv_iload_n hx hb dSh_neighbours_12 rfl (lv_at hl 1 rfl) ?_
        refine lv_aload_n hx hb dSh_neighbours_13 rfl (lv_at hl 2 rfl) ?_
        refine va_get (D := D) (ci := 1) (v := .ref (ca 0)) (C := RSh) (T := TSh) (N := 4) hx hb hts inSh_ hown hK hP 0 rfl hcl.1 0 (by decide) f9 (fun _ h9 => h9) rfl dSh_neighbours_14 ?_
        refine lv_iload_n hx hb dSh_neighbours_17 rfl (lv_at hl 0 rfl) ?_
        have sd18 : k4 < 8 := by omega
        refine wn_iald (f := G 0) hx hb hK hP 2 0 rfl rfl k4 rfl sd18 (by decide) dSh_neighbours_18 ?_
        refine lv_iconst (v := 1) hx hb dSh_neighbours_19 (by decide) ?_
        refine lv_isub hx hb dSh_neighbours_20 ?_
        refine lv_iadd hx hb dSh_neighbours_21 ?_
        refine lv_istore_n (lv' := [(1, .int ((lf_Sh_neighbours_4 (G 0) nC 0 k4) + ((G 0 k4) - 1))), (2, .int (nI k4)), (0, .ref (oa 1))]) hx hb dSh_neighbours_22 rfl hl (by decide) rfl (fun ls hl => ?_)
        refine lv_iinc (v := nI (k4 + 1)) (lv' := [(2, .int (nI (k4 + 1))), (1, .int ((lf_Sh_neighbours_4 (G 0) nC 0 k4) + ((G 0 k4) - 1))), (0, .ref (oa 1))]) hx hb dSh_neighbours_23 hl (k := 1) rfl (by exact ii_1 k4) (by decide) rfl (fun ls hl => ?_)
        refine lv_goto (tgt := 4) hx hb dSh_neighbours_26 (by decide) ?_
        have eb4 : lf_Sh_neighbours_4 (G 0) nC 0 (k4 + 1) = (lf_Sh_neighbours_4 (G 0) nC 0 k4) + ((G 0 k4) - 1) := by rw [lf_Sh_neighbours_4]
        exact ih4 (k4 + 1) (by omega) (by omega)  ls (by rw [eb4]; exact lv_sub hl [0, 1, 2] rfl)
  exact loop4 _ 0 (Nat.zero_le _) (Nat.lt_succ_self _)  ls (lv_sub hl [0, 1, 2] rfl)
def lf_Sh_addChoice_2 (nC : Nat) (v : Int32) (i0 : (Nat → Int32)) : Nat → (Nat → Int32)
  | 0 => i0
  | k2 + 1 => (upd (lf_Sh_addChoice_2 nC v i0 k2) k2 (((lf_Sh_addChoice_2 nC v i0 k2) k2) * v))
def mr_Sh_addChoice (f1 : Int32) (g0 : Nat → Int32) (g1 : Nat → Int32) (nC : Nat) (v : Int32) : Int32 × Int32 × (Nat → Int32) × (Nat → Int32) := (nI (nC + 1), f1 * v, upd g0 nC v, upd (lf_Sh_addChoice_2 nC v g1 nC) nC 1)
set_option maxHeartbeats 4000000 in
set_option maxRecDepth 100000 in
theorem c_Sh_addChoice (l : Launch) (D : va_G) (cl : List vw_C) (hcl : cOK cl) (oa ca : Nat → Nat) (ck : Nat → ClassId) (F : Nat → Int32) (G : Nat → Nat → Int32) {H0 : Heap} (hP : va_P D cl (cW oa ca ck F G) H0) (hD : va_D (fun _ => True) (cW oa ca ck F G)) (nC : Nat) (v : Int32) (k0 : F 0 = nI nC) (hC7 : nC < 8) : ww_Met l ySh_addChoice wsSh_addChoice ({ frames := 0, cells := 0, slots := 0, locals := 0 } : Room) D cl (cT ck) H0 [.ref (oa 1), .int v] (cW oa ca ck F G) none (cW oa ca ck (upd (upd F 0 ((mr_Sh_addChoice (F 1) (G 0) (G 1) nC v).1)) 1 ((mr_Sh_addChoice (F 1) (G 0) (G 1) nC v).2.1)) (va_up (va_up G 0 ((mr_Sh_addChoice (F 1) (G 0) (G 1) nC v).2.2.1)) 1 ((mr_Sh_addChoice (F 1) (G 0) (G 1) nC v).2.2.2))) := by
  refine ww_metV (by decide) rfl (Nat.le_of_ble_eq_true rfl) hP hD ?_
  intro p e s m args below meth c Q A Sx hK hP hD hS hA ls hl hret
  obtain ⟨hx, hb, hml, hown, hts⟩ := id Sx
  have hl : lv_has ls 3 [(0, .ref (oa 1)), (1, .int v)] := hl
  obtain ⟨H, eH⟩ : ∃ H : Heap, H = H0 := ⟨_, rfl⟩
  obtain ⟨locs, eL⟩ : ∃ L : List Loc, L = [] := ⟨_, rfl⟩
  have hP : va_P D cl (cW oa ca ck F G) H := by rw [eH]; exact hP
  have hS : va_S A H0 H locs := by rw [eH, eL]; exact hS
  rw [show W p l e ({ frames := 0, cells := 0, slots := 0, locals := 0 } : Room) s m args below meth c H0 [] 0 0 Q (F0 m 0 ls []) = W p l e ({ frames := 0, cells := 0, slots := 0, locals := 0 } : Room) s m args below meth c H locs 0 0 Q (F0 m 0 ls []) by rw [eH, eL]]
  clear eH eL
  have f18 := hts _ (List.mem_cons_of_mem _ mfSh_18)
  have inSh_ : ∀ w ∈ wsSh0, w ∈ wsSh_addChoice := fun w h => List.mem_cons_of_mem _ (inSh_all w h)
  have f9 := hts _ (List.mem_cons_of_mem _ mfSh_9)
  have f15 := hts _ (List.mem_cons_of_mem _ mfSh_15)
  have f22 := hts _ (List.mem_cons_of_mem _ mfSh_22)
  refine lv_iconst (v := 0) hx hb dSh_addChoice_0 (by decide) ?_
  refine lv_istore_n (lv' := [(2, .int 0), (0, .ref (oa 1)), (1, .int v)]) hx hb dSh_addChoice_1 rfl hl (by decide) rfl (fun ls hl => ?_)
  have loop2 : ∀ (N2 k2 : Nat), k2 ≤ nC → nC - k2 < N2 → ∀ (H : Heap) (locs : List Loc), va_P D cl (cW oa ca ck F (va_up G 1 (lf_Sh_addChoice_2 nC v (G 1) k2))) H → va_D A (cW oa ca ck F (va_up G 1 (lf_Sh_addChoice_2 nC v (G 1) k2))) → va_S A H0 H locs → ∀ (ls : Array Slot), lv_has ls 3 [(2, .int (nI k2)), (0, .ref (oa 1)), (1, .int v)] → W p l e ({ frames := 0, cells := 0, slots := 0, locals := 0 } : Room) s m args below meth c H locs 0 0 Q (F0 m 2 ls []) := by
    intro N2
    induction N2 with
    | zero => intro k2 hk2 hm2; exact absurd hm2 (Nat.not_lt_zero _)
    | succ N2 ih2 =>
      intro k2 hk2 hm2  H locs hP hD hS ls hl
      refine lv_iload_n hx hb dSh_addChoice_2 rfl (lv_at hl 0 rfl) ?_
      refine lv_aload_n hx hb dSh_addChoice_3 rfl (lv_at hl 1 rfl) ?_
      refine va_get (D := D) (ci := 1) (v := .int (F 0)) (C := RSh) (T := TSh) (N := 4) hx hb hts inSh_ hown hK hP 0 rfl hcl.1 2 (by decide) f18 (fun _ h9 => h9) rfl dSh_addChoice_4 ?_
      refine wt_i k0 ?_
      refine lv_icmp_ge (tgt := 26) hx hb dSh_addChoice_7 (by decide) (fun c7 => ?_) (fun c7 => ?_)
      · have n7 : nC ≤ k2 := (nI_leI (a := nC) (b := k2) (by omega) (by omega)).mp c7
        have hx2 : nC = k2 := by omega
        subst hx2
        refine lv_aload_n hx hb dSh_addChoice_26 rfl (lv_at hl 1 rfl) ?_
        refine va_get (D := D) (ci := 1) (v := .ref (ca 0)) (C := RSh) (T := TSh) (N := 4) hx hb hts inSh_ hown hK hP 0 rfl hcl.1 0 (by decide) f9 (fun _ h9 => h9) rfl dSh_addChoice_27 ?_
        refine lv_aload_n hx hb dSh_addChoice_30 rfl (lv_at hl 1 rfl) ?_
        refine va_get (D := D) (ci := 1) (v := .int (F 0)) (C := RSh) (T := TSh) (N := 4) hx hb hts inSh_ hown hK hP 0 rfl hcl.1 2 (by decide) f18 (fun _ h9 => h9) rfl dSh_addChoice_31 ?_
        refine wt_i k0 ?_
        refine lv_iload_n hx hb dSh_addChoice_34 rfl (lv_at hl 2 rfl) ?_
        have sd35 : nC < 8 := by omega
        refine wn_iast (f := G 0) hx hb hK hP hD hS 2 0 rfl rfl nC rfl sd35 (by decide) dSh_addChoice_35 (fun H locs hP hD hS => ?_)
        rw [cW_g0, vup_sw (i := 1) (j := 0) (by decide)] at hP hD
        refine lv_aload_n hx hb dSh_addChoice_36 rfl (lv_at hl 1 rfl) ?_
        refine va_get (D := D) (ci := 1) (v := .ref (ca 1)) (C := RSh) (T := TSh) (N := 4) hx hb hts inSh_ hown hK hP 0 rfl hcl.1 1 (by decide) f15 (fun _ h9 => h9) rfl dSh_addChoice_37 ?_
        refine lv_aload_n hx hb dSh_addChoice_40 rfl (lv_at hl 1 rfl) ?_
        refine va_get (D := D) (ci := 1) (v := .int (F 0)) (C := RSh) (T := TSh) (N := 4) hx hb hts inSh_ hown hK hP 0 rfl hcl.1 2 (by decide) f18 (fun _ h9 => h9) rfl dSh_addChoice_41 ?_
        refine wt_i k0 ?_
        refine lv_iconst (v := 1) hx hb dSh_addChoice_44 (by decide) ?_
        have sd45 : nC < 8 := by omega
        have eg45 : (va_up (va_up G 0 (upd (G 0) nC v)) 1 (lf_Sh_addChoice_2 nC v (G 1) nC)) 1 = lf_Sh_addChoice_2 nC v (G 1) nC := by rw [vup_us]
        refine wn_iast (f := lf_Sh_addChoice_2 nC v (G 1) nC) hx hb hK hP hD hS 3 1 (congrArg (fun z : Nat → Int32 => (some ((ca 1), (.inl ((ck 1), 8, .inl z) : va_E)) : Option (Nat × va_E))) eg45) rfl nC rfl sd45 (by decide) dSh_addChoice_45 (fun H locs hP hD hS => ?_)
        rw [cW_g1, vup_ow] at hP hD
        refine lv_aload_n hx hb dSh_addChoice_46 rfl (lv_at hl 1 rfl) ?_
        refine lv_dup hx hb dSh_addChoice_47 rfl ?_
        refine va_get (D := D) (ci := 1) (v := .int (F 0)) (C := RSh) (T := TSh) (N := 4) hx hb hts inSh_ hown hK hP 0 rfl hcl.1 2 (by decide) f18 (fun _ h9 => h9) rfl dSh_addChoice_48 ?_
        refine wt_i k0 ?_
        refine lv_iconst (v := 1) hx hb dSh_addChoice_51 (by decide) ?_
        refine lv_iadd hx hb dSh_addChoice_52 ?_
        refine wt_i (r := nI (nC + 1)) (by exact nI_add nC 1) ?_
        refine va_put (D := D) (ci := 1) (fs := cWl0 oa ca F) (v := .int (nI (nC + 1))) (ty := .int) (C := RSh) (T := TSh) (N := 4) hx hb hts inSh_ tySh tySh_ok nmSh hown hK hP hD hS 0 rfl hcl.1 2 (by decide) f18 (fun _ h9 => h9) rfl (by decide +kernel) rfl rfl (Nat.le_of_ble_eq_true rfl) dSh_addChoice_53 (fun H locs hP hD hS => ?_)
        rw [cW_f0] at hP hD
        refine lv_aload_n hx hb dSh_addChoice_56 rfl (lv_at hl 1 rfl) ?_
        refine lv_dup hx hb dSh_addChoice_57 rfl ?_
        refine va_get (D := D) (ci := 1) (v := .int (F 1)) (C := RSh) (T := TSh) (N := 4) hx hb hts inSh_ hown hK hP 0 rfl hcl.1 3 (by decide) f22 (fun _ h9 => h9) rfl dSh_addChoice_58 ?_
        refine lv_iload_n hx hb dSh_addChoice_61 rfl (lv_at hl 2 rfl) ?_
        refine lv_imul hx hb dSh_addChoice_62 ?_
        refine va_put (D := D) (ci := 1) (fs := cWl0 oa ca (upd F 0 (nI (nC + 1)))) (v := .int ((F 1) * v)) (ty := .int) (C := RSh) (T := TSh) (N := 4) hx hb hts inSh_ tySh tySh_ok nmSh hown hK hP hD hS 0 rfl hcl.1 3 (by decide) f22 (fun _ h9 => h9) rfl (by decide +kernel) rfl rfl (Nat.le_of_ble_eq_true rfl) dSh_addChoice_63 (fun H locs hP hD hS => ?_)
        rw [cW_f1] at hP hD
        have em : mr_Sh_addChoice (F 1) (G 0) (G 1) nC v = (nI (nC + 1), (F 1) * v, upd (G 0) nC v, upd (lf_Sh_addChoice_2 nC v (G 1) nC) nC 1) := by rw [mr_Sh_addChoice]
        exact hret _ _ _ _ _ (by simp only [em]) hP hD hS dSh_addChoice_66
      · have n7 : ¬ nC ≤ k2 := fun h9 => c7 ((nI_leI (a := nC) (b := k2) (by omega) (by omega)).mpr h9)
        refine lv_aload_n hx hb dSh_addChoice_10 rfl (lv_at hl 1 rfl) ?_
        refine va_get (D := D) (ci := 1) (v := .ref (ca 1)) (C := RSh) (T := TSh) (N := 4) hx hb hts inSh_ hown hK hP 0 rfl hcl.1 1 (by decide) f15 (fun _ h9 => h9) rfl dSh_addChoice_11 ?_
        refine lv_iload_n hx hb dSh_addChoice_14 rfl (lv_at hl 0 rfl) ?_
        refine lv_dup2_11 hx hb dSh_addChoice_15 rfl rfl ?_
        have sd16 : k2 < 8 := by omega
        have eg16 : (va_up G 1 (lf_Sh_addChoice_2 nC v (G 1) k2)) 1 = lf_Sh_addChoice_2 nC v (G 1) k2 := by rw [vup_us]
        refine wn_iald (f := lf_Sh_addChoice_2 nC v (G 1) k2) hx hb hK hP 3 1 (congrArg (fun z : Nat → Int32 => (some ((ca 1), (.inl ((ck 1), 8, .inl z) : va_E)) : Option (Nat × va_E))) eg16) rfl k2 rfl sd16 (by decide) dSh_addChoice_16 ?_
        refine lv_iload_n hx hb dSh_addChoice_17 rfl (lv_at hl 2 rfl) ?_
        refine lv_imul hx hb dSh_addChoice_18 ?_
        have sd19 : k2 < 8 := by omega
        have eg19 : (va_up G 1 (lf_Sh_addChoice_2 nC v (G 1) k2)) 1 = lf_Sh_addChoice_2 nC v (G 1) k2 := by rw [vup_us]
        refine wn_iast (f := lf_Sh_addChoice_2 nC v (G 1) k2) hx hb hK hP hD hS 3 1 (congrArg (fun z : Nat → Int32 => (some ((ca 1), (.inl ((ck 1), 8, .inl z) : va_E)) : Option (Nat × va_E))) eg19) rfl k2 rfl sd19 (by decide) dSh_addChoice_19 (fun H locs hP hD hS => ?_)
        rw [cW_g1, vup_ow] at hP hD
        refine lv_iinc (v := nI (k2 + 1)) (lv' := [(2, .int (nI (k2 + 1))), (0, .ref (oa 1)), (1, .int v)]) hx hb dSh_addChoice_20 hl (k := 0) rfl (by exact ii_1 k2) (by decide) rfl (fun ls hl => ?_)
        refine lv_goto (tgt := 2) hx hb dSh_addChoice_23 (by decide) ?_
        have eb2 : lf_Sh_addChoice_2 nC v (G 1) (k2 + 1) = upd (lf_Sh_addChoice_2 nC v (G 1) k2) k2 (((lf_Sh_addChoice_2 nC v (G 1) k2) k2) * v) := by rw [lf_Sh_addChoice_2]
        exact ih2 (k2 + 1) (by omega) (by omega)  H locs (by rw [eb2]; exact hP) (by rw [eb2]; exact hD) hS ls (by exact lv_sub hl [0, 1, 2] rfl)
  exact loop2 _ 0 (Nat.zero_le _) (Nat.lt_succ_self _)  H locs hP hD hS ls (lv_sub hl [0, 1, 2] rfl)
def mr_Sw_beginAnew : Int32 × Int32 := (0, 0)
set_option maxHeartbeats 4000000 in
set_option maxRecDepth 100000 in
theorem c_Sw_beginAnew (l : Launch) (D : va_G) (cl : List vw_C) (hcl : cOK cl) (oa ca : Nat → Nat) (ck : Nat → ClassId) (F : Nat → Int32) (G : Nat → Nat → Int32) {H0 : Heap} (hP : va_P D cl (cW oa ca ck F G) H0) (hD : va_D (fun _ => True) (cW oa ca ck F G)) : ww_Met l ySw_beginAnew wsSw_beginAnew ({ frames := 0, cells := 0, slots := 0, locals := 0 } : Room) D cl (cT ck) H0 [.ref (oa 2)] (cW oa ca ck F G) none (cW oa ca ck (upd (upd F 2 ((mr_Sw_beginAnew).1)) 3 ((mr_Sw_beginAnew).2)) G) := by
  refine ww_metV (by decide) rfl (Nat.le_of_ble_eq_true rfl) hP hD ?_
  intro p e s m args below meth c Q A Sx hK hP hD hS hA ls hl hret
  obtain ⟨hx, hb, hml, hown, hts⟩ := id Sx
  have hl : lv_has ls 1 [(0, .ref (oa 2))] := hl
  obtain ⟨H, eH⟩ : ∃ H : Heap, H = H0 := ⟨_, rfl⟩
  obtain ⟨locs, eL⟩ : ∃ L : List Loc, L = [] := ⟨_, rfl⟩
  have hP : va_P D cl (cW oa ca ck F G) H := by rw [eH]; exact hP
  have hS : va_S A H0 H locs := by rw [eH, eL]; exact hS
  rw [show W p l e ({ frames := 0, cells := 0, slots := 0, locals := 0 } : Room) s m args below meth c H0 [] 0 0 Q (F0 m 0 ls []) = W p l e ({ frames := 0, cells := 0, slots := 0, locals := 0 } : Room) s m args below meth c H locs 0 0 Q (F0 m 0 ls []) by rw [eH, eL]]
  clear eH eL
  have f7 := hts _ (List.mem_cons_of_mem _ mfSw_7)
  have inSw_ : ∀ w ∈ wsSw0, w ∈ wsSw_beginAnew := fun w h => List.mem_cons_of_mem _ (inSw_all w h)
  have f13 := hts _ (List.mem_cons_of_mem _ mfSw_13)
  refine lv_aload_n hx hb dSw_beginAnew_0 rfl (lv_at hl 0 rfl) ?_
  refine lv_iconst (v := 0) hx hb dSw_beginAnew_1 (by decide) ?_
  refine va_put (D := D) (ci := 2) (fs := cWl1 oa ca F) (v := .int 0) (ty := .int) (C := RSw) (T := TSw) (N := 4) hx hb hts inSw_ tySw tySw_ok nmSw hown hK hP hD hS 1 rfl hcl.2 2 (by decide) f7 (fun _ h9 => h9) rfl (by decide +kernel) rfl rfl (Nat.le_of_ble_eq_true rfl) dSw_beginAnew_2 (fun H locs hP hD hS => ?_)
  rw [cW_f2] at hP hD
  refine lv_aload_n hx hb dSw_beginAnew_5 rfl (lv_at hl 0 rfl) ?_
  refine lv_iconst (v := 0) hx hb dSw_beginAnew_6 (by decide) ?_
  refine va_put (D := D) (ci := 2) (fs := cWl1 oa ca (upd F 2 0)) (v := .int 0) (ty := .int) (C := RSw) (T := TSw) (N := 4) hx hb hts inSw_ tySw tySw_ok nmSw hown hK hP hD hS 1 rfl hcl.2 3 (by decide) f13 (fun _ h9 => h9) rfl (by decide +kernel) rfl rfl (Nat.le_of_ble_eq_true rfl) dSw_beginAnew_7 (fun H locs hP hD hS => ?_)
  rw [cW_f3] at hP hD
  have em : mr_Sw_beginAnew = (0, 0) := by rw [mr_Sw_beginAnew]
  exact hret _ _ _ _ _ (by simp only [em]) hP hD hS dSw_beginAnew_10
def mr_Sw_isAtEnd (f1 : Int32) (f2 : Int32) : Int32 := ((if f2 < f1 then 0 else 1) : Int32)
set_option maxHeartbeats 4000000 in
set_option maxRecDepth 100000 in
theorem c_Sw_isAtEnd (l : Launch) (D : va_G) (cl : List vw_C) (hcl : cOK cl) (oa ca : Nat → Nat) (ck : Nat → ClassId) (F : Nat → Int32) (G : Nat → Nat → Int32) {H : Heap} (hP : va_P D cl (cW oa ca ck F G) H) : ro_Met l ySw_isAtEnd wsSw_isAtEnd ({ frames := 0, cells := 0, slots := 0, locals := 0 } : Room) D cl (cT ck) H [.ref (oa 2)] (.int (mr_Sw_isAtEnd (F 1) (F 2))) := by
  refine ro_metZ (by unfold mr_Sw_isAtEnd; repeat' first | refine zb_i ?_ ?_ | exact zb_0 | exact zb_1) (by decide) rfl (Nat.le_of_ble_eq_true rfl) ?_
  intro p e s m args below meth c Q Sx hK ls hl hret
  obtain ⟨hx, hb, hml, hown, hts⟩ := id Sx
  have hl : lv_has ls 1 [(0, .ref (oa 2))] := hl
  have f7 := hts _ (List.mem_cons_of_mem _ mfSw_7)
  have inSw_ : ∀ w ∈ wsSw0, w ∈ wsSw_isAtEnd := fun w h => List.mem_cons_of_mem _ (inSw_all w h)
  have f16 := hts _ (List.mem_cons_of_mem _ mfSw_16)
  have f24 := hts _ (List.mem_cons_of_mem _ mfSw_24)
  have inSh_ : ∀ w ∈ wsSh0, w ∈ wsSw_isAtEnd := fun w h => List.mem_cons_of_mem _ (inSh_all w h)
  refine lv_aload_n hx hb dSw_isAtEnd_0 rfl (lv_at hl 0 rfl) ?_
  refine va_get (D := D) (ci := 2) (v := .int (F 2)) (C := RSw) (T := TSw) (N := 4) hx hb hts inSw_ hown hK hP 1 rfl hcl.2 2 (by decide) f7 (fun _ h9 => h9) rfl dSw_isAtEnd_1 ?_
  refine lv_aload_n hx hb dSw_isAtEnd_4 rfl (lv_at hl 0 rfl) ?_
  refine va_get (D := D) (ci := 2) (v := .ref (oa 1)) (C := RSw) (T := TSw) (N := 4) hx hb hts inSw_ hown hK hP 1 rfl hcl.2 0 (by decide) f16 (fun _ h9 => h9) rfl dSw_isAtEnd_5 ?_
  refine va_get (D := D) (ci := 1) (v := .int (F 1)) (C := RSh) (T := TSh) (N := 4) hx hb hts inSh_ hown hK hP 0 rfl hcl.1 3 (by decide) f24 (fun _ h9 => h9) rfl dSw_isAtEnd_8 ?_
  have j19 : ∀ (ls : Array Slot), lv_has ls 1 [(0, .ref (oa 2))] → W p l e ({ frames := 0, cells := 0, slots := 0, locals := 0 } : Room) s m args below meth c H [] 0 0 Q (F0 m 19 ls [.int ((if (F 2) < (F 1) then 0 else 1) : Int32)]) := by
    intro ls hl
    exact hret _ _ _ (by rw [mr_Sw_isAtEnd]) dSw_isAtEnd_19
  refine lv_icmp_lt (tgt := 18) hx hb dSw_isAtEnd_11 (by decide) (fun c11 => ?_) (fun c11 => ?_)
  · refine lv_iconst (v := 0) hx hb dSw_isAtEnd_18 (by decide) ?_
    exact wt_i (by rw [if_pos c11]) (j19 ls hl)
  · refine lv_iconst (v := 1) hx hb dSw_isAtEnd_14 (by decide) ?_
    refine lv_goto (tgt := 19) hx hb dSw_isAtEnd_15 (by decide) ?_
    exact wt_i (by rw [if_neg c11]) (j19 ls hl)
