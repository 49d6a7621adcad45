def mr_X_isNumber (x : Int32) : Int32 := ((if x < 0 then 0 else (if 4 ≤ x then 0 else 1)) : Int32)
set_option maxHeartbeats 4000000 in
set_option maxRecDepth 100000 in
theorem c_X_isNumber (l : Launch) (D : va_G) (cl : List vw_C) (hcl : cOK cl) (oa ca : Nat → Nat) (ck : Nat → ClassId) (F : Nat → Int32) (G : Nat → Nat → Int32) {H : Heap} (hP : va_P D cl (cW oa ca ck F G) H) (x : Int32) : ro_Met l yX_isNumber wsX_isNumber ({ frames := 0, cells := 0, slots := 0, locals := 0 } : Room) D cl (cT ck) H [.int x] (.int (mr_X_isNumber x)) := by
  refine ro_metZ (by unfold mr_X_isNumber; repeat' first | refine zb_i ?_ ?_ | exact zb_0 | exact zb_1) (by decide) rfl (Nat.le_of_ble_eq_true rfl) ?_
  intro p e s m args below meth c Q Sx hK ls hl hret
  obtain ⟨hx, hb, hml, hown, hts⟩ := id Sx
  have hl : lv_has ls 1 [(0, .int x)] := hl
  refine lv_iload_n hx hb dX_isNumber_0 rfl (lv_at hl 0 rfl) ?_
  have j14 : ∀ (ls : Array Slot), lv_has ls 1 [(0, .int x)] → W p l e ({ frames := 0, cells := 0, slots := 0, locals := 0 } : Room) s m args below meth c H [] 0 0 Q (F0 m 14 ls [.int ((if x < 0 then 0 else (if 4 ≤ x then 0 else 1)) : Int32)]) := by
    intro ls hl
    exact hret _ _ _ (by rw [mr_X_isNumber]) dX_isNumber_14
  refine lv_if_lt (tgt := 13) hx hb dX_isNumber_1 (by decide) (fun c1 => ?_) (fun c1 => ?_)
  · refine lv_iconst (v := 0) hx hb dX_isNumber_13 (by decide) ?_
    exact wt_i (by rw [if_pos c1]) (j14 ls hl)
  · refine lv_iload_n hx hb dX_isNumber_4 rfl (lv_at hl 0 rfl) ?_
    refine lv_iconst (v := 4) hx hb dX_isNumber_5 (by decide) ?_
    refine lv_icmp_ge (tgt := 13) hx hb dX_isNumber_6 (by decide) (fun c6 => ?_) (fun c6 => ?_)
    · refine lv_iconst (v := 0) hx hb dX_isNumber_13 (by decide) ?_
      exact wt_i (by rw [if_neg c1, if_pos c6]) (j14 ls hl)
    · refine lv_iconst (v := 1) hx hb dX_isNumber_9 (by decide) ?_
      refine lv_goto (tgt := 14) hx hb dX_isNumber_10 (by decide) ?_
      exact wt_i (by rw [if_neg c1, if_neg c6]) (j14 ls hl)
def mr_Sh_hasRoomFor (nC : Nat) (nD : Nat) (v : Int32) : Int32 := ((if 8 ≤ (nI nC) then 0 else (if 4096 < ((nI nD) * v) then 0 else 1)) : Int32)
set_option maxHeartbeats 4000000 in
set_option maxRecDepth 100000 in
theorem c_Sh_hasRoomFor (l : Launch) (D : va_G) (cl : List vw_C) (hcl : cOK cl) (oa ca : Nat → Nat) (ck : Nat → ClassId) (F : Nat → Int32) (G : Nat → Nat → Int32) {H : Heap} (hP : va_P D cl (cW oa ca ck F G) H) (nC : Nat) (nD : Nat) (v : Int32) (k0 : F 0 = nI nC) (hC : nC ≤ 8) (k1 : F 1 = nI nD) : ro_Met l ySh_hasRoomFor wsSh_hasRoomFor ({ frames := 0, cells := 0, slots := 0, locals := 0 } : Room) D cl (cT ck) H [.ref (oa 1), .int v] (.int (mr_Sh_hasRoomFor nC nD v)) := by
  refine ro_metZ (by unfold mr_Sh_hasRoomFor; repeat' first | refine zb_i ?_ ?_ | exact zb_0 | exact zb_1) (by decide) rfl (Nat.le_of_ble_eq_true rfl) ?_
  intro p e s m args below meth c Q Sx hK ls hl hret
  obtain ⟨hx, hb, hml, hown, hts⟩ := id Sx
  have hl : lv_has ls 2 [(0, .ref (oa 1)), (1, .int v)] := hl
  have f18 := hts _ (List.mem_cons_of_mem _ mfSh_18)
  have inSh_ : ∀ w ∈ wsSh0, w ∈ wsSh_hasRoomFor := fun w h => List.mem_cons_of_mem _ (inSh_all w h)
  have f22 := hts _ (List.mem_cons_of_mem _ mfSh_22)
  refine lv_aload_n hx hb dSh_hasRoomFor_0 rfl (lv_at hl 0 rfl) ?_
  refine va_get (D := D) (ci := 2) (v := .int (F 0)) (C := RSh) (T := TSh) (N := 4) hx hb hts inSh_ hown hK hP 1 rfl hcl.2.1 2 (by decide) f18 (fun _ h9 => h9) rfl dSh_hasRoomFor_1 ?_
  refine wt_i k0 ?_
  refine lv_bipush (v := 8) hx hb dSh_hasRoomFor_4 (by decide) ?_
  have j26 : ∀ (ls : Array Slot), lv_has ls 2 [(0, .ref (oa 1)), (1, .int v)] → W p l e ({ frames := 0, cells := 0, slots := 0, locals := 0 } : Room) s m args below meth c H [] 0 0 Q (F0 m 26 ls [.int ((if 8 ≤ (nI nC) then 0 else (if 4096 < ((nI nD) * v) then 0 else 1)) : Int32)]) := by
    intro ls hl
    exact hret _ _ _ (by rw [mr_Sh_hasRoomFor]) dSh_hasRoomFor_26
  refine lv_icmp_ge (tgt := 25) hx hb dSh_hasRoomFor_6 (by decide) (fun c6 => ?_) (fun c6 => ?_)
  · have n6 : 8 ≤ nC := (nI_leI (a := 8) (b := nC) (by omega) (by omega)).mp c6
    refine lv_iconst (v := 0) hx hb dSh_hasRoomFor_25 (by decide) ?_
    exact wt_i (by rw [if_pos c6]) (j26 ls hl)
  · have n6 : ¬ 8 ≤ nC := fun h9 => c6 ((nI_leI (a := 8) (b := nC) (by omega) (by omega)).mpr h9)
    refine lv_aload_n hx hb dSh_hasRoomFor_9 rfl (lv_at hl 0 rfl) ?_
    refine va_get (D := D) (ci := 2) (v := .int (F 1)) (C := RSh) (T := TSh) (N := 4) hx hb hts inSh_ hown hK hP 1 rfl hcl.2.1 3 (by decide) f22 (fun _ h9 => h9) rfl dSh_hasRoomFor_10 ?_
    refine wt_i k1 ?_
    refine lv_iload_n hx hb dSh_hasRoomFor_13 rfl (lv_at hl 1 rfl) ?_
    refine lv_imul hx hb dSh_hasRoomFor_14 ?_
    refine lv_sipush (v := 4096) hx hb dSh_hasRoomFor_15 (by decide) ?_
    refine lv_icmp_gt (tgt := 25) hx hb dSh_hasRoomFor_18 (by decide) (fun c18 => ?_) (fun c18 => ?_)
    · refine lv_iconst (v := 0) hx hb dSh_hasRoomFor_25 (by decide) ?_
      exact wt_i (by rw [if_neg c6, if_pos c18]) (j26 ls hl)
    · refine lv_iconst (v := 1) hx hb dSh_hasRoomFor_21 (by decide) ?_
      refine lv_goto (tgt := 26) hx hb dSh_hasRoomFor_22 (by decide) ?_
      exact wt_i (by rw [if_neg c6, if_neg c18]) (j26 ls hl)
def mr_Sh_hasDesign (nD : Nat) (d : Int32) : Int32 := ((if d < 0 then 0 else (if (nI nD) ≤ d then 0 else 1)) : Int32)
theorem hasDesign_ix {n : Nat} {ch : Int32} (h : ¬ mr_Sh_hasDesign n ch = 0) (hn : n ≤ 65536) : ∃ j : Nat, j < n ∧ ch = nI j := by
  unfold mr_Sh_hasDesign at h
  by_cases h1 : ch < 0
  · rw [if_pos h1] at h; exact absurd rfl h
  · rw [if_neg h1] at h
    by_cases h2 : nI n ≤ ch
    · rw [if_pos h2] at h; exact absurd rfl h
    · rcases pk_ix ch (n := n) (by omega) with q | q | q
      · exact absurd q h1
      · exact absurd q h2
      · exact q
set_option maxHeartbeats 4000000 in
set_option maxRecDepth 100000 in
theorem c_Sh_hasDesign (l : Launch) (D : va_G) (cl : List vw_C) (hcl : cOK cl) (oa ca : Nat → Nat) (ck : Nat → ClassId) (F : Nat → Int32) (G : Nat → Nat → Int32) {H : Heap} (hP : va_P D cl (cW oa ca ck F G) H) (nD : Nat) (d : Int32) (k1 : F 1 = nI nD) : ro_Met l ySh_hasDesign wsSh_hasDesign ({ frames := 0, cells := 0, slots := 0, locals := 0 } : Room) D cl (cT ck) H [.ref (oa 1), .int d] (.int (mr_Sh_hasDesign nD d)) := by
  refine ro_metZ (by unfold mr_Sh_hasDesign; repeat' first | refine zb_i ?_ ?_ | exact zb_0 | exact zb_1) (by decide) rfl (Nat.le_of_ble_eq_true rfl) ?_
  intro p e s m args below meth c Q Sx hK ls hl hret
  obtain ⟨hx, hb, hml, hown, hts⟩ := id Sx
  have hl : lv_has ls 2 [(0, .ref (oa 1)), (1, .int d)] := hl
  have f22 := hts _ (List.mem_cons_of_mem _ mfSh_22)
  have inSh_ : ∀ w ∈ wsSh0, w ∈ wsSh_hasDesign := fun w h => List.mem_cons_of_mem _ (inSh_all w h)
  refine lv_iload_n hx hb dSh_hasDesign_0 rfl (lv_at hl 1 rfl) ?_
  have j17 : ∀ (ls : Array Slot), lv_has ls 2 [(0, .ref (oa 1)), (1, .int d)] → W p l e ({ frames := 0, cells := 0, slots := 0, locals := 0 } : Room) s m args below meth c H [] 0 0 Q (F0 m 17 ls [.int ((if d < 0 then 0 else (if (nI nD) ≤ d then 0 else 1)) : Int32)]) := by
    intro ls hl
    exact hret _ _ _ (by rw [mr_Sh_hasDesign]) dSh_hasDesign_17
  refine lv_if_lt (tgt := 16) hx hb dSh_hasDesign_1 (by decide) (fun c1 => ?_) (fun c1 => ?_)
  · refine lv_iconst (v := 0) hx hb dSh_hasDesign_16 (by decide) ?_
    exact wt_i (by rw [if_pos c1]) (j17 ls hl)
  · refine lv_iload_n hx hb dSh_hasDesign_4 rfl (lv_at hl 1 rfl) ?_
    refine lv_aload_n hx hb dSh_hasDesign_5 rfl (lv_at hl 0 rfl) ?_
    refine va_get (D := D) (ci := 2) (v := .int (F 1)) (C := RSh) (T := TSh) (N := 4) hx hb hts inSh_ hown hK hP 1 rfl hcl.2.1 3 (by decide) f22 (fun _ h9 => h9) rfl dSh_hasDesign_6 ?_
    refine wt_i k1 ?_
    refine lv_icmp_ge (tgt := 16) hx hb dSh_hasDesign_9 (by decide) (fun c9 => ?_) (fun c9 => ?_)
    · refine lv_iconst (v := 0) hx hb dSh_hasDesign_16 (by decide) ?_
      exact wt_i (by rw [if_neg c1, if_pos c9]) (j17 ls hl)
    · refine lv_iconst (v := 1) hx hb dSh_hasDesign_12 (by decide) ?_
      refine lv_goto (tgt := 17) hx hb dSh_hasDesign_13 (by decide) ?_
      exact wt_i (by rw [if_neg c1, if_neg c9]) (j17 ls hl)
def mr_Sh_hasChoice (nC : Nat) (ch : Int32) : Int32 := ((if ch < 0 then 0 else (if (nI nC) ≤ ch then 0 else 1)) : Int32)
theorem hasChoice_ix {n : Nat} {ch : Int32} (h : ¬ mr_Sh_hasChoice n ch = 0) (hn : n ≤ 65536) : ∃ j : Nat, j < n ∧ ch = nI j := by
  unfold mr_Sh_hasChoice at h
  by_cases h1 : ch < 0
  · rw [if_pos h1] at h; exact absurd rfl h
  · rw [if_neg h1] at h
    by_cases h2 : nI n ≤ ch
    · rw [if_pos h2] at h; exact absurd rfl h
    · rcases pk_ix ch (n := n) (by omega) with q | q | q
      · exact absurd q h1
      · exact absurd q h2
      · exact q
set_option maxHeartbeats 4000000 in
set_option maxRecDepth 100000 in
theorem c_Sh_hasChoice (l : Launch) (D : va_G) (cl : List vw_C) (hcl : cOK cl) (oa ca : Nat → Nat) (ck : Nat → ClassId) (F : Nat → Int32) (G : Nat → Nat → Int32) {H : Heap} (hP : va_P D cl (cW oa ca ck F G) H) (nC : Nat) (ch : Int32) (k0 : F 0 = nI nC) : ro_Met l ySh_hasChoice wsSh_hasChoice ({ frames := 0, cells := 0, slots := 0, locals := 0 } : Room) D cl (cT ck) H [.ref (oa 1), .int ch] (.int (mr_Sh_hasChoice nC ch)) := by
  refine ro_metZ (by unfold mr_Sh_hasChoice; repeat' first | refine zb_i ?_ ?_ | exact zb_0 | exact zb_1) (by decide) rfl (Nat.le_of_ble_eq_true rfl) ?_
  intro p e s m args below meth c Q Sx hK ls hl hret
  obtain ⟨hx, hb, hml, hown, hts⟩ := id Sx
  have hl : lv_has ls 2 [(0, .ref (oa 1)), (1, .int ch)] := hl
  have f18 := hts _ (List.mem_cons_of_mem _ mfSh_18)
  have inSh_ : ∀ w ∈ wsSh0, w ∈ wsSh_hasChoice := fun w h => List.mem_cons_of_mem _ (inSh_all w h)
  refine lv_iload_n hx hb dSh_hasChoice_0 rfl (lv_at hl 1 rfl) ?_
  have j17 : ∀ (ls : Array Slot), lv_has ls 2 [(0, .ref (oa 1)), (1, .int ch)] → W p l e ({ frames := 0, cells := 0, slots := 0, locals := 0 } : Room) s m args below meth c H [] 0 0 Q (F0 m 17 ls [.int ((if ch < 0 then 0 else (if (nI nC) ≤ ch then 0 else 1)) : Int32)]) := by
    intro ls hl
    exact hret _ _ _ (by rw [mr_Sh_hasChoice]) dSh_hasChoice_17
  refine lv_if_lt (tgt := 16) hx hb dSh_hasChoice_1 (by decide) (fun c1 => ?_) (fun c1 => ?_)
  · refine lv_iconst (v := 0) hx hb dSh_hasChoice_16 (by decide) ?_
    exact wt_i (by rw [if_pos c1]) (j17 ls hl)
  · refine lv_iload_n hx hb dSh_hasChoice_4 rfl (lv_at hl 1 rfl) ?_
    refine lv_aload_n hx hb dSh_hasChoice_5 rfl (lv_at hl 0 rfl) ?_
    refine va_get (D := D) (ci := 2) (v := .int (F 0)) (C := RSh) (T := TSh) (N := 4) hx hb hts inSh_ hown hK hP 1 rfl hcl.2.1 2 (by decide) f18 (fun _ h9 => h9) rfl dSh_hasChoice_6 ?_
    refine wt_i k0 ?_
    refine lv_icmp_ge (tgt := 16) hx hb dSh_hasChoice_9 (by decide) (fun c9 => ?_) (fun c9 => ?_)
    · refine lv_iconst (v := 0) hx hb dSh_hasChoice_16 (by decide) ?_
      exact wt_i (by rw [if_neg c1, if_pos c9]) (j17 ls hl)
    · refine lv_iconst (v := 1) hx hb dSh_hasChoice_12 (by decide) ?_
      refine lv_goto (tgt := 17) hx hb dSh_hasChoice_13 (by decide) ?_
      exact wt_i (by rw [if_neg c1, if_neg c9]) (j17 ls hl)
def mr_Sh_hasValue (g0 : Nat → Int32) (nC : Nat) (ch : Int32) (v : Int32) : Int32 := ((if (mr_Sh_hasChoice nC ch) = 0 then 0 else (if v < 0 then 0 else (if (g0 ch.toNatClampNeg) ≤ v then 0 else 1))) : Int32)
set_option maxHeartbeats 4000000 in
set_option maxRecDepth 100000 in
theorem c_Sh_hasValue (l : Launch) (D : va_G) (cl : List vw_C) (hcl : cOK cl) (oa ca : Nat → Nat) (ck : Nat → ClassId) (F : Nat → Int32) (G : Nat → Nat → Int32) {H : Heap} (hP : va_P D cl (cW oa ca ck F G) H) (nC : Nat) (ch : Int32) (v : Int32) (k0 : F 0 = nI nC) (hC : nC ≤ 8) : ro_Met l ySh_hasValue wsSh_hasValue ({ frames := 1, cells := 0, slots := 0, locals := 21 } : Room) D cl (cT ck) H [.ref (oa 1), .int ch, .int v] (.int (mr_Sh_hasValue (G 0) nC ch v)) := by
  refine ro_metZ (by unfold mr_Sh_hasValue; repeat' first | refine zb_i ?_ ?_ | exact zb_0 | exact zb_1) (by decide) rfl (Nat.le_of_ble_eq_true rfl) ?_
  intro p e s m args below meth c Q Sx hK ls hl hret
  obtain ⟨hx, hb, hml, hown, hts⟩ := id Sx
  have hl : lv_has ls 3 [(0, .ref (oa 1)), (1, .int ch), (2, .int v)] := hl
  have f9 := hts _ (List.mem_cons_of_mem _ mfSh_9)
  have inSh_ : ∀ w ∈ wsSh0, w ∈ wsSh_hasValue := fun w h => List.mem_cons_of_mem _ (inSh_all w h)
  refine lv_aload_n hx hb dSh_hasValue_0 rfl (lv_at hl 0 rfl) ?_
  refine lv_iload_n hx hb dSh_hasValue_1 rfl (lv_at hl 1 rfl) ?_
  refine ro_callV (r := (.int (mr_Sh_hasChoice nC ch))) (As := [.int ch]) (rest := []) Sx (c_Sh_hasChoice l D cl hcl oa ca ck F G hP nC ch k0) (cwV 1 hts gSh_hasValue_Sh_hasChoice rfl rfl rfl (by decide +kernel) ⟨Nat.le_of_ble_eq_true rfl, Nat.le_of_ble_eq_true rfl⟩) hK (va_recv hK hP (ci := 2) (q0 := 1) hcl.2.1 rfl) rfl hl.1 rfl (Nat.le_of_ble_eq_true rfl) dSh_hasValue_2 ⟨Nat.zero_le _, Nat.zero_le _⟩ ?_
  have j27 : ∀ (ls : Array Slot), lv_has ls 3 [(0, .ref (oa 1)), (1, .int ch), (2, .int v)] → W p l e ({ frames := 1, cells := 0, slots := 0, locals := 21 } : Room) s m args below meth c H [] 0 0 Q (F0 m 27 ls [.int ((if (mr_Sh_hasChoice nC ch) = 0 then 0 else (if v < 0 then 0 else (if (G 0 ch.toNatClampNeg) ≤ v then 0 else 1))) : Int32)]) := by
    intro ls hl
    exact hret _ _ _ (by rw [mr_Sh_hasValue]) dSh_hasValue_27
  refine lv_if_eq (tgt := 26) hx hb dSh_hasValue_5 (by decide) (fun c5 => ?_) (fun c5 => ?_)
  · refine lv_iconst (v := 0) hx hb dSh_hasValue_26 (by decide) ?_
    exact wt_i (by rw [if_pos c5]) (j27 ls hl)
  · have xc := ix_cl (hasChoice_ix c5 (by omega)) (by omega)
    refine lv_iload_n hx hb dSh_hasValue_8 rfl (lv_at hl 2 rfl) ?_
    refine lv_if_lt (tgt := 26) hx hb dSh_hasValue_9 (by decide) (fun c9 => ?_) (fun c9 => ?_)
    · refine lv_iconst (v := 0) hx hb dSh_hasValue_26 (by decide) ?_
      exact wt_i (by rw [if_neg c5, if_pos c9]) (j27 ls hl)
    · refine lv_iload_n hx hb dSh_hasValue_12 rfl (lv_at hl 2 rfl) ?_
      refine lv_aload_n hx hb dSh_hasValue_13 rfl (lv_at hl 0 rfl) ?_
      refine va_get (D := D) (ci := 2) (v := .ref (ca 0)) (C := RSh) (T := TSh) (N := 4) hx hb hts inSh_ hown hK hP 1 rfl hcl.2.1 0 (by decide) f9 (fun _ h9 => h9) rfl dSh_hasValue_14 ?_
      refine lv_iload_n hx hb dSh_hasValue_17 rfl (lv_at hl 1 rfl) ?_
      have sd18 : ch.toNatClampNeg < 8 := by have := xc.2; omega
      refine wn_iald (f := G 0) hx hb hK hP 8 0 rfl rfl ch.toNatClampNeg xc.1 sd18 (by decide) dSh_hasValue_18 ?_
      refine lv_icmp_ge (tgt := 26) hx hb dSh_hasValue_19 (by decide) (fun c19 => ?_) (fun c19 => ?_)
      · refine lv_iconst (v := 0) hx hb dSh_hasValue_26 (by decide) ?_
        exact wt_i (by rw [if_neg c5, if_neg c9, if_pos c19]) (j27 ls hl)
      · refine lv_iconst (v := 1) hx hb dSh_hasValue_22 (by decide) ?_
        refine lv_goto (tgt := 27) hx hb dSh_hasValue_23 (by decide) ?_
        exact wt_i (by rw [if_neg c5, if_neg c9, if_neg c19]) (j27 ls hl)
def mr_Sh_digit (g0 : Nat → Int32) (g1 : Nat → Int32) (d : Int32) (j : Nat) : Int32 := ((if (g1 j) ≤ 0 then 0 else (if (g0 j) ≤ 0 then 0 else (d / (g1 j)) - (d / (g1 j)) / (g0 j) * (g0 j))) : Int32)
set_option maxHeartbeats 4000000 in
set_option maxRecDepth 100000 in
theorem c_Sh_digit (l : Launch) (D : va_G) (cl : List vw_C) (hcl : cOK cl) (oa ca : Nat → Nat) (ck : Nat → ClassId) (F : Nat → Int32) (G : Nat → Nat → Int32) {H : Heap} (hP : va_P D cl (cW oa ca ck F G) H) (d : Int32) (j : Nat) (hj : j < 8) : ro_Met l ySh_digit wsSh_digit ({ frames := 0, cells := 0, slots := 0, locals := 0 } : Room) D cl (cT ck) H [.ref (oa 1), .int d, .int (nI j)] (.int (mr_Sh_digit (G 0) (G 1) d j)) := by
  refine ro_metI (by decide) rfl (Nat.le_of_ble_eq_true rfl) ?_
  intro p e s m args below meth c Q Sx hK ls hl hret
  obtain ⟨hx, hb, hml, hown, hts⟩ := id Sx
  have hl : lv_has ls 5 [(0, .ref (oa 1)), (1, .int d), (2, .int (nI j))] := hl
  have f15 := hts _ (List.mem_cons_of_mem _ mfSh_15)
  have inSh_ : ∀ w ∈ wsSh0, w ∈ wsSh_digit := fun w h => List.mem_cons_of_mem _ (inSh_all w h)
  have f9 := hts _ (List.mem_cons_of_mem _ mfSh_9)
  refine lv_aload_n hx hb dSh_digit_0 rfl (lv_at hl 0 rfl) ?_
  refine va_get (D := D) (ci := 2) (v := .ref (ca 1)) (C := RSh) (T := TSh) (N := 4) hx hb hts inSh_ hown hK hP 1 rfl hcl.2.1 1 (by decide) f15 (fun _ h9 => h9) rfl dSh_digit_1 ?_
  refine lv_iload_n hx hb dSh_digit_4 rfl (lv_at hl 2 rfl) ?_
  have sd5 : j < 8 := by omega
  refine wn_iald (f := G 1) hx hb hK hP 9 1 rfl rfl j rfl sd5 (by decide) dSh_digit_5 ?_
  refine lv_istore_n (lv' := [(3, .int (G 1 j)), (0, .ref (oa 1)), (1, .int d), (2, .int (nI j))]) hx hb dSh_digit_6 rfl hl (by decide) rfl (fun ls hl => ?_)
  refine lv_aload_n hx hb dSh_digit_7 rfl (lv_at hl 1 rfl) ?_
  refine va_get (D := D) (ci := 2) (v := .ref (ca 0)) (C := RSh) (T := TSh) (N := 4) hx hb hts inSh_ hown hK hP 1 rfl hcl.2.1 0 (by decide) f9 (fun _ h9 => h9) rfl dSh_digit_8 ?_
  refine lv_iload_n hx hb dSh_digit_11 rfl (lv_at hl 3 rfl) ?_
  have sd12 : j < 8 := by omega
  refine wn_iald (f := G 0) hx hb hK hP 8 0 rfl rfl j rfl sd12 (by decide) dSh_digit_12 ?_
  refine lv_istore (lv' := [(4, .int (G 0 j)), (3, .int (G 1 j)), (0, .ref (oa 1)), (1, .int d), (2, .int (nI j))]) hx hb dSh_digit_13 hl (by decide) rfl (fun ls hl => ?_)
  refine lv_iload_n hx hb dSh_digit_15 rfl (lv_at hl 1 rfl) ?_
  have j34 : ∀ (ls : Array Slot), lv_has ls 5 [(4, .int (G 0 j)), (3, .int (G 1 j)), (0, .ref (oa 1)), (1, .int d), (2, .int (nI j))] → W p l e ({ frames := 0, cells := 0, slots := 0, locals := 0 } : Room) s m args below meth c H [] 0 0 Q (F0 m 34 ls [.int ((if (G 1 j) ≤ 0 then 0 else (if (G 0 j) ≤ 0 then 0 else (d / (G 1 j)) - (d / (G 1 j)) / (G 0 j) * (G 0 j))) : Int32)]) := by
    intro ls hl
    exact hret _ _ _ (by rw [mr_Sh_digit]) dSh_digit_34
  refine lv_if_le (tgt := 33) hx hb dSh_digit_16 (by decide) (fun c16 => ?_) (fun c16 => ?_)
  · refine lv_iconst (v := 0) hx hb dSh_digit_33 (by decide) ?_
    exact wt_i (by rw [if_pos c16]) (j34 ls hl)
  · refine lv_iload hx hb dSh_digit_19 (lv_at hl 0 rfl) ?_
    refine lv_if_le (tgt := 33) hx hb dSh_digit_21 (by decide) (fun c21 => ?_) (fun c21 => ?_)
    · refine lv_iconst (v := 0) hx hb dSh_digit_33 (by decide) ?_
      exact wt_i (by rw [if_neg c16, if_pos c21]) (j34 ls hl)
    · refine lv_iload_n hx hb dSh_digit_24 rfl (lv_at hl 3 rfl) ?_
      refine lv_iload_n hx hb dSh_digit_25 rfl (lv_at hl 1 rfl) ?_
      have sd26 : ¬ (G 1 j) = 0 := by exact ne_nle c16
      refine lv_idiv hx hb dSh_digit_26 sd26 ?_
      refine lv_iload hx hb dSh_digit_27 (lv_at hl 0 rfl) ?_
      have sd29 : ¬ (G 0 j) = 0 := by exact ne_nle c21
      refine lv_irem hx hb dSh_digit_29 sd29 ?_
      refine lv_goto (tgt := 34) hx hb dSh_digit_30 (by decide) ?_
      exact wt_i (by rw [if_neg c16, if_neg c21]) (j34 ls hl)
def lf_Sh_designOf_4 (g1 : Nat → Int32) (g14 : Nat → Int32) (nC : Nat) (i0 : Int32) : Nat → Int32
  | 0 => i0
  | k4 + 1 => ((lf_Sh_designOf_4 g1 g14 nC i0 k4) + ((g14 k4) * (g1 k4)))
def mr_Sh_designOf (g1 : Nat → Int32) (g14 : Nat → Int32) (nC : Nat) : Int32 := (lf_Sh_designOf_4 g1 g14 nC 0 nC)
set_option maxHeartbeats 4000000 in
set_option maxRecDepth 100000 in
theorem c_Sh_designOf (l : Launch) (D : va_G) (cl : List vw_C) (hcl : cOK cl) (oa ca : Nat → Nat) (ck : Nat → ClassId) (F : Nat → Int32) (G : Nat → Nat → Int32) {H : Heap} (hP : va_P D cl (cW oa ca ck F G) H) (nC : Nat) (k0 : F 0 = nI nC) (hC : nC ≤ 8) : ro_Met l ySh_designOf wsSh_designOf ({ frames := 0, cells := 0, slots := 0, locals := 0 } : Room) D cl (cT ck) H [.ref (oa 1), .ref (ca 14)] (.int (mr_Sh_designOf (G 1) (G 14) nC)) := by
  refine ro_metI (by decide) rfl (Nat.le_of_ble_eq_true rfl) ?_
  intro p e s m args below meth c Q Sx hK ls hl hret
  obtain ⟨hx, hb, hml, hown, hts⟩ := id Sx
  have hl : lv_has ls 4 [(0, .ref (oa 1)), (1, .ref (ca 14))] := hl
  have f18 := hts _ (List.mem_cons_of_mem _ mfSh_18)
  have inSh_ : ∀ w ∈ wsSh0, w ∈ wsSh_designOf := fun w h => List.mem_cons_of_mem _ (inSh_all w h)
  have f15 := hts _ (List.mem_cons_of_mem _ mfSh_15)
  refine lv_iconst (v := 0) hx hb dSh_designOf_0 (by decide) ?_
  refine lv_istore_n (lv' := [(2, .int 0), (0, .ref (oa 1)), (1, .ref (ca 14))]) hx hb dSh_designOf_1 rfl hl (by decide) rfl (fun ls hl => ?_)
  refine lv_iconst (v := 0) hx hb dSh_designOf_2 (by decide) ?_
  refine lv_istore_n (lv' := [(3, .int 0), (2, .int 0), (0, .ref (oa 1)), (1, .ref (ca 14))]) hx hb dSh_designOf_3 rfl hl (by decide) rfl (fun ls hl => ?_)
  have loop4 : ∀ (N4 k4 : Nat), k4 ≤ nC → nC - k4 < N4 → ∀ (ls : Array Slot), lv_has ls 4 [(3, .int (nI k4)), (2, .int (lf_Sh_designOf_4 (G 1) (G 14) nC 0 k4)), (0, .ref (oa 1)), (1, .ref (ca 14))] → W p l e ({ frames := 0, cells := 0, slots := 0, locals := 0 } : Room) s m args below meth c H [] 0 0 Q (F0 m 4 ls []) := by
    intro N4
    induction N4 with
    | zero => intro k4 hk4 hm4; exact absurd hm4 (Nat.not_lt_zero _)
    | succ N4 ih4 =>
      intro k4 hk4 hm4  ls hl
      refine lv_iload_n hx hb dSh_designOf_4 rfl (lv_at hl 0 rfl) ?_
      refine lv_aload_n hx hb dSh_designOf_5 rfl (lv_at hl 2 rfl) ?_
      refine va_get (D := D) (ci := 2) (v := .int (F 0)) (C := RSh) (T := TSh) (N := 4) hx hb hts inSh_ hown hK hP 1 rfl hcl.2.1 2 (by decide) f18 (fun _ h9 => h9) rfl dSh_designOf_6 ?_
      refine wt_i k0 ?_
      refine lv_icmp_ge (tgt := 31) hx hb dSh_designOf_9 (by decide) (fun c9 => ?_) (fun c9 => ?_)
      · have n9 : nC ≤ k4 := (nI_leI (a := nC) (b := k4) (by omega) (by omega)).mp c9
        have hx4 : nC = k4 := by omega
        subst hx4
        refine lv_iload_n hx hb dSh_designOf_31 rfl (lv_at hl 1 rfl) ?_
        exact hret _ _ _ (by rw [mr_Sh_designOf]) dSh_designOf_32
      · have n9 : ¬ nC ≤ k4 := fun h9 => c9 ((nI_leI (a := nC) (b := k4) (by omega) (by omega)).mpr h9)
        refine lv_iload_n hx hb dSh_designOf_12 rfl (lv_at hl 1 rfl) ?_
        refine lv_aload_n hx hb dSh_designOf_13 rfl (lv_at hl 3 rfl) ?_
        refine lv_iload_n hx hb dSh_designOf_14 rfl (lv_at hl 0 rfl) ?_
        have sd15 : k4 < 8 := by omega
        refine wn_iald (f := G 14) hx hb hK hP 22 14 rfl rfl k4 rfl sd15 (by decide) dSh_designOf_15 ?_
        refine lv_aload_n hx hb dSh_designOf_16 rfl (lv_at hl 2 rfl) ?_
        refine va_get (D := D) (ci := 2) (v := .ref (ca 1)) (C := RSh) (T := TSh) (N := 4) hx hb hts inSh_ hown hK hP 1 rfl hcl.2.1 1 (by decide) f15 (fun _ h9 => h9) rfl dSh_designOf_17 ?_
        refine lv_iload_n hx hb dSh_designOf_20 rfl (lv_at hl 0 rfl) ?_
        have sd21 : k4 < 8 := by omega
        refine wn_iald (f := G 1) hx hb hK hP 9 1 rfl rfl k4 rfl sd21 (by decide) dSh_designOf_21 ?_
        refine lv_imul hx hb dSh_designOf_22 ?_
        refine lv_iadd hx hb dSh_designOf_23 ?_
        refine lv_istore_n (lv' := [(2, .int ((lf_Sh_designOf_4 (G 1) (G 14) nC 0 k4) + ((G 14 k4) * (G 1 k4)))), (3, .int (nI k4)), (0, .ref (oa 1)), (1, .ref (ca 14))]) hx hb dSh_designOf_24 rfl hl (by decide) rfl (fun ls hl => ?_)
        refine lv_iinc (v := nI (k4 + 1)) (lv' := [(3, .int (nI (k4 + 1))), (2, .int ((lf_Sh_designOf_4 (G 1) (G 14) nC 0 k4) + ((G 14 k4) * (G 1 k4)))), (0, .ref (oa 1)), (1, .ref (ca 14))]) hx hb dSh_designOf_25 hl (k := 1) rfl (by exact ii_1 k4) (by decide) rfl (fun ls hl => ?_)
        refine lv_goto (tgt := 4) hx hb dSh_designOf_28 (by decide) ?_
        have eb4 : lf_Sh_designOf_4 (G 1) (G 14) nC 0 (k4 + 1) = (lf_Sh_designOf_4 (G 1) (G 14) nC 0 k4) + ((G 14 k4) * (G 1 k4)) := by rw [lf_Sh_designOf_4]
        exact ih4 (k4 + 1) (by omega) (by omega)  ls (by rw [eb4]; exact lv_sub hl [0, 1, 2, 3] rfl)
  exact loop4 _ 0 (Nat.zero_le _) (Nat.lt_succ_self _)  ls (lv_sub hl [0, 1, 2, 3] rfl)
def lf_Sh_neighbours_4 (g0 : Nat → Int32) (nC : Nat) (i0 : Int32) : Nat → Int32
  | 0 => i0
  | k4 + 1 => ((lf_Sh_neighbours_4 g0 nC i0 k4) + ((g0 k4) - 1))
def mr_Sh_neighbours (g0 : Nat → Int32) (nC : Nat) : Int32 := (lf_Sh_neighbours_4 g0 nC 0 nC)
set_option maxHeartbeats 4000000 in
set_option maxRecDepth 100000 in
theorem c_Sh_neighbours (l : Launch) (D : va_G) (cl : List vw_C) (hcl : cOK cl) (oa ca : Nat → Nat) (ck : Nat → ClassId) (F : Nat → Int32) (G : Nat → Nat → Int32) {H : Heap} (hP : va_P D cl (cW oa ca ck F G) H) (nC : Nat) (k0 : F 0 = nI nC) (hC : nC ≤ 8) : ro_Met l ySh_neighbours wsSh_neighbours ({ frames := 0, cells := 0, slots := 0, locals := 0 } : Room) D cl (cT ck) H [.ref (oa 1)] (.int (mr_Sh_neighbours (G 0) nC)) := by
  refine ro_metI (by decide) rfl (Nat.le_of_ble_eq_true rfl) ?_
  intro p e s m args below meth c Q Sx hK ls hl hret
  obtain ⟨hx, hb, hml, hown, hts⟩ := id Sx
  have hl : lv_has ls 3 [(0, .ref (oa 1))] := hl
  have f18 := hts _ (List.mem_cons_of_mem _ mfSh_18)
  have inSh_ : ∀ w ∈ wsSh0, w ∈ wsSh_neighbours := fun w h => List.mem_cons_of_mem _ (inSh_all w h)
  have f9 := hts _ (List.mem_cons_of_mem _ mfSh_9)
  refine lv_iconst (v := 0) hx hb dSh_neighbours_0 (by decide) ?_
  refine lv_istore_n (lv' := [(1, .int 0), (0, .ref (oa 1))]) hx hb dSh_neighbours_1 rfl hl (by decide) rfl (fun ls hl => ?_)
  refine lv_iconst (v := 0) hx hb dSh_neighbours_2 (by decide) ?_
  refine lv_istore_n (lv' := [(2, .int 0), (1, .int 0), (0, .ref (oa 1))]) hx hb dSh_neighbours_3 rfl hl (by decide) rfl (fun ls hl => ?_)
  have loop4 : ∀ (N4 k4 : Nat), k4 ≤ nC → nC - k4 < N4 → ∀ (ls : Array Slot), lv_has ls 3 [(2, .int (nI k4)), (1, .int (lf_Sh_neighbours_4 (G 0) nC 0 k4)), (0, .ref (oa 1))] → W p l e ({ frames := 0, cells := 0, slots := 0, locals := 0 } : Room) s m args below meth c H [] 0 0 Q (F0 m 4 ls []) := by
    intro N4
    induction N4 with
    | zero => intro k4 hk4 hm4; exact absurd hm4 (Nat.not_lt_zero _)
    | succ N4 ih4 =>
      intro k4 hk4 hm4  ls hl
      refine lv_iload_n hx hb dSh_neighbours_4 rfl (lv_at hl 0 rfl) ?_
      refine lv_aload_n hx hb dSh_neighbours_5 rfl (lv_at hl 2 rfl) ?_
      refine va_get (D := D) (ci := 2) (v := .int (F 0)) (C := RSh) (T := TSh) (N := 4) hx hb hts inSh_ hown hK hP 1 rfl hcl.2.1 2 (by decide) f18 (fun _ h9 => h9) rfl dSh_neighbours_6 ?_
      refine wt_i k0 ?_
      refine lv_icmp_ge (tgt := 29) hx hb dSh_neighbours_9 (by decide) (fun c9 => ?_) (fun c9 => ?_)
      · have n9 : nC ≤ k4 := (nI_leI (a := nC) (b := k4) (by omega) (by omega)).mp c9
        have hx4 : nC = k4 := by omega
        subst hx4
        refine lv_iload_n hx hb dSh_neighbours_29 rfl (lv_at hl 1 rfl) ?_
        exact hret _ _ _ (by rw [mr_Sh_neighbours]) dSh_neighbours_30
      · have n9 : ¬ nC ≤ k4 := fun h9 => c9 ((nI_leI (a := nC) (b := k4) (by omega) (by omega)).mpr h9)
        refine lv_iload_n hx hb dSh_neighbours_12 rfl (lv_at hl 1 rfl) ?_
        refine lv_aload_n hx hb dSh_neighbours_13 rfl (lv_at hl 2 rfl) ?_
        refine va_get (D := D) (ci := 2) (v := .ref (ca 0)) (C := RSh) (T := TSh) (N := 4) hx hb hts inSh_ hown hK hP 1 rfl hcl.2.1 0 (by decide) f9 (fun _ h9 => h9) rfl dSh_neighbours_14 ?_
        refine lv_iload_n hx hb dSh_neighbours_17 rfl (lv_at hl 0 rfl) ?_
        have sd18 : k4 < 8 := by omega
        refine wn_iald (f := G 0) hx hb hK hP 8 0 rfl rfl k4 rfl sd18 (by decide) dSh_neighbours_18 ?_
        refine lv_iconst (v := 1) hx hb dSh_neighbours_19 (by decide) ?_
        refine lv_isub hx hb dSh_neighbours_20 ?_
        refine lv_iadd hx hb dSh_neighbours_21 ?_
        refine lv_istore_n (lv' := [(1, .int ((lf_Sh_neighbours_4 (G 0) nC 0 k4) + ((G 0 k4) - 1))), (2, .int (nI k4)), (0, .ref (oa 1))]) hx hb dSh_neighbours_22 rfl hl (by decide) rfl (fun ls hl => ?_)
        refine lv_iinc (v := nI (k4 + 1)) (lv' := [(2, .int (nI (k4 + 1))), (1, .int ((lf_Sh_neighbours_4 (G 0) nC 0 k4) + ((G 0 k4) - 1))), (0, .ref (oa 1))]) hx hb dSh_neighbours_23 hl (k := 1) rfl (by exact ii_1 k4) (by decide) rfl (fun ls hl => ?_)
        refine lv_goto (tgt := 4) hx hb dSh_neighbours_26 (by decide) ?_
        have eb4 : lf_Sh_neighbours_4 (G 0) nC 0 (k4 + 1) = (lf_Sh_neighbours_4 (G 0) nC 0 k4) + ((G 0 k4) - 1) := by rw [lf_Sh_neighbours_4]
        exact ih4 (k4 + 1) (by omega) (by omega)  ls (by rw [eb4]; exact lv_sub hl [0, 1, 2] rfl)
  exact loop4 _ 0 (Nat.zero_le _) (Nat.lt_succ_self _)  ls (lv_sub hl [0, 1, 2] rfl)
def lf_Sh_neighbour_5 (g0 : Nat → Int32) (g1 : Nat → Int32) (nC : Nat) (d : Int32) (q : Int32) : Nat → Nat → Int32 → Int32
  | 0, c_, lf_ => 0
  | N + 1, c_, lf_ => (if (nI nC) ≤ (nI c_) then d else (if ((g0 c_) - 1) ≤ lf_ then lf_Sh_neighbour_5 g0 g1 nC d q N (c_ + 1) (lf_ - ((g0 c_) - 1)) else (d + ((((if (mr_Sh_digit g0 g1 d c_) ≤ lf_ then lf_ + 1 else lf_) : Int32) - (mr_Sh_digit g0 g1 d c_)) * (g1 c_)))))
def mr_Sh_neighbour (g0 : Nat → Int32) (g1 : Nat → Int32) (nC : Nat) (d : Int32) (q : Int32) : Int32 := lf_Sh_neighbour_5 g0 g1 nC d q (nC + 1) 0 q
set_option maxHeartbeats 4000000 in
set_option maxRecDepth 100000 in
theorem c_Sh_neighbour (l : Launch) (D : va_G) (cl : List vw_C) (hcl : cOK cl) (oa ca : Nat → Nat) (ck : Nat → ClassId) (F : Nat → Int32) (G : Nat → Nat → Int32) {H : Heap} (hP : va_P D cl (cW oa ca ck F G) H) (nC : Nat) (d : Int32) (q : Int32) (k0 : F 0 = nI nC) (hC : nC ≤ 8) : ro_Met l ySh_neighbour wsSh_neighbour ({ frames := 1, cells := 0, slots := 0, locals := 24 } : Room) D cl (cT ck) H [.ref (oa 1), .int d, .int q] (.int (mr_Sh_neighbour (G 0) (G 1) nC d q)) := by
  refine ro_metI (by decide) rfl (Nat.le_of_ble_eq_true rfl) ?_
  intro p e s m args below meth c Q Sx hK ls hl hret
  obtain ⟨hx, hb, hml, hown, hts⟩ := id Sx
  have hl : lv_has ls 8 [(0, .ref (oa 1)), (1, .int d), (2, .int q)] := hl
  have f18 := hts _ (List.mem_cons_of_mem _ mfSh_18)
  have inSh_ : ∀ w ∈ wsSh0, w ∈ wsSh_neighbour := fun w h => List.mem_cons_of_mem _ (inSh_all w h)
  have f9 := hts _ (List.mem_cons_of_mem _ mfSh_9)
  have f15 := hts _ (List.mem_cons_of_mem _ mfSh_15)
  refine lv_iload_n hx hb dSh_neighbour_0 rfl (lv_at hl 2 rfl) ?_
  refine lv_istore_n (lv' := [(3, .int q), (0, .ref (oa 1)), (1, .int d), (2, .int q)]) hx hb dSh_neighbour_1 rfl hl (by decide) rfl (fun ls hl => ?_)
  refine lv_iconst (v := 0) hx hb dSh_neighbour_2 (by decide) ?_
  refine lv_istore (lv' := [(4, .int 0), (3, .int q), (0, .ref (oa 1)), (1, .int d), (2, .int q)]) hx hb dSh_neighbour_3 hl (by decide) rfl (fun ls hl => ?_)
  have loop5 : ∀ (N5 : Nat) (c_ : Nat) (lf_ : Int32), c_ ≤ nC → nC - c_ < N5 → lf_Sh_neighbour_5 (G 0) (G 1) nC d q (nC + 1) 0 q = lf_Sh_neighbour_5 (G 0) (G 1) nC d q N5 c_ lf_ → ∀ (ls : Array Slot), lv_has ls 8 [(4, .int (nI c_)), (3, .int lf_), (0, .ref (oa 1)), (1, .int d), (2, .int q)] → W p l e ({ frames := 1, cells := 0, slots := 0, locals := 24 } : Room) s m args below meth c H [] 0 0 Q (F0 m 5 ls []) := by
    intro N5
    induction N5 with
    | zero => intro c_ lf_ hc hm5; exact absurd hm5 (Nat.not_lt_zero _)
    | succ N5 ih5 =>
      intro c_ lf_ hc hm5 hR5 ls hl
      refine lv_iload hx hb dSh_neighbour_5 (lv_at hl 0 rfl) ?_
      refine lv_aload_n hx hb dSh_neighbour_7 rfl (lv_at hl 2 rfl) ?_
      refine va_get (D := D) (ci := 2) (v := .int (F 0)) (C := RSh) (T := TSh) (N := 4) hx hb hts inSh_ hown hK hP 1 rfl hcl.2.1 2 (by decide) f18 (fun _ h9 => h9) rfl dSh_neighbour_8 ?_
      refine wt_i k0 ?_
      refine lv_icmp_ge (tgt := 82) hx hb dSh_neighbour_11 (by decide) (fun c11 => ?_) (fun c11 => ?_)
      · have n11 : nC ≤ c_ := (nI_leI (a := nC) (b := c_) (by omega) (by omega)).mp c11
        refine lv_iload_n hx hb dSh_neighbour_82 rfl (lv_at hl 3 rfl) ?_
        exact hret _ _ _ (by rw [mr_Sh_neighbour, hR5, lf_Sh_neighbour_5, if_pos c11]) dSh_neighbour_83
      · have n11 : ¬ nC ≤ c_ := fun h9 => c11 ((nI_leI (a := nC) (b := c_) (by omega) (by omega)).mpr h9)
        refine lv_aload_n hx hb dSh_neighbour_14 rfl (lv_at hl 2 rfl) ?_
        refine va_get (D := D) (ci := 2) (v := .ref (ca 0)) (C := RSh) (T := TSh) (N := 4) hx hb hts inSh_ hown hK hP 1 rfl hcl.2.1 0 (by decide) f9 (fun _ h9 => h9) rfl dSh_neighbour_15 ?_
        refine lv_iload hx hb dSh_neighbour_18 (lv_at hl 0 rfl) ?_
        have sd20 : c_ < 8 := by omega
        refine wn_iald (f := G 0) hx hb hK hP 8 0 rfl rfl c_ rfl sd20 (by decide) dSh_neighbour_20 ?_
        refine lv_iconst (v := 1) hx hb dSh_neighbour_21 (by decide) ?_
        refine lv_isub hx hb dSh_neighbour_22 ?_
        refine lv_istore (lv' := [(5, .int ((G 0 c_) - 1)), (4, .int (nI c_)), (3, .int lf_), (0, .ref (oa 1)), (1, .int d), (2, .int q)]) hx hb dSh_neighbour_23 hl (by decide) rfl (fun ls hl => ?_)
        refine lv_iload_n hx hb dSh_neighbour_25 rfl (lv_at hl 2 rfl) ?_
        refine lv_iload hx hb dSh_neighbour_26 (lv_at hl 0 rfl) ?_
        refine lv_icmp_ge (tgt := 71) hx hb dSh_neighbour_28 (by decide) (fun c28 => ?_) (fun c28 => ?_)
        · refine lv_iload_n hx hb dSh_neighbour_71 rfl (lv_at hl 2 rfl) ?_
          refine lv_iload hx hb dSh_neighbour_72 (lv_at hl 0 rfl) ?_
          refine lv_isub hx hb dSh_neighbour_74 ?_
          refine lv_istore_n (lv' := [(3, .int (lf_ - ((G 0 c_) - 1))), (5, .int ((G 0 c_) - 1)), (4, .int (nI c_)), (0, .ref (oa 1)), (1, .int d), (2, .int q)]) hx hb dSh_neighbour_75 rfl hl (by decide) rfl (fun ls hl => ?_)
          refine lv_iinc (v := nI (c_ + 1)) (lv' := [(4, .int (nI (c_ + 1))), (3, .int (lf_ - ((G 0 c_) - 1))), (5, .int ((G 0 c_) - 1)), (0, .ref (oa 1)), (1, .int d), (2, .int q)]) hx hb dSh_neighbour_76 hl (k := 2) rfl (by exact ii_1 c_) (by decide) rfl (fun ls hl => ?_)
          refine lv_goto (tgt := 5) hx hb dSh_neighbour_79 (by decide) ?_
          have er5 : lf_Sh_neighbour_5 (G 0) (G 1) nC d q (N5 + 1) c_ lf_ = lf_Sh_neighbour_5 (G 0) (G 1) nC d q N5 (c_ + 1) (lf_ - ((G 0 c_) - 1)) := by rw [lf_Sh_neighbour_5, if_neg c11, if_pos c28]
          exact ih5 (c_ + 1) (lf_ - ((G 0 c_) - 1)) (by omega) (by omega) (hR5.trans er5) ls (lv_sub hl [0, 1, 3, 4, 5] rfl)
        · refine lv_aload_n hx hb dSh_neighbour_31 rfl (lv_at hl 3 rfl) ?_
          refine lv_iload_n hx hb dSh_neighbour_32 rfl (lv_at hl 4 rfl) ?_
          refine lv_iload hx hb dSh_neighbour_33 (lv_at hl 1 rfl) ?_
          refine ro_callV (r := (.int (mr_Sh_digit (G 0) (G 1) d c_))) (As := [.int d, .int (nI c_)]) (rest := []) Sx (c_Sh_digit l D cl hcl oa ca ck F G hP d c_ (by omega)) (cwV 2 hts gSh_neighbour_Sh_digit rfl rfl rfl (by decide +kernel) ⟨Nat.le_of_ble_eq_true rfl, Nat.le_of_ble_eq_true rfl⟩) hK (va_recv hK hP (ci := 2) (q0 := 1) hcl.2.1 rfl) rfl hl.1 rfl (Nat.le_of_ble_eq_true rfl) dSh_neighbour_35 ⟨Nat.zero_le _, Nat.zero_le _⟩ ?_
          refine lv_istore (lv' := [(6, .int (mr_Sh_digit (G 0) (G 1) d c_)), (5, .int ((G 0 c_) - 1)), (4, .int (nI c_)), (3, .int lf_), (0, .ref (oa 1)), (1, .int d), (2, .int q)]) hx hb dSh_neighbour_38 hl (by decide) rfl (fun ls hl => ?_)
          refine lv_iload_n hx hb dSh_neighbour_40 rfl (lv_at hl 3 rfl) ?_
          refine lv_iload hx hb dSh_neighbour_41 (lv_at hl 0 rfl) ?_
          have j53 : ∀ (ls : Array Slot), lv_has ls 8 [(6, .int (mr_Sh_digit (G 0) (G 1) d c_)), (5, .int ((G 0 c_) - 1)), (4, .int (nI c_)), (3, .int lf_), (0, .ref (oa 1)), (1, .int d), (2, .int q)] → W p l e ({ frames := 1, cells := 0, slots := 0, locals := 24 } : Room) s m args below meth c H [] 0 0 Q (F0 m 53 ls [.int ((if (mr_Sh_digit (G 0) (G 1) d c_) ≤ lf_ then lf_ + 1 else lf_) : Int32)]) := by
            intro ls hl
            refine lv_istore (lv' := [(7, .int ((if (mr_Sh_digit (G 0) (G 1) d c_) ≤ lf_ then lf_ + 1 else lf_) : Int32)), (6, .int (mr_Sh_digit (G 0) (G 1) d c_)), (5, .int ((G 0 c_) - 1)), (4, .int (nI c_)), (3, .int lf_), (0, .ref (oa 1)), (1, .int d), (2, .int q)]) hx hb dSh_neighbour_53 hl (by decide) rfl (fun ls hl => ?_)
            refine lv_iload_n hx hb dSh_neighbour_55 rfl (lv_at hl 6 rfl) ?_
            refine lv_iload hx hb dSh_neighbour_56 (lv_at hl 0 rfl) ?_
            refine lv_iload hx hb dSh_neighbour_58 (lv_at hl 1 rfl) ?_
            refine lv_isub hx hb dSh_neighbour_60 ?_
            refine lv_aload_n hx hb dSh_neighbour_61 rfl (lv_at hl 5 rfl) ?_
            refine va_get (D := D) (ci := 2) (v := .ref (ca 1)) (C := RSh) (T := TSh) (N := 4) hx hb hts inSh_ hown hK hP 1 rfl hcl.2.1 1 (by decide) f15 (fun _ h9 => h9) rfl dSh_neighbour_62 ?_
            refine lv_iload hx hb dSh_neighbour_65 (lv_at hl 3 rfl) ?_
            have sd67 : c_ < 8 := by omega
            refine wn_iald (f := G 1) hx hb hK hP 9 1 rfl rfl c_ rfl sd67 (by decide) dSh_neighbour_67 ?_
            refine lv_imul hx hb dSh_neighbour_68 ?_
            refine lv_iadd hx hb dSh_neighbour_69 ?_
            exact hret _ _ _ (by rw [mr_Sh_neighbour, hR5, lf_Sh_neighbour_5, if_neg c11, if_neg c28]) dSh_neighbour_70
          refine lv_icmp_ge (tgt := 50) hx hb dSh_neighbour_43 (by decide) (fun c43 => ?_) (fun c43 => ?_)
          · refine lv_iload_n hx hb dSh_neighbour_50 rfl (lv_at hl 3 rfl) ?_
            refine lv_iconst (v := 1) hx hb dSh_neighbour_51 (by decide) ?_
            refine lv_iadd hx hb dSh_neighbour_52 ?_
            exact wt_i (by rw [if_pos c43]) (j53 ls hl)
          · refine lv_iload_n hx hb dSh_neighbour_46 rfl (lv_at hl 3 rfl) ?_
            refine lv_goto (tgt := 53) hx hb dSh_neighbour_47 (by decide) ?_
            exact wt_i (by rw [if_neg c43]) (j53 ls hl)
  exact loop5 (nC + 1) 0 q (by omega) (by omega) rfl ls (lv_sub hl [0, 1, 2, 3, 4] rfl)
def lf_Sh_addChoice_2 (nC : Nat) (nD : Nat) (v : Nat) (i0 : (Nat → Int32)) : Nat → (Nat → Int32)
  | 0 => i0
  | k2 + 1 => (upd (lf_Sh_addChoice_2 nC nD v i0 k2) k2 (((lf_Sh_addChoice_2 nC nD v i0 k2) k2) * (nI v)))
def mr_Sh_addChoice (g0 : Nat → Int32) (g1 : Nat → Int32) (nC : Nat) (nD : Nat) (v : Nat) : Int32 × Int32 × (Nat → Int32) × (Nat → Int32) := (nI (nC + 1), nI (nD * v), upd g0 nC (nI v), upd (lf_Sh_addChoice_2 nC nD v g1 nC) nC 1)
set_option maxHeartbeats 4000000 in
set_option maxRecDepth 100000 in
theorem c_Sh_addChoice (l : Launch) (D : va_G) (cl : List vw_C) (hcl : cOK cl) (oa ca : Nat → Nat) (ck : Nat → ClassId) (F : Nat → Int32) (G : Nat → Nat → Int32) {H0 : Heap} (hP : va_P D cl (cW oa ca ck F G) H0) (hD : va_D (fun _ => True) (cW oa ca ck F G)) (nC : Nat) (nD : Nat) (v : Nat) (k0 : F 0 = nI nC) (k1 : F 1 = nI nD) (hC7 : nC < 8) : ww_Met l ySh_addChoice wsSh_addChoice ({ frames := 0, cells := 0, slots := 0, locals := 0 } : Room) D cl (cT ck) H0 [.ref (oa 1), .int (nI v)] (cW oa ca ck F G) none (cW oa ca ck (upd (upd F 0 ((mr_Sh_addChoice (G 0) (G 1) nC nD v).1)) 1 ((mr_Sh_addChoice (G 0) (G 1) nC nD v).2.1)) (va_up (va_up G 0 ((mr_Sh_addChoice (G 0) (G 1) nC nD v).2.2.1)) 1 ((mr_Sh_addChoice (G 0) (G 1) nC nD v).2.2.2))) := by
  refine ww_metV (by decide) rfl (Nat.le_of_ble_eq_true rfl) hP hD ?_
  intro p e s m args below meth c Q A Sx hK hP hD hS hA ls hl hret
  obtain ⟨hx, hb, hml, hown, hts⟩ := id Sx
  have hl : lv_has ls 3 [(0, .ref (oa 1)), (1, .int (nI v))] := hl
  obtain ⟨H, eH⟩ : ∃ H : Heap, H = H0 := ⟨_, rfl⟩
  obtain ⟨locs, eL⟩ : ∃ L : List Loc, L = [] := ⟨_, rfl⟩
  have hP : va_P D cl (cW oa ca ck F G) H := by rw [eH]; exact hP
  have hS : va_S A H0 H locs := by rw [eH, eL]; exact hS
  rw [show W p l e ({ frames := 0, cells := 0, slots := 0, locals := 0 } : Room) s m args below meth c H0 [] 0 0 Q (F0 m 0 ls []) = W p l e ({ frames := 0, cells := 0, slots := 0, locals := 0 } : Room) s m args below meth c H locs 0 0 Q (F0 m 0 ls []) by rw [eH, eL]]
  clear eH eL
  have f18 := hts _ (List.mem_cons_of_mem _ mfSh_18)
  have inSh_ : ∀ w ∈ wsSh0, w ∈ wsSh_addChoice := fun w h => List.mem_cons_of_mem _ (inSh_all w h)
  have f9 := hts _ (List.mem_cons_of_mem _ mfSh_9)
  have f15 := hts _ (List.mem_cons_of_mem _ mfSh_15)
  have f22 := hts _ (List.mem_cons_of_mem _ mfSh_22)
  refine lv_iconst (v := 0) hx hb dSh_addChoice_0 (by decide) ?_
  refine lv_istore_n (lv' := [(2, .int 0), (0, .ref (oa 1)), (1, .int (nI v))]) hx hb dSh_addChoice_1 rfl hl (by decide) rfl (fun ls hl => ?_)
  have loop2 : ∀ (N2 k2 : Nat), k2 ≤ nC → nC - k2 < N2 → ∀ (H : Heap) (locs : List Loc), va_P D cl (cW oa ca ck F (va_up G 1 (lf_Sh_addChoice_2 nC nD v (G 1) k2))) H → va_D A (cW oa ca ck F (va_up G 1 (lf_Sh_addChoice_2 nC nD v (G 1) k2))) → va_S A H0 H locs → ∀ (ls : Array Slot), lv_has ls 3 [(2, .int (nI k2)), (0, .ref (oa 1)), (1, .int (nI v))] → W p l e ({ frames := 0, cells := 0, slots := 0, locals := 0 } : Room) s m args below meth c H locs 0 0 Q (F0 m 2 ls []) := by
    intro N2
    induction N2 with
    | zero => intro k2 hk2 hm2; exact absurd hm2 (Nat.not_lt_zero _)
    | succ N2 ih2 =>
      intro k2 hk2 hm2  H locs hP hD hS ls hl
      refine lv_iload_n hx hb dSh_addChoice_2 rfl (lv_at hl 0 rfl) ?_
      refine lv_aload_n hx hb dSh_addChoice_3 rfl (lv_at hl 1 rfl) ?_
      refine va_get (D := D) (ci := 2) (v := .int (F 0)) (C := RSh) (T := TSh) (N := 4) hx hb hts inSh_ hown hK hP 1 rfl hcl.2.1 2 (by decide) f18 (fun _ h9 => h9) rfl dSh_addChoice_4 ?_
      refine wt_i k0 ?_
      refine lv_icmp_ge (tgt := 26) hx hb dSh_addChoice_7 (by decide) (fun c7 => ?_) (fun c7 => ?_)
      · have n7 : nC ≤ k2 := (nI_leI (a := nC) (b := k2) (by omega) (by omega)).mp c7
        have hx2 : nC = k2 := by omega
        subst hx2
        refine lv_aload_n hx hb dSh_addChoice_26 rfl (lv_at hl 1 rfl) ?_
        refine va_get (D := D) (ci := 2) (v := .ref (ca 0)) (C := RSh) (T := TSh) (N := 4) hx hb hts inSh_ hown hK hP 1 rfl hcl.2.1 0 (by decide) f9 (fun _ h9 => h9) rfl dSh_addChoice_27 ?_
        refine lv_aload_n hx hb dSh_addChoice_30 rfl (lv_at hl 1 rfl) ?_
        refine va_get (D := D) (ci := 2) (v := .int (F 0)) (C := RSh) (T := TSh) (N := 4) hx hb hts inSh_ hown hK hP 1 rfl hcl.2.1 2 (by decide) f18 (fun _ h9 => h9) rfl dSh_addChoice_31 ?_
        refine wt_i k0 ?_
        refine lv_iload_n hx hb dSh_addChoice_34 rfl (lv_at hl 2 rfl) ?_
        have sd35 : nC < 8 := by omega
        refine wn_iast (f := G 0) hx hb hK hP hD hS 8 0 rfl rfl nC rfl sd35 (by decide) dSh_addChoice_35 (fun H locs hP hD hS => ?_)
        rw [cW_g0, vup_sw (i := 1) (j := 0) (by decide)] at hP hD
        refine lv_aload_n hx hb dSh_addChoice_36 rfl (lv_at hl 1 rfl) ?_
        refine va_get (D := D) (ci := 2) (v := .ref (ca 1)) (C := RSh) (T := TSh) (N := 4) hx hb hts inSh_ hown hK hP 1 rfl hcl.2.1 1 (by decide) f15 (fun _ h9 => h9) rfl dSh_addChoice_37 ?_
        refine lv_aload_n hx hb dSh_addChoice_40 rfl (lv_at hl 1 rfl) ?_
        refine va_get (D := D) (ci := 2) (v := .int (F 0)) (C := RSh) (T := TSh) (N := 4) hx hb hts inSh_ hown hK hP 1 rfl hcl.2.1 2 (by decide) f18 (fun _ h9 => h9) rfl dSh_addChoice_41 ?_
        refine wt_i k0 ?_
        refine lv_iconst (v := 1) hx hb dSh_addChoice_44 (by decide) ?_
        have sd45 : nC < 8 := by omega
        have eg45 : (va_up (va_up G 0 (upd (G 0) nC (nI v))) 1 (lf_Sh_addChoice_2 nC nD v (G 1) nC)) 1 = lf_Sh_addChoice_2 nC nD v (G 1) nC := by rw [vup_us]
        refine wn_iast (f := lf_Sh_addChoice_2 nC nD v (G 1) nC) hx hb hK hP hD hS 9 1 (congrArg (fun z : Nat → Int32 => (some ((ca 1), (.inl ((ck 1), 8, .inl z) : va_E)) : Option (Nat × va_E))) eg45) rfl nC rfl sd45 (by decide) dSh_addChoice_45 (fun H locs hP hD hS => ?_)
        rw [cW_g1, vup_ow] at hP hD
        refine lv_aload_n hx hb dSh_addChoice_46 rfl (lv_at hl 1 rfl) ?_
        refine lv_dup hx hb dSh_addChoice_47 rfl ?_
        refine va_get (D := D) (ci := 2) (v := .int (F 0)) (C := RSh) (T := TSh) (N := 4) hx hb hts inSh_ hown hK hP 1 rfl hcl.2.1 2 (by decide) f18 (fun _ h9 => h9) rfl dSh_addChoice_48 ?_
        refine wt_i k0 ?_
        refine lv_iconst (v := 1) hx hb dSh_addChoice_51 (by decide) ?_
        refine lv_iadd hx hb dSh_addChoice_52 ?_
        refine wt_i (r := nI (nC + 1)) (by exact nI_add nC 1) ?_
        refine va_put (D := D) (ci := 2) (fs := cWl1 oa ca F) (v := .int (nI (nC + 1))) (ty := .int) (C := RSh) (T := TSh) (N := 4) hx hb hts inSh_ tySh tySh_ok nmSh hown hK hP hD hS 1 rfl hcl.2.1 2 (by decide) f18 (fun _ h9 => h9) rfl (by decide +kernel) rfl rfl (Nat.le_of_ble_eq_true rfl) dSh_addChoice_53 (fun H locs hP hD hS => ?_)
        rw [cW_f0] at hP hD
        refine lv_aload_n hx hb dSh_addChoice_56 rfl (lv_at hl 1 rfl) ?_
        refine lv_dup hx hb dSh_addChoice_57 rfl ?_
        refine va_get (D := D) (ci := 2) (v := .int (F 1)) (C := RSh) (T := TSh) (N := 4) hx hb hts inSh_ hown hK hP 1 rfl hcl.2.1 3 (by decide) f22 (fun _ h9 => h9) rfl dSh_addChoice_58 ?_
        refine wt_i k1 ?_
        refine lv_iload_n hx hb dSh_addChoice_61 rfl (lv_at hl 2 rfl) ?_
        refine lv_imul hx hb dSh_addChoice_62 ?_
        refine wt_i (r := nI (nD * v)) (by exact pk_mul nD v) ?_
        refine va_put (D := D) (ci := 2) (fs := cWl1 oa ca (upd F 0 (nI (nC + 1)))) (v := .int (nI (nD * v))) (ty := .int) (C := RSh) (T := TSh) (N := 4) hx hb hts inSh_ tySh tySh_ok nmSh hown hK hP hD hS 1 rfl hcl.2.1 3 (by decide) f22 (fun _ h9 => h9) rfl (by decide +kernel) rfl rfl (Nat.le_of_ble_eq_true rfl) dSh_addChoice_63 (fun H locs hP hD hS => ?_)
        rw [cW_f1] at hP hD
        have em : mr_Sh_addChoice (G 0) (G 1) nC nD v = (nI (nC + 1), nI (nD * v), upd (G 0) nC (nI v), upd (lf_Sh_addChoice_2 nC nD v (G 1) nC) nC 1) := by rw [mr_Sh_addChoice]
        exact hret _ _ _ _ _ (by simp only [em]) hP hD hS dSh_addChoice_66
      · have n7 : ¬ nC ≤ k2 := fun h9 => c7 ((nI_leI (a := nC) (b := k2) (by omega) (by omega)).mpr h9)
        refine lv_aload_n hx hb dSh_addChoice_10 rfl (lv_at hl 1 rfl) ?_
        refine va_get (D := D) (ci := 2) (v := .ref (ca 1)) (C := RSh) (T := TSh) (N := 4) hx hb hts inSh_ hown hK hP 1 rfl hcl.2.1 1 (by decide) f15 (fun _ h9 => h9) rfl dSh_addChoice_11 ?_
        refine lv_iload_n hx hb dSh_addChoice_14 rfl (lv_at hl 0 rfl) ?_
        refine lv_dup2_11 hx hb dSh_addChoice_15 rfl rfl ?_
        have sd16 : k2 < 8 := by omega
        have eg16 : (va_up G 1 (lf_Sh_addChoice_2 nC nD v (G 1) k2)) 1 = lf_Sh_addChoice_2 nC nD v (G 1) k2 := by rw [vup_us]
        refine wn_iald (f := lf_Sh_addChoice_2 nC nD v (G 1) k2) hx hb hK hP 9 1 (congrArg (fun z : Nat → Int32 => (some ((ca 1), (.inl ((ck 1), 8, .inl z) : va_E)) : Option (Nat × va_E))) eg16) rfl k2 rfl sd16 (by decide) dSh_addChoice_16 ?_
        refine lv_iload_n hx hb dSh_addChoice_17 rfl (lv_at hl 2 rfl) ?_
        refine lv_imul hx hb dSh_addChoice_18 ?_
        have sd19 : k2 < 8 := by omega
        have eg19 : (va_up G 1 (lf_Sh_addChoice_2 nC nD v (G 1) k2)) 1 = lf_Sh_addChoice_2 nC nD v (G 1) k2 := by rw [vup_us]
        refine wn_iast (f := lf_Sh_addChoice_2 nC nD v (G 1) k2) hx hb hK hP hD hS 9 1 (congrArg (fun z : Nat → Int32 => (some ((ca 1), (.inl ((ck 1), 8, .inl z) : va_E)) : Option (Nat × va_E))) eg19) rfl k2 rfl sd19 (by decide) dSh_addChoice_19 (fun H locs hP hD hS => ?_)
        rw [cW_g1, vup_ow] at hP hD
        refine lv_iinc (v := nI (k2 + 1)) (lv' := [(2, .int (nI (k2 + 1))), (0, .ref (oa 1)), (1, .int (nI v))]) hx hb dSh_addChoice_20 hl (k := 0) rfl (by exact ii_1 k2) (by decide) rfl (fun ls hl => ?_)
        refine lv_goto (tgt := 2) hx hb dSh_addChoice_23 (by decide) ?_
        have eb2 : lf_Sh_addChoice_2 nC nD v (G 1) (k2 + 1) = upd (lf_Sh_addChoice_2 nC nD v (G 1) k2) k2 (((lf_Sh_addChoice_2 nC nD v (G 1) k2) k2) * (nI v)) := by rw [lf_Sh_addChoice_2]
        exact ih2 (k2 + 1) (by omega) (by omega)  H locs (by rw [eb2]; exact hP) (by rw [eb2]; exact hD) hS ls (by exact lv_sub hl [0, 1, 2] rfl)
  exact loop2 _ 0 (Nat.zero_le _) (Nat.lt_succ_self _)  H locs hP hD hS ls (lv_sub hl [0, 1, 2] rfl)
def mr_Ma_put (g2 : Nat → Int32) (g3 : Nat → Int32) (g4 : Nat → Int32) (g5 : Nat → Int32) (sl : Nat) (a : Int32) (va : Int32) (b : Int32) (vb : Int32) : (Nat → Int32) × (Nat → Int32) × (Nat → Int32) × (Nat → Int32) := (upd g2 sl a, upd g3 sl va, upd g4 sl b, upd g5 sl vb)
set_option maxHeartbeats 4000000 in
set_option maxRecDepth 100000 in
theorem c_Ma_put (l : Launch) (D : va_G) (cl : List vw_C) (hcl : cOK cl) (oa ca : Nat → Nat) (ck : Nat → ClassId) (F : Nat → Int32) (G : Nat → Nat → Int32) {H0 : Heap} (hP : va_P D cl (cW oa ca ck F G) H0) (hD : va_D (fun _ => True) (cW oa ca ck F G)) (sl : Nat) (a : Int32) (va : Int32) (b : Int32) (vb : Int32) (hs : sl < 440) : ww_Met l yMa_put wsMa_put ({ frames := 0, cells := 0, slots := 0, locals := 0 } : Room) D cl (cT ck) H0 [.ref (oa 2), .int (nI sl), .int a, .int va, .int b, .int vb] (cW oa ca ck F G) none (cW oa ca ck F (va_up (va_up (va_up (va_up G 2 ((mr_Ma_put (G 2) (G 3) (G 4) (G 5) sl a va b vb).1)) 3 ((mr_Ma_put (G 2) (G 3) (G 4) (G 5) sl a va b vb).2.1)) 4 ((mr_Ma_put (G 2) (G 3) (G 4) (G 5) sl a va b vb).2.2.1)) 5 ((mr_Ma_put (G 2) (G 3) (G 4) (G 5) sl a va b vb).2.2.2))) := by
  refine ww_metV (by decide) rfl (Nat.le_of_ble_eq_true rfl) hP hD ?_
  intro p e s m args below meth c Q A Sx hK hP hD hS hA ls hl hret
  obtain ⟨hx, hb, hml, hown, hts⟩ := id Sx
  have hl : lv_has ls 6 [(0, .ref (oa 2)), (1, .int (nI sl)), (2, .int a), (3, .int va), (4, .int b), (5, .int vb)] := hl
  obtain ⟨H, eH⟩ : ∃ H : Heap, H = H0 := ⟨_, rfl⟩
  obtain ⟨locs, eL⟩ : ∃ L : List Loc, L = [] := ⟨_, rfl⟩
  have hP : va_P D cl (cW oa ca ck F G) H := by rw [eH]; exact hP
  have hS : va_S A H0 H locs := by rw [eH, eL]; exact hS
  rw [show W p l e ({ frames := 0, cells := 0, slots := 0, locals := 0 } : Room) s m args below meth c H0 [] 0 0 Q (F0 m 0 ls []) = W p l e ({ frames := 0, cells := 0, slots := 0, locals := 0 } : Room) s m args below meth c H locs 0 0 Q (F0 m 0 ls []) by rw [eH, eL]]
  clear eH eL
  have f9 := hts _ (List.mem_cons_of_mem _ mfMa_9)
  have inMa_ : ∀ w ∈ wsMa0, w ∈ wsMa_put := fun w h => List.mem_cons_of_mem _ (inMa_all w h)
  have f15 := hts _ (List.mem_cons_of_mem _ mfMa_15)
  have f18 := hts _ (List.mem_cons_of_mem _ mfMa_18)
  have f21 := hts _ (List.mem_cons_of_mem _ mfMa_21)
  refine lv_aload_n hx hb dMa_put_0 rfl (lv_at hl 0 rfl) ?_
  refine va_get (D := D) (ci := 3) (v := .ref (ca 2)) (C := RMa) (T := TMa) (N := 5) hx hb hts inMa_ hown hK hP 2 rfl hcl.2.2.1 1 (by decide) f9 (fun _ h9 => h9) rfl dMa_put_1 ?_
  refine lv_iload_n hx hb dMa_put_4 rfl (lv_at hl 1 rfl) ?_
  refine lv_iload_n hx hb dMa_put_5 rfl (lv_at hl 2 rfl) ?_
  have sd6 : sl < 440 := by omega
  refine wn_iast (f := G 2) hx hb hK hP hD hS 10 2 rfl rfl sl rfl sd6 (by decide) dMa_put_6 (fun H locs hP hD hS => ?_)
  rw [cW_g2] at hP hD
  refine lv_aload_n hx hb dMa_put_7 rfl (lv_at hl 0 rfl) ?_
  refine va_get (D := D) (ci := 3) (v := .ref (ca 3)) (C := RMa) (T := TMa) (N := 5) hx hb hts inMa_ hown hK hP 2 rfl hcl.2.2.1 2 (by decide) f15 (fun _ h9 => h9) rfl dMa_put_8 ?_
  refine lv_iload_n hx hb dMa_put_11 rfl (lv_at hl 1 rfl) ?_
  refine lv_iload_n hx hb dMa_put_12 rfl (lv_at hl 3 rfl) ?_
  have sd13 : sl < 440 := by omega
  refine wn_iast (f := G 3) hx hb hK hP hD hS 11 3 rfl rfl sl rfl sd13 (by decide) dMa_put_13 (fun H locs hP hD hS => ?_)
  rw [cW_g3] at hP hD
  refine lv_aload_n hx hb dMa_put_14 rfl (lv_at hl 0 rfl) ?_
  refine va_get (D := D) (ci := 3) (v := .ref (ca 4)) (C := RMa) (T := TMa) (N := 5) hx hb hts inMa_ hown hK hP 2 rfl hcl.2.2.1 3 (by decide) f18 (fun _ h9 => h9) rfl dMa_put_15 ?_
  refine lv_iload_n hx hb dMa_put_18 rfl (lv_at hl 1 rfl) ?_
  refine lv_iload hx hb dMa_put_19 (lv_at hl 4 rfl) ?_
  have sd21 : sl < 440 := by omega
  refine wn_iast (f := G 4) hx hb hK hP hD hS 12 4 rfl rfl sl rfl sd21 (by decide) dMa_put_21 (fun H locs hP hD hS => ?_)
  rw [cW_g4] at hP hD
  refine lv_aload_n hx hb dMa_put_22 rfl (lv_at hl 0 rfl) ?_
  refine va_get (D := D) (ci := 3) (v := .ref (ca 5)) (C := RMa) (T := TMa) (N := 5) hx hb hts inMa_ hown hK hP 2 rfl hcl.2.2.1 4 (by decide) f21 (fun _ h9 => h9) rfl dMa_put_23 ?_
  refine lv_iload_n hx hb dMa_put_26 rfl (lv_at hl 1 rfl) ?_
  refine lv_iload hx hb dMa_put_27 (lv_at hl 5 rfl) ?_
  have sd29 : sl < 440 := by omega
  refine wn_iast (f := G 5) hx hb hK hP hD hS 13 5 rfl rfl sl rfl sd29 (by decide) dMa_put_29 (fun H locs hP hD hS => ?_)
  rw [cW_g5] at hP hD
  have em : mr_Ma_put (G 2) (G 3) (G 4) (G 5) sl a va b vb = (upd (G 2) sl a, upd (G 3) sl va, upd (G 4) sl b, upd (G 5) sl vb) := by rw [mr_Ma_put]
  exact hret _ _ _ _ _ (by simp only [em]) hP hD hS dMa_put_30
def mr_Ma_fits (g0 : Nat → Int32) (g1 : Nat → Int32) (g2 : Nat → Int32) (g3 : Nat → Int32) (g4 : Nat → Int32) (g5 : Nat → Int32) (sl : Nat) (d : Int32) : Int32 := ((if (mr_Sh_digit g0 g1 d ((g2 sl).toNatClampNeg)) = (g3 sl) then (if (g4 sl) = (-1) then 1 else (if (mr_Sh_digit g0 g1 d ((g4 sl).toNatClampNeg)) = (g5 sl) then 1 else 0)) else 0) : Int32)
set_option maxHeartbeats 4000000 in
set_option maxRecDepth 100000 in
theorem c_Ma_fits (l : Launch) (D : va_G) (cl : List vw_C) (hcl : cOK cl) (oa ca : Nat → Nat) (ck : Nat → ClassId) (F : Nat → Int32) (G : Nat → Nat → Int32) {H : Heap} (hP : va_P D cl (cW oa ca ck F G) H) (sl : Nat) (d : Int32) (hs : sl < 440) (ma : ∃ x : Nat, x < 8 ∧ G 2 sl = nI x) (mb : G 4 sl = -1 ∨ ∃ x : Nat, x < 8 ∧ G 4 sl = nI x) : ro_Met l yMa_fits wsMa_fits ({ frames := 1, cells := 0, slots := 0, locals := 24 } : Room) D cl (cT ck) H [.ref (oa 2), .int (nI sl), .int d] (.int (mr_Ma_fits (G 0) (G 1) (G 2) (G 3) (G 4) (G 5) sl d)) := by
  refine ro_metZ (by unfold mr_Ma_fits; repeat' first | refine zb_i ?_ ?_ | exact zb_0 | exact zb_1) (by decide) rfl (Nat.le_of_ble_eq_true rfl) ?_
  intro p e s m args below meth c Q Sx hK ls hl hret
  obtain ⟨hx, hb, hml, hown, hts⟩ := id Sx
  have hl : lv_has ls 3 [(0, .ref (oa 2)), (1, .int (nI sl)), (2, .int d)] := hl
  have f24 := hts _ (List.mem_cons_of_mem _ mfMa_24)
  have inMa_ : ∀ w ∈ wsMa0, w ∈ wsMa_fits := fun w h => List.mem_cons_of_mem _ (inMa_all w h)
  have f9 := hts _ (List.mem_cons_of_mem _ mfMa_9)
  have f15 := hts _ (List.mem_cons_of_mem _ mfMa_15)
  have f18 := hts _ (List.mem_cons_of_mem _ mfMa_18)
  have f21 := hts _ (List.mem_cons_of_mem _ mfMa_21)
  have xa := ix_cl ma (by omega)
  refine lv_aload_n hx hb dMa_fits_0 rfl (lv_at hl 0 rfl) ?_
  refine va_get (D := D) (ci := 3) (v := .ref (oa 1)) (C := RMa) (T := TMa) (N := 5) hx hb hts inMa_ hown hK hP 2 rfl hcl.2.2.1 0 (by decide) f24 (fun _ h9 => h9) rfl dMa_fits_1 ?_
  refine lv_iload_n hx hb dMa_fits_4 rfl (lv_at hl 2 rfl) ?_
  refine lv_aload_n hx hb dMa_fits_5 rfl (lv_at hl 0 rfl) ?_
  refine va_get (D := D) (ci := 3) (v := .ref (ca 2)) (C := RMa) (T := TMa) (N := 5) hx hb hts inMa_ hown hK hP 2 rfl hcl.2.2.1 1 (by decide) f9 (fun _ h9 => h9) rfl dMa_fits_6 ?_
  refine lv_iload_n hx hb dMa_fits_9 rfl (lv_at hl 1 rfl) ?_
  have sd10 : sl < 440 := by omega
  refine wn_iald (f := G 2) hx hb hK hP 10 2 rfl rfl sl rfl sd10 (by decide) dMa_fits_10 ?_
  refine wt_i (r := nI (G 2 sl).toNatClampNeg) (by exact xa.1) ?_
  refine ro_callV (r := (.int (mr_Sh_digit (G 0) (G 1) d ((G 2 sl).toNatClampNeg)))) (As := [.int d, .int (nI (G 2 sl).toNatClampNeg)]) (rest := []) Sx (c_Sh_digit l D cl hcl oa ca ck F G hP d ((G 2 sl).toNatClampNeg) xa.2) (cwV 2 hts gMa_fits_Sh_digit rfl rfl rfl (by decide +kernel) ⟨Nat.le_of_ble_eq_true rfl, Nat.le_of_ble_eq_true rfl⟩) hK (va_recv hK hP (ci := 2) (q0 := 1) hcl.2.1 rfl) rfl hl.1 rfl (Nat.le_of_ble_eq_true rfl) dMa_fits_11 ⟨Nat.zero_le _, Nat.zero_le _⟩ ?_
  refine lv_aload_n hx hb dMa_fits_14 rfl (lv_at hl 0 rfl) ?_
  refine va_get (D := D) (ci := 3) (v := .ref (ca 3)) (C := RMa) (T := TMa) (N := 5) hx hb hts inMa_ hown hK hP 2 rfl hcl.2.2.1 2 (by decide) f15 (fun _ h9 => h9) rfl dMa_fits_15 ?_
  refine lv_iload_n hx hb dMa_fits_18 rfl (lv_at hl 1 rfl) ?_
  have sd19 : sl < 440 := by omega
  refine wn_iald (f := G 3) hx hb hK hP 11 3 rfl rfl sl rfl sd19 (by decide) dMa_fits_19 ?_
  have j61 : ∀ (ls : Array Slot), lv_has ls 3 [(0, .ref (oa 2)), (1, .int (nI sl)), (2, .int d)] → W p l e ({ frames := 1, cells := 0, slots := 0, locals := 24 } : Room) s m args below meth c H [] 0 0 Q (F0 m 61 ls [.int ((if (mr_Sh_digit (G 0) (G 1) d ((G 2 sl).toNatClampNeg)) = (G 3 sl) then (if (G 4 sl) = (-1) then 1 else (if (mr_Sh_digit (G 0) (G 1) d ((G 4 sl).toNatClampNeg)) = (G 5 sl) then 1 else 0)) else 0) : Int32)]) := by
    intro ls hl
    exact hret _ _ _ (by rw [mr_Ma_fits]) dMa_fits_61
  refine lv_icmp_ne (tgt := 60) hx hb dMa_fits_20 (by decide) (fun c20 => ?_) (fun c20 => ?_)
  · refine lv_iconst (v := 0) hx hb dMa_fits_60 (by decide) ?_
    exact wt_i (by rw [if_neg c20]) (j61 ls hl)
  · refine lv_aload_n hx hb dMa_fits_23 rfl (lv_at hl 0 rfl) ?_
    refine va_get (D := D) (ci := 3) (v := .ref (ca 4)) (C := RMa) (T := TMa) (N := 5) hx hb hts inMa_ hown hK hP 2 rfl hcl.2.2.1 3 (by decide) f18 (fun _ h9 => h9) rfl dMa_fits_24 ?_
    refine lv_iload_n hx hb dMa_fits_27 rfl (lv_at hl 1 rfl) ?_
    have sd28 : sl < 440 := by omega
    refine wn_iald (f := G 4) hx hb hK hP 12 4 rfl rfl sl rfl sd28 (by decide) dMa_fits_28 ?_
    refine lv_iconst (v := (-1)) hx hb dMa_fits_29 (by decide) ?_
    refine lv_icmp_eq (tgt := 56) hx hb dMa_fits_30 (by decide) (fun c30 => ?_) (fun c30 => ?_)
    · refine lv_iconst (v := 1) hx hb dMa_fits_56 (by decide) ?_
      refine lv_goto (tgt := 61) hx hb dMa_fits_57 (by decide) ?_
      exact wt_i (by rw [if_pos c20, if_pos c30]) (j61 ls hl)
    · have xb := ix_cl (ix_ne mb c30) (by omega)
      refine lv_aload_n hx hb dMa_fits_33 rfl (lv_at hl 0 rfl) ?_
      refine va_get (D := D) (ci := 3) (v := .ref (oa 1)) (C := RMa) (T := TMa) (N := 5) hx hb hts inMa_ hown hK hP 2 rfl hcl.2.2.1 0 (by decide) f24 (fun _ h9 => h9) rfl dMa_fits_34 ?_
      refine lv_iload_n hx hb dMa_fits_37 rfl (lv_at hl 2 rfl) ?_
      refine lv_aload_n hx hb dMa_fits_38 rfl (lv_at hl 0 rfl) ?_
      refine va_get (D := D) (ci := 3) (v := .ref (ca 4)) (C := RMa) (T := TMa) (N := 5) hx hb hts inMa_ hown hK hP 2 rfl hcl.2.2.1 3 (by decide) f18 (fun _ h9 => h9) rfl dMa_fits_39 ?_
      refine lv_iload_n hx hb dMa_fits_42 rfl (lv_at hl 1 rfl) ?_
      have sd43 : sl < 440 := by omega
      refine wn_iald (f := G 4) hx hb hK hP 12 4 rfl rfl sl rfl sd43 (by decide) dMa_fits_43 ?_
      refine wt_i (r := nI (G 4 sl).toNatClampNeg) (by exact xb.1) ?_
      refine ro_callV (r := (.int (mr_Sh_digit (G 0) (G 1) d ((G 4 sl).toNatClampNeg)))) (As := [.int d, .int (nI (G 4 sl).toNatClampNeg)]) (rest := []) Sx (c_Sh_digit l D cl hcl oa ca ck F G hP d ((G 4 sl).toNatClampNeg) xb.2) (cwV 2 hts gMa_fits_Sh_digit rfl rfl rfl (by decide +kernel) ⟨Nat.le_of_ble_eq_true rfl, Nat.le_of_ble_eq_true rfl⟩) hK (va_recv hK hP (ci := 2) (q0 := 1) hcl.2.1 rfl) rfl hl.1 rfl (Nat.le_of_ble_eq_true rfl) dMa_fits_44 ⟨Nat.zero_le _, Nat.zero_le _⟩ ?_
      refine lv_aload_n hx hb dMa_fits_47 rfl (lv_at hl 0 rfl) ?_
      refine va_get (D := D) (ci := 3) (v := .ref (ca 5)) (C := RMa) (T := TMa) (N := 5) hx hb hts inMa_ hown hK hP 2 rfl hcl.2.2.1 4 (by decide) f21 (fun _ h9 => h9) rfl dMa_fits_48 ?_
      refine lv_iload_n hx hb dMa_fits_51 rfl (lv_at hl 1 rfl) ?_
      have sd52 : sl < 440 := by omega
      refine wn_iald (f := G 5) hx hb hK hP 13 5 rfl rfl sl rfl sd52 (by decide) dMa_fits_52 ?_
      refine lv_icmp_ne (tgt := 60) hx hb dMa_fits_53 (by decide) (fun c53 => ?_) (fun c53 => ?_)
      · refine lv_iconst (v := 0) hx hb dMa_fits_60 (by decide) ?_
        exact wt_i (by rw [if_pos c20, if_neg c30, if_neg c53]) (j61 ls hl)
      · refine lv_iconst (v := 1) hx hb dMa_fits_56 (by decide) ?_
        refine lv_goto (tgt := 61) hx hb dMa_fits_57 (by decide) ?_
        exact wt_i (by rw [if_pos c20, if_neg c30, if_pos c53]) (j61 ls hl)
def mr_Ma_isOpen (g2 : Nat → Int32) (g3 : Nat → Int32) (g4 : Nat → Int32) (g5 : Nat → Int32) (g14 : Nat → Int32) (sl : Nat) (st : Nat) : Int32 := ((if (nI st) ≤ (g2 sl) then (if (g4 sl) = (-1) then 1 else (if (nI st) ≤ (g4 sl) then 1 else (if (g14 ((g4 sl).toNatClampNeg)) = (g5 sl) then 1 else 0))) else (if (g14 ((g2 sl).toNatClampNeg)) = (g3 sl) then (if (g4 sl) = (-1) then 1 else (if (nI st) ≤ (g4 sl) then 1 else (if (g14 ((g4 sl).toNatClampNeg)) = (g5 sl) then 1 else 0))) else 0)) : Int32)
set_option maxHeartbeats 4000000 in
set_option maxRecDepth 100000 in
theorem c_Ma_isOpen (l : Launch) (D : va_G) (cl : List vw_C) (hcl : cOK cl) (oa ca : Nat → Nat) (ck : Nat → ClassId) (F : Nat → Int32) (G : Nat → Nat → Int32) {H : Heap} (hP : va_P D cl (cW oa ca ck F G) H) (sl : Nat) (st : Nat) (hs : sl < 440) (ma : ∃ x : Nat, x < 8 ∧ G 2 sl = nI x) (mb : G 4 sl = -1 ∨ ∃ x : Nat, x < 8 ∧ G 4 sl = nI x) : ro_Met l yMa_isOpen wsMa_isOpen ({ frames := 0, cells := 0, slots := 0, locals := 0 } : Room) D cl (cT ck) H [.ref (oa 2), .int (nI sl), .ref (ca 14), .int (nI st)] (.int (mr_Ma_isOpen (G 2) (G 3) (G 4) (G 5) (G 14) sl st)) := by
  refine ro_metZ (by unfold mr_Ma_isOpen; repeat' first | refine zb_i ?_ ?_ | exact zb_0 | exact zb_1) (by decide) rfl (Nat.le_of_ble_eq_true rfl) ?_
  intro p e s m args below meth c Q Sx hK ls hl hret
  obtain ⟨hx, hb, hml, hown, hts⟩ := id Sx
  have hl : lv_has ls 6 [(0, .ref (oa 2)), (1, .int (nI sl)), (2, .ref (ca 14)), (3, .int (nI st))] := hl
  have f9 := hts _ (List.mem_cons_of_mem _ mfMa_9)
  have inMa_ : ∀ w ∈ wsMa0, w ∈ wsMa_isOpen := fun w h => List.mem_cons_of_mem _ (inMa_all w h)
  have f18 := hts _ (List.mem_cons_of_mem _ mfMa_18)
  have f21 := hts _ (List.mem_cons_of_mem _ mfMa_21)
  have f15 := hts _ (List.mem_cons_of_mem _ mfMa_15)
  have xa := ix_cl ma (by omega)
  refine lv_aload_n hx hb dMa_isOpen_0 rfl (lv_at hl 0 rfl) ?_
  refine va_get (D := D) (ci := 3) (v := .ref (ca 2)) (C := RMa) (T := TMa) (N := 5) hx hb hts inMa_ hown hK hP 2 rfl hcl.2.2.1 1 (by decide) f9 (fun _ h9 => h9) rfl dMa_isOpen_1 ?_
  refine lv_iload_n hx hb dMa_isOpen_4 rfl (lv_at hl 1 rfl) ?_
  have sd5 : sl < 440 := by omega
  refine wn_iald (f := G 2) hx hb hK hP 10 2 rfl rfl sl rfl sd5 (by decide) dMa_isOpen_5 ?_
  refine lv_istore (lv' := [(4, .int (G 2 sl)), (0, .ref (oa 2)), (1, .int (nI sl)), (2, .ref (ca 14)), (3, .int (nI st))]) hx hb dMa_isOpen_6 hl (by decide) rfl (fun ls hl => ?_)
  refine lv_aload_n hx hb dMa_isOpen_8 rfl (lv_at hl 1 rfl) ?_
  refine va_get (D := D) (ci := 3) (v := .ref (ca 4)) (C := RMa) (T := TMa) (N := 5) hx hb hts inMa_ hown hK hP 2 rfl hcl.2.2.1 3 (by decide) f18 (fun _ h9 => h9) rfl dMa_isOpen_9 ?_
  refine lv_iload_n hx hb dMa_isOpen_12 rfl (lv_at hl 2 rfl) ?_
  have sd13 : sl < 440 := by omega
  refine wn_iald (f := G 4) hx hb hK hP 12 4 rfl rfl sl rfl sd13 (by decide) dMa_isOpen_13 ?_
  refine lv_istore (lv' := [(5, .int (G 4 sl)), (4, .int (G 2 sl)), (0, .ref (oa 2)), (1, .int (nI sl)), (2, .ref (ca 14)), (3, .int (nI st))]) hx hb dMa_isOpen_14 hl (by decide) rfl (fun ls hl => ?_)
  refine lv_iload hx hb dMa_isOpen_16 (lv_at hl 1 rfl) ?_
  refine lv_iload_n hx hb dMa_isOpen_18 rfl (lv_at hl 5 rfl) ?_
  have j65 : ∀ (ls : Array Slot), lv_has ls 6 [(5, .int (G 4 sl)), (4, .int (G 2 sl)), (0, .ref (oa 2)), (1, .int (nI sl)), (2, .ref (ca 14)), (3, .int (nI st))] → W p l e ({ frames := 0, cells := 0, slots := 0, locals := 0 } : Room) s m args below meth c H [] 0 0 Q (F0 m 65 ls [.int ((if (nI st) ≤ (G 2 sl) then (if (G 4 sl) = (-1) then 1 else (if (nI st) ≤ (G 4 sl) then 1 else (if (G 14 ((G 4 sl).toNatClampNeg)) = (G 5 sl) then 1 else 0))) else (if (G 14 ((G 2 sl).toNatClampNeg)) = (G 3 sl) then (if (G 4 sl) = (-1) then 1 else (if (nI st) ≤ (G 4 sl) then 1 else (if (G 14 ((G 4 sl).toNatClampNeg)) = (G 5 sl) then 1 else 0))) else 0)) : Int32)]) := by
    intro ls hl
    exact hret _ _ _ (by rw [mr_Ma_isOpen]) dMa_isOpen_65
  refine lv_icmp_ge (tgt := 35) hx hb dMa_isOpen_19 (by decide) (fun c19 => ?_) (fun c19 => ?_)
  · refine lv_iload hx hb dMa_isOpen_35 (lv_at hl 0 rfl) ?_
    refine lv_iconst (v := (-1)) hx hb dMa_isOpen_37 (by decide) ?_
    refine lv_icmp_eq (tgt := 60) hx hb dMa_isOpen_38 (by decide) (fun c38 => ?_) (fun c38 => ?_)
    · refine lv_iconst (v := 1) hx hb dMa_isOpen_60 (by decide) ?_
      refine lv_goto (tgt := 65) hx hb dMa_isOpen_61 (by decide) ?_
      exact wt_i (by rw [if_pos c19, if_pos c38]) (j65 ls hl)
    · have xb := ix_cl (ix_ne mb c38) (by omega)
      refine lv_iload hx hb dMa_isOpen_41 (lv_at hl 0 rfl) ?_
      refine lv_iload_n hx hb dMa_isOpen_43 rfl (lv_at hl 5 rfl) ?_
      refine lv_icmp_ge (tgt := 60) hx hb dMa_isOpen_44 (by decide) (fun c44 => ?_) (fun c44 => ?_)
      · refine lv_iconst (v := 1) hx hb dMa_isOpen_60 (by decide) ?_
        refine lv_goto (tgt := 65) hx hb dMa_isOpen_61 (by decide) ?_
        exact wt_i (by rw [if_pos c19, if_neg c38, if_pos c44]) (j65 ls hl)
      · refine lv_aload_n hx hb dMa_isOpen_47 rfl (lv_at hl 4 rfl) ?_
        refine lv_iload hx hb dMa_isOpen_48 (lv_at hl 0 rfl) ?_
        have sd50 : (G 4 sl).toNatClampNeg < 8 := by exact xb.2
        refine wn_iald (f := G 14) hx hb hK hP 22 14 rfl rfl ((G 4 sl).toNatClampNeg) xb.1 sd50 (by decide) dMa_isOpen_50 ?_
        refine lv_aload_n hx hb dMa_isOpen_51 rfl (lv_at hl 2 rfl) ?_
        refine va_get (D := D) (ci := 3) (v := .ref (ca 5)) (C := RMa) (T := TMa) (N := 5) hx hb hts inMa_ hown hK hP 2 rfl hcl.2.2.1 4 (by decide) f21 (fun _ h9 => h9) rfl dMa_isOpen_52 ?_
        refine lv_iload_n hx hb dMa_isOpen_55 rfl (lv_at hl 3 rfl) ?_
        have sd56 : sl < 440 := by omega
        refine wn_iald (f := G 5) hx hb hK hP 13 5 rfl rfl sl rfl sd56 (by decide) dMa_isOpen_56 ?_
        refine lv_icmp_ne (tgt := 64) hx hb dMa_isOpen_57 (by decide) (fun c57 => ?_) (fun c57 => ?_)
        · refine lv_iconst (v := 0) hx hb dMa_isOpen_64 (by decide) ?_
          exact wt_i (by rw [if_pos c19, if_neg c38, if_neg c44, if_neg c57]) (j65 ls hl)
        · refine lv_iconst (v := 1) hx hb dMa_isOpen_60 (by decide) ?_
          refine lv_goto (tgt := 65) hx hb dMa_isOpen_61 (by decide) ?_
          exact wt_i (by rw [if_pos c19, if_neg c38, if_neg c44, if_pos c57]) (j65 ls hl)
  · refine lv_aload_n hx hb dMa_isOpen_22 rfl (lv_at hl 4 rfl) ?_
    refine lv_iload hx hb dMa_isOpen_23 (lv_at hl 1 rfl) ?_
    have sd25 : (G 2 sl).toNatClampNeg < 8 := by exact xa.2
    refine wn_iald (f := G 14) hx hb hK hP 22 14 rfl rfl ((G 2 sl).toNatClampNeg) xa.1 sd25 (by decide) dMa_isOpen_25 ?_
    refine lv_aload_n hx hb dMa_isOpen_26 rfl (lv_at hl 2 rfl) ?_
    refine va_get (D := D) (ci := 3) (v := .ref (ca 3)) (C := RMa) (T := TMa) (N := 5) hx hb hts inMa_ hown hK hP 2 rfl hcl.2.2.1 2 (by decide) f15 (fun _ h9 => h9) rfl dMa_isOpen_27 ?_
    refine lv_iload_n hx hb dMa_isOpen_30 rfl (lv_at hl 3 rfl) ?_
    have sd31 : sl < 440 := by omega
    refine wn_iald (f := G 3) hx hb hK hP 11 3 rfl rfl sl rfl sd31 (by decide) dMa_isOpen_31 ?_
    refine lv_icmp_ne (tgt := 64) hx hb dMa_isOpen_32 (by decide) (fun c32 => ?_) (fun c32 => ?_)
    · refine lv_iconst (v := 0) hx hb dMa_isOpen_64 (by decide) ?_
      exact wt_i (by rw [if_neg c19, if_neg c32]) (j65 ls hl)
    · refine lv_iload hx hb dMa_isOpen_35 (lv_at hl 0 rfl) ?_
      refine lv_iconst (v := (-1)) hx hb dMa_isOpen_37 (by decide) ?_
      refine lv_icmp_eq (tgt := 60) hx hb dMa_isOpen_38 (by decide) (fun c38 => ?_) (fun c38 => ?_)
      · refine lv_iconst (v := 1) hx hb dMa_isOpen_60 (by decide) ?_
        refine lv_goto (tgt := 65) hx hb dMa_isOpen_61 (by decide) ?_
        exact wt_i (by rw [if_neg c19, if_pos c32, if_pos c38]) (j65 ls hl)
      · have xb := ix_cl (ix_ne mb c38) (by omega)
        refine lv_iload hx hb dMa_isOpen_41 (lv_at hl 0 rfl) ?_
        refine lv_iload_n hx hb dMa_isOpen_43 rfl (lv_at hl 5 rfl) ?_
        refine lv_icmp_ge (tgt := 60) hx hb dMa_isOpen_44 (by decide) (fun c44 => ?_) (fun c44 => ?_)
        · refine lv_iconst (v := 1) hx hb dMa_isOpen_60 (by decide) ?_
          refine lv_goto (tgt := 65) hx hb dMa_isOpen_61 (by decide) ?_
          exact wt_i (by rw [if_neg c19, if_pos c32, if_neg c38, if_pos c44]) (j65 ls hl)
        · refine lv_aload_n hx hb dMa_isOpen_47 rfl (lv_at hl 4 rfl) ?_
          refine lv_iload hx hb dMa_isOpen_48 (lv_at hl 0 rfl) ?_
          have sd50 : (G 4 sl).toNatClampNeg < 8 := by exact xb.2
          refine wn_iald (f := G 14) hx hb hK hP 22 14 rfl rfl ((G 4 sl).toNatClampNeg) xb.1 sd50 (by decide) dMa_isOpen_50 ?_
          refine lv_aload_n hx hb dMa_isOpen_51 rfl (lv_at hl 2 rfl) ?_
          refine va_get (D := D) (ci := 3) (v := .ref (ca 5)) (C := RMa) (T := TMa) (N := 5) hx hb hts inMa_ hown hK hP 2 rfl hcl.2.2.1 4 (by decide) f21 (fun _ h9 => h9) rfl dMa_isOpen_52 ?_
          refine lv_iload_n hx hb dMa_isOpen_55 rfl (lv_at hl 3 rfl) ?_
          have sd56 : sl < 440 := by omega
          refine wn_iald (f := G 5) hx hb hK hP 13 5 rfl rfl sl rfl sd56 (by decide) dMa_isOpen_56 ?_
          refine lv_icmp_ne (tgt := 64) hx hb dMa_isOpen_57 (by decide) (fun c57 => ?_) (fun c57 => ?_)
          · refine lv_iconst (v := 0) hx hb dMa_isOpen_64 (by decide) ?_
            exact wt_i (by rw [if_neg c19, if_pos c32, if_neg c38, if_neg c44, if_neg c57]) (j65 ls hl)
          · refine lv_iconst (v := 1) hx hb dMa_isOpen_60 (by decide) ?_
            refine lv_goto (tgt := 65) hx hb dMa_isOpen_61 (by decide) ?_
            exact wt_i (by rw [if_neg c19, if_pos c32, if_neg c38, if_neg c44, if_pos c57]) (j65 ls hl)
def mr_Ma_isSettled (g2 : Nat → Int32) (g4 : Nat → Int32) (sl : Nat) (st : Nat) : Int32 := ((if (nI st) ≤ (g2 sl) then 0 else (if (nI st) ≤ (g4 sl) then 0 else 1)) : Int32)
set_option maxHeartbeats 4000000 in
set_option maxRecDepth 100000 in
theorem c_Ma_isSettled (l : Launch) (D : va_G) (cl : List vw_C) (hcl : cOK cl) (oa ca : Nat → Nat) (ck : Nat → ClassId) (F : Nat → Int32) (G : Nat → Nat → Int32) {H : Heap} (hP : va_P D cl (cW oa ca ck F G) H) (sl : Nat) (st : Nat) (hs : sl < 440) : ro_Met l yMa_isSettled wsMa_isSettled ({ frames := 0, cells := 0, slots := 0, locals := 0 } : Room) D cl (cT ck) H [.ref (oa 2), .int (nI sl), .int (nI st)] (.int (mr_Ma_isSettled (G 2) (G 4) sl st)) := by
  refine ro_metZ (by unfold mr_Ma_isSettled; repeat' first | refine zb_i ?_ ?_ | exact zb_0 | exact zb_1) (by decide) rfl (Nat.le_of_ble_eq_true rfl) ?_
  intro p e s m args below meth c Q Sx hK ls hl hret
  obtain ⟨hx, hb, hml, hown, hts⟩ := id Sx
  have hl : lv_has ls 3 [(0, .ref (oa 2)), (1, .int (nI sl)), (2, .int (nI st))] := hl
  have f9 := hts _ (List.mem_cons_of_mem _ mfMa_9)
  have inMa_ : ∀ w ∈ wsMa0, w ∈ wsMa_isSettled := fun w h => List.mem_cons_of_mem _ (inMa_all w h)
  have f18 := hts _ (List.mem_cons_of_mem _ mfMa_18)
  refine lv_aload_n hx hb dMa_isSettled_0 rfl (lv_at hl 0 rfl) ?_
  refine va_get (D := D) (ci := 3) (v := .ref (ca 2)) (C := RMa) (T := TMa) (N := 5) hx hb hts inMa_ hown hK hP 2 rfl hcl.2.2.1 1 (by decide) f9 (fun _ h9 => h9) rfl dMa_isSettled_1 ?_
  refine lv_iload_n hx hb dMa_isSettled_4 rfl (lv_at hl 1 rfl) ?_
  have sd5 : sl < 440 := by omega
  refine wn_iald (f := G 2) hx hb hK hP 10 2 rfl rfl sl rfl sd5 (by decide) dMa_isSettled_5 ?_
  refine lv_iload_n hx hb dMa_isSettled_6 rfl (lv_at hl 2 rfl) ?_
  have j25 : ∀ (ls : Array Slot), lv_has ls 3 [(0, .ref (oa 2)), (1, .int (nI sl)), (2, .int (nI st))] → W p l e ({ frames := 0, cells := 0, slots := 0, locals := 0 } : Room) s m args below meth c H [] 0 0 Q (F0 m 25 ls [.int ((if (nI st) ≤ (G 2 sl) then 0 else (if (nI st) ≤ (G 4 sl) then 0 else 1)) : Int32)]) := by
    intro ls hl
    exact hret _ _ _ (by rw [mr_Ma_isSettled]) dMa_isSettled_25
  refine lv_icmp_ge (tgt := 24) hx hb dMa_isSettled_7 (by decide) (fun c7 => ?_) (fun c7 => ?_)
  · refine lv_iconst (v := 0) hx hb dMa_isSettled_24 (by decide) ?_
    exact wt_i (by rw [if_pos c7]) (j25 ls hl)
  · refine lv_aload_n hx hb dMa_isSettled_10 rfl (lv_at hl 0 rfl) ?_
    refine va_get (D := D) (ci := 3) (v := .ref (ca 4)) (C := RMa) (T := TMa) (N := 5) hx hb hts inMa_ hown hK hP 2 rfl hcl.2.2.1 3 (by decide) f18 (fun _ h9 => h9) rfl dMa_isSettled_11 ?_
    refine lv_iload_n hx hb dMa_isSettled_14 rfl (lv_at hl 1 rfl) ?_
    have sd15 : sl < 440 := by omega
    refine wn_iald (f := G 4) hx hb hK hP 12 4 rfl rfl sl rfl sd15 (by decide) dMa_isSettled_15 ?_
    refine lv_iload_n hx hb dMa_isSettled_16 rfl (lv_at hl 2 rfl) ?_
    refine lv_icmp_ge (tgt := 24) hx hb dMa_isSettled_17 (by decide) (fun c17 => ?_) (fun c17 => ?_)
    · refine lv_iconst (v := 0) hx hb dMa_isSettled_24 (by decide) ?_
      exact wt_i (by rw [if_neg c7, if_pos c17]) (j25 ls hl)
    · refine lv_iconst (v := 1) hx hb dMa_isSettled_20 (by decide) ?_
      refine lv_goto (tgt := 25) hx hb dMa_isSettled_21 (by decide) ?_
      exact wt_i (by rw [if_neg c7, if_neg c17]) (j25 ls hl)
