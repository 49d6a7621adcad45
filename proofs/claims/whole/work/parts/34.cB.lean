theorem sp_lt {n v k j M : Nat} (hk : k < n) (hj : j < v) (h : n * v ≤ M) : k * v + j < M := by
  have h1 : (k + 1) * v ≤ n * v := Nat.mul_le_mul_right v hk
  rw [Nat.add_mul, Nat.one_mul] at h1
  omega
theorem z01_upd {f : Nat → Int32} {k : Nat} {x : Int32} (h : ∀ j, f j = 0 ∨ f j = 1) (hx : x = 0 ∨ x = 1) : ∀ j, upd f k x j = 0 ∨ upd f k x j = 1 := by
  intro j
  by_cases e : j = k
  · rw [e, pk_us]; exact hx
  · rw [pk_un e]; exact h j
theorem dig_sem {g0 g1 : Nat → Int32} {nC nD k ch : Nat} (s0 : ∀ c, c < nC → ∃ z : Nat, g0 c = nI z ∧ 2 ≤ z ∧ z ≤ 6) (s1 : ∀ c, c < nC → g1 c = nI (pc_ (zg g0) nC c)) (hmp : mp (zg g0) 0 nC = nD) (hN : nD ≤ 4096) (hch : ch < nC) (hk : k < 2 ^ 31) : mr_Sh_digit g0 g1 (nI k) ch = nI (dg (zg g0) nC k ch) := by
  obtain ⟨z1, z2, z3⟩ := zg_ok s0 hch
  obtain ⟨p1, p2⟩ := un_ok s0 hch hmp
  have p3 : pc_ (zg g0) nC ch * 1 ≤ pc_ (zg g0) nC ch * zg g0 ch := Nat.mul_le_mul_left _ (by omega)
  have h1 : ¬ nI (pc_ (zg g0) nC ch) ≤ 0 := fun h => absurd ((nI_leI (a := pc_ (zg g0) nC ch) (b := 0) (by omega) (by omega)).mp h) (by omega)
  have h2 : ¬ nI (zg g0 ch) ≤ 0 := fun h => absurd ((nI_leI (a := zg g0 ch) (b := 0) (by omega) (by omega)).mp h) (by omega)
  unfold mr_Sh_digit dg
  rw [s1 ch hch, z1, if_neg h1, if_neg h2, pk_div hk p1 (by omega), pk_rem (Nat.lt_of_le_of_lt (Nat.div_le_self _ _) hk) (by omega) (by omega)]
theorem mp_split {z : Nat → Nat} {n c : Nat} (hc : c < n) : mp z 0 n = mp z 0 c * (z c * pc_ z n c) := by
  have h := mp_add z 0 c (n - c)
  rw [show c + (n - c) = n by omega, Nat.zero_add, show n - c = (n - (c + 1)) + 1 by omega, mp_first] at h
  exact h
theorem dg_0 {z : Nat → Nat} {n c k v : Nat} (hc : c < n) (hp : 0 < pc_ z n c) (hk : k < mp z 0 n) (h0 : dg z n k c = 0) (hv : v < z c) : k + v * pc_ z n c < mp z 0 n := by
  have hM := mp_split (z := z) hc
  unfold dg at h0
  generalize pc_ z n c = P at hp h0 hM ⊢
  generalize mp z 0 c = M at hM
  rw [hM] at hk ⊢
  have hz : 0 < P * z c := Nat.mul_pos hp (by omega)
  have hq : k / P / z c < M := by
    rw [Nat.div_div_eq_div_mul]
    exact (Nat.div_lt_iff_lt_mul hz).mpr (by rw [Nat.mul_comm P]; exact hk)
  have e1 := Nat.div_add_mod (k / P) (z c)
  have e2 := Nat.div_add_mod k P
  have e3 := Nat.mod_lt k hp
  rw [h0, Nat.add_zero] at e1
  generalize k / P / z c = q at hq e1
  have h4 : k / P + 1 + v ≤ z c * (q + 1) := by rw [Nat.mul_add, Nat.mul_one]; omega
  have h5 : P * (k / P + 1 + v) ≤ P * (z c * (q + 1)) := Nat.mul_le_mul_left _ h4
  have h6 : P * (z c * (q + 1)) ≤ P * (z c * M) := Nat.mul_le_mul_left _ (Nat.mul_le_mul_left _ hq)
  have h7 : P * (z c * M) = M * (z c * P) := by rw [Nat.mul_left_comm, Nat.mul_comm P M, Nat.mul_left_comm]
  have h8 : P * (k / P + 1 + v) = P * (k / P) + P + v * P := by rw [Nat.mul_add, Nat.mul_add, Nat.mul_one, Nat.mul_comm P v]
  omega
theorem gd_ok {g0 g1 : Nat → Int32} {nC nD k ch : Nat} (s0 : ∀ c, c < nC → ∃ z : Nat, g0 c = nI z ∧ 2 ≤ z ∧ z ≤ 6) (s1 : ∀ c, c < nC → g1 c = nI (pc_ (zg g0) nC c)) (hmp : mp (zg g0) 0 nC = nD) (hN : nD ≤ 4096) (hch : ch < nC) (hk : k < nD) (h : mr_Sh_digit g0 g1 (nI k) ch = 0) : ∀ v, v < zg g0 ch → k + v * pc_ (zg g0) nC ch < 4096 := by
  intro v hv
  rw [dig_sem s0 s1 hmp hN hch (by omega)] at h
  have hz := (zg_ok s0 hch).2
  have hl : dg (zg g0) nC k ch < zg g0 ch := dg_lt (by omega)
  have h0 : dg (zg g0) nC k ch = 0 := (nI_eq (a := dg (zg g0) nC k ch) (b := 0) (by omega) (by omega)).mp h
  have := dg_0 hch (un_ok s0 hch hmp).1 (by rw [hmp]; exact hk) h0 hv
  omega
def lf_Bo_copyEntries_14 (f : Nat) (t : Nat) (i0 : (Nat → Int32)) : Nat → (Nat → Int32)
  | 0 => i0
  | k14 + 1 => (upd (lf_Bo_copyEntries_14 f t i0 k14) ((t * 4) + k14) ((lf_Bo_copyEntries_14 f t i0 k14) ((f * 4) + k14)))
def mr_Bo_copyEntries (g10 : Nat → Int32) (g11 : Nat → Int32) (f : Nat) (t : Nat) : (Nat → Int32) × (Nat → Int32) := (lf_Bo_copyEntries_14 f t g10 4, upd g11 t (g11 f))
set_option maxHeartbeats 4000000 in
set_option maxRecDepth 100000 in
theorem c_Bo_copyEntries (l : Launch) (D : va_G) (cl : List vw_C) (hcl : cOK cl) (oa ca : Nat → Nat) (ck : Nat → ClassId) (F : Nat → Int32) (G : Nat → Nat → Int32) {H0 : Heap} (hP : va_P D cl (cW oa ca ck F G) H0) (hD : va_D (fun _ => True) (cW oa ca ck F G)) (f : Nat) (t : Nat) (hf : f < 4096) (ht : t < 4096) (zf : G 11 f = 0 ∨ G 11 f = 1) : ww_Met l yBo_copyEntries wsBo_copyEntries ({ frames := 0, cells := 0, slots := 0, locals := 0 } : Room) D cl (cT ck) H0 [.ref (oa 3), .int (nI f), .int (nI t)] (cW oa ca ck F G) none (cW oa ca ck F (va_up (va_up G 10 ((mr_Bo_copyEntries (G 10) (G 11) f t).1)) 11 ((mr_Bo_copyEntries (G 10) (G 11) f t).2))) := by
  refine ww_metV (by decide) rfl (Nat.le_of_ble_eq_true rfl) hP hD ?_
  intro p e s m args below meth c Q A Sx hK hP hD hS hA ls hl hret
  obtain ⟨hx, hb, hml, hown, hts⟩ := id Sx
  have hl : lv_has ls 4 [(0, .ref (oa 3)), (1, .int (nI f)), (2, .int (nI t))] := hl
  obtain ⟨H, eH⟩ : ∃ H : Heap, H = H0 := ⟨_, rfl⟩
  obtain ⟨locs, eL⟩ : ∃ L : List Loc, L = [] := ⟨_, rfl⟩
  have hP : va_P D cl (cW oa ca ck F G) H := by rw [eH]; exact hP
  have hS : va_S A H0 H locs := by rw [eH, eL]; exact hS
  rw [show W p l e ({ frames := 0, cells := 0, slots := 0, locals := 0 } : Room) s m args below meth c H0 [] 0 0 Q (F0 m 0 ls []) = W p l e ({ frames := 0, cells := 0, slots := 0, locals := 0 } : Room) s m args below meth c H locs 0 0 Q (F0 m 0 ls []) by rw [eH, eL]]
  clear eH eL
  have f35 := hts _ (List.mem_cons_of_mem _ mfBo_35)
  have inBo_ : ∀ w ∈ wsBo0, w ∈ wsBo_copyEntries := fun w h => List.mem_cons_of_mem _ (inBo_all w h)
  have f32 := hts _ (List.mem_cons_of_mem _ mfBo_32)
  refine lv_aload_n hx hb dBo_copyEntries_0 rfl (lv_at hl 0 rfl) ?_
  refine va_get (D := D) (ci := 4) (v := .ref (ca 11)) (C := RBo) (T := TBo) (N := 10) hx hb hts inBo_ hown hK hP 3 rfl hcl.2.2.2.1 9 (by decide) f35 (fun _ h9 => h9) rfl dBo_copyEntries_1 ?_
  refine lv_iload_n hx hb dBo_copyEntries_4 rfl (lv_at hl 2 rfl) ?_
  refine lv_aload_n hx hb dBo_copyEntries_5 rfl (lv_at hl 0 rfl) ?_
  refine va_get (D := D) (ci := 4) (v := .ref (ca 11)) (C := RBo) (T := TBo) (N := 10) hx hb hts inBo_ hown hK hP 3 rfl hcl.2.2.2.1 9 (by decide) f35 (fun _ h9 => h9) rfl dBo_copyEntries_6 ?_
  refine lv_iload_n hx hb dBo_copyEntries_9 rfl (lv_at hl 1 rfl) ?_
  have sd10 : f < 4096 := by omega
  refine wn_zald (f := G 11) hx hb hK hP 19 11 rfl rfl f rfl sd10 (by decide) dBo_copyEntries_10 ?_
  have sd11 : t < 4096 := by omega
  refine wn_zast (f := G 11) hx hb hK hP hD hS 19 11 rfl rfl t rfl sd11 (by decide) (by rcases zf with h9 | h9 <;> rw [h9] <;> rfl) dBo_copyEntries_11 (fun H locs hP hD hS => ?_)
  rw [cW_g11] at hP hD
  refine lv_iconst (v := 0) hx hb dBo_copyEntries_12 (by decide) ?_
  refine lv_istore_n (lv' := [(3, .int 0), (0, .ref (oa 3)), (1, .int (nI f)), (2, .int (nI t))]) hx hb dBo_copyEntries_13 rfl hl (by decide) rfl (fun ls hl => ?_)
  have loop14 : ∀ (N14 k14 : Nat), k14 ≤ 4 → 4 - k14 < N14 → ∀ (H : Heap) (locs : List Loc), va_P D cl (cW oa ca ck F (va_up (va_up G 10 (lf_Bo_copyEntries_14 f t (G 10) k14)) 11 (upd (G 11) t (G 11 f)))) H → va_D A (cW oa ca ck F (va_up (va_up G 10 (lf_Bo_copyEntries_14 f t (G 10) k14)) 11 (upd (G 11) t (G 11 f)))) → va_S A H0 H locs → ∀ (ls : Array Slot), lv_has ls 4 [(3, .int (nI k14)), (0, .ref (oa 3)), (1, .int (nI f)), (2, .int (nI t))] → W p l e ({ frames := 0, cells := 0, slots := 0, locals := 0 } : Room) s m args below meth c H locs 0 0 Q (F0 m 14 ls []) := by
    intro N14
    induction N14 with
    | zero => intro k14 hk14 hm14; exact absurd hm14 (Nat.not_lt_zero _)
    | succ N14 ih14 =>
      intro k14 hk14 hm14  H locs hP hD hS ls hl
      refine lv_iload_n hx hb dBo_copyEntries_14 rfl (lv_at hl 0 rfl) ?_
      refine lv_iconst (v := 4) hx hb dBo_copyEntries_15 (by decide) ?_
      refine lv_icmp_ge (tgt := 45) hx hb dBo_copyEntries_16 (by decide) (fun c16 => ?_) (fun c16 => ?_)
      · have n16 : 4 ≤ k14 := (nI_leI (a := 4) (b := k14) (by omega) (by omega)).mp c16
        have hx14 : 4 = k14 := by omega
        subst hx14
        have em : mr_Bo_copyEntries (G 10) (G 11) f t = (lf_Bo_copyEntries_14 f t (G 10) 4, upd (G 11) t (G 11 f)) := by rw [mr_Bo_copyEntries]
        exact hret _ _ _ _ _ (by simp only [em]) hP hD hS dBo_copyEntries_45
      · have n16 : ¬ 4 ≤ k14 := fun h9 => c16 ((nI_leI (a := 4) (b := k14) (by omega) (by omega)).mpr h9)
        refine lv_aload_n hx hb dBo_copyEntries_19 rfl (lv_at hl 1 rfl) ?_
        refine va_get (D := D) (ci := 4) (v := .ref (ca 10)) (C := RBo) (T := TBo) (N := 10) hx hb hts inBo_ hown hK hP 3 rfl hcl.2.2.2.1 8 (by decide) f32 (fun _ h9 => h9) rfl dBo_copyEntries_20 ?_
        refine lv_iload_n hx hb dBo_copyEntries_23 rfl (lv_at hl 3 rfl) ?_
        refine lv_iconst (v := 4) hx hb dBo_copyEntries_24 (by decide) ?_
        refine lv_imul hx hb dBo_copyEntries_25 ?_
        refine wt_i (r := nI (t * 4)) (by exact pk_mul t 4) ?_
        refine lv_iload_n hx hb dBo_copyEntries_26 rfl (lv_at hl 0 rfl) ?_
        refine lv_iadd hx hb dBo_copyEntries_27 ?_
        refine wt_i (r := nI ((t * 4) + k14)) (by exact nI_add (t * 4) k14) ?_
        refine lv_aload_n hx hb dBo_copyEntries_28 rfl (lv_at hl 1 rfl) ?_
        refine va_get (D := D) (ci := 4) (v := .ref (ca 10)) (C := RBo) (T := TBo) (N := 10) hx hb hts inBo_ hown hK hP 3 rfl hcl.2.2.2.1 8 (by decide) f32 (fun _ h9 => h9) rfl dBo_copyEntries_29 ?_
        refine lv_iload_n hx hb dBo_copyEntries_32 rfl (lv_at hl 2 rfl) ?_
        refine lv_iconst (v := 4) hx hb dBo_copyEntries_33 (by decide) ?_
        refine lv_imul hx hb dBo_copyEntries_34 ?_
        refine wt_i (r := nI (f * 4)) (by exact pk_mul f 4) ?_
        refine lv_iload_n hx hb dBo_copyEntries_35 rfl (lv_at hl 0 rfl) ?_
        refine lv_iadd hx hb dBo_copyEntries_36 ?_
        refine wt_i (r := nI ((f * 4) + k14)) (by exact nI_add (f * 4) k14) ?_
        have sd37 : ((f * 4) + k14) < 16384 := by omega
        have eg37 : (va_up (va_up G 10 (lf_Bo_copyEntries_14 f t (G 10) k14)) 11 (upd (G 11) t (G 11 f))) 10 = lf_Bo_copyEntries_14 f t (G 10) k14 := by rw [vup_un (k := 11) (j := 10) (by decide), vup_us]
        refine wn_iald (f := lf_Bo_copyEntries_14 f t (G 10) k14) hx hb hK hP 18 10 (congrArg (fun z : Nat → Int32 => (some ((ca 10), (.inl ((ck 10), 16384, .inl z) : va_E)) : Option (Nat × va_E))) eg37) rfl ((f * 4) + k14) rfl sd37 (by decide) dBo_copyEntries_37 ?_
        have sd38 : ((t * 4) + k14) < 16384 := by omega
        have eg38 : (va_up (va_up G 10 (lf_Bo_copyEntries_14 f t (G 10) k14)) 11 (upd (G 11) t (G 11 f))) 10 = lf_Bo_copyEntries_14 f t (G 10) k14 := by rw [vup_un (k := 11) (j := 10) (by decide), vup_us]
        refine wn_iast (f := lf_Bo_copyEntries_14 f t (G 10) k14) hx hb hK hP hD hS 18 10 (congrArg (fun z : Nat → Int32 => (some ((ca 10), (.inl ((ck 10), 16384, .inl z) : va_E)) : Option (Nat × va_E))) eg38) rfl ((t * 4) + k14) rfl sd38 (by decide) dBo_copyEntries_38 (fun H locs hP hD hS => ?_)
        rw [cW_g10, vup_sw (i := 11) (j := 10) (by decide), vup_ow] at hP hD
        refine lv_iinc (v := nI (k14 + 1)) (lv' := [(3, .int (nI (k14 + 1))), (0, .ref (oa 3)), (1, .int (nI f)), (2, .int (nI t))]) hx hb dBo_copyEntries_39 hl (k := 0) rfl (by exact ii_1 k14) (by decide) rfl (fun ls hl => ?_)
        refine lv_goto (tgt := 14) hx hb dBo_copyEntries_42 (by decide) ?_
        have eb14 : lf_Bo_copyEntries_14 f t (G 10) (k14 + 1) = upd (lf_Bo_copyEntries_14 f t (G 10) k14) ((t * 4) + k14) ((lf_Bo_copyEntries_14 f t (G 10) k14) ((f * 4) + k14)) := by rw [lf_Bo_copyEntries_14]
        exact ih14 (k14 + 1) (by omega) (by omega)  H locs (by rw [eb14]; exact hP) (by rw [eb14]; exact hD) hS ls (by exact lv_sub hl [0, 1, 2, 3] rfl)
  exact loop14 _ 0 (Nat.zero_le _) (Nat.lt_succ_self _)  H locs hP hD hS ls (lv_sub hl [0, 1, 2, 3] rfl)
def lf_Bo_splitDesigns_18 (nD : Nat) (v : Nat) (k10 : Nat) (i0 : (Nat → Int32)) (i1 : (Nat → Int32)) : Nat → (Nat → Int32) × (Nat → Int32)
  | 0 => (i0, i1)
  | k18 + 1 => ((mr_Bo_copyEntries ((lf_Bo_splitDesigns_18 nD v k10 i0 i1 k18).1) ((lf_Bo_splitDesigns_18 nD v k10 i0 i1 k18).2) (nD - 1 - k10) (((nD - 1 - k10) * v) + (v - 1 - k18))).1, (mr_Bo_copyEntries ((lf_Bo_splitDesigns_18 nD v k10 i0 i1 k18).1) ((lf_Bo_splitDesigns_18 nD v k10 i0 i1 k18).2) (nD - 1 - k10) (((nD - 1 - k10) * v) + (v - 1 - k18))).2)
def lf_Bo_splitDesigns_10 (nD : Nat) (v : Nat) (i0 : (Nat → Int32)) (i1 : (Nat → Int32)) : Nat → (Nat → Int32) × (Nat → Int32)
  | 0 => (i0, i1)
  | k10 + 1 => ((lf_Bo_splitDesigns_18 nD v k10 ((lf_Bo_splitDesigns_10 nD v i0 i1 k10).1) ((lf_Bo_splitDesigns_10 nD v i0 i1 k10).2) v).1, (lf_Bo_splitDesigns_18 nD v k10 ((lf_Bo_splitDesigns_10 nD v i0 i1 k10).1) ((lf_Bo_splitDesigns_10 nD v i0 i1 k10).2) v).2)
def mr_Bo_splitDesigns (g10 : Nat → Int32) (g11 : Nat → Int32) (nD : Nat) (v : Nat) : (Nat → Int32) × (Nat → Int32) := ((lf_Bo_splitDesigns_10 nD v g10 g11 nD).1, (lf_Bo_splitDesigns_10 nD v g10 g11 nD).2)
theorem zs18 {nD v k10 : Nat} {i0 i1 : Nat → Int32} (h : ∀ j, i1 j = 0 ∨ i1 j = 1) : ∀ n j : Nat, (lf_Bo_splitDesigns_18 nD v k10 i0 i1 n).2 j = 0 ∨ (lf_Bo_splitDesigns_18 nD v k10 i0 i1 n).2 j = 1 := by
  intro n
  induction n with
  | zero => intro j; exact h j
  | succ n ih => intro j; rw [lf_Bo_splitDesigns_18]; exact z01_upd ih (ih _) j
theorem zs10 {nD v : Nat} {i0 i1 : Nat → Int32} (h : ∀ j, i1 j = 0 ∨ i1 j = 1) : ∀ n j : Nat, (lf_Bo_splitDesigns_10 nD v i0 i1 n).2 j = 0 ∨ (lf_Bo_splitDesigns_10 nD v i0 i1 n).2 j = 1 := by
  intro n
  induction n with
  | zero => intro j; exact h j
  | succ n ih => intro j; rw [lf_Bo_splitDesigns_10]; exact zs18 ih v j
set_option maxHeartbeats 4000000 in
set_option maxRecDepth 100000 in
theorem c_Bo_splitDesigns (l : Launch) (D : va_G) (cl : List vw_C) (hcl : cOK cl) (oa ca : Nat → Nat) (ck : Nat → ClassId) (F : Nat → Int32) (G : Nat → Nat → Int32) {H0 : Heap} (hP : va_P D cl (cW oa ca ck F G) H0) (hD : va_D (fun _ => True) (cW oa ca ck F G)) (nD : Nat) (v : Nat) (k1 : F 1 = nI nD) (hv : v ≤ 6) (hDv : nD * v ≤ 4096) (hN : nD ≤ 4096) (z11 : ∀ j, G 11 j = 0 ∨ G 11 j = 1) : ww_Met l yBo_splitDesigns wsBo_splitDesigns ({ frames := 1, cells := 0, slots := 0, locals := 23 } : Room) D cl (cT ck) H0 [.ref (oa 3), .int (nI v)] (cW oa ca ck F G) none (cW oa ca ck F (va_up (va_up G 10 ((mr_Bo_splitDesigns (G 10) (G 11) nD v).1)) 11 ((mr_Bo_splitDesigns (G 10) (G 11) nD v).2))) := by
  refine ww_metV (by decide) rfl (Nat.le_of_ble_eq_true rfl) hP hD ?_
  intro p e s m args below meth c Q A Sx hK hP hD hS hA ls hl hret
  obtain ⟨hx, hb, hml, hown, hts⟩ := id Sx
  have hl : lv_has ls 4 [(0, .ref (oa 3)), (1, .int (nI v))] := hl
  obtain ⟨H, eH⟩ : ∃ H : Heap, H = H0 := ⟨_, rfl⟩
  obtain ⟨locs, eL⟩ : ∃ L : List Loc, L = [] := ⟨_, rfl⟩
  have hP : va_P D cl (cW oa ca ck F G) H := by rw [eH]; exact hP
  have hS : va_S A H0 H locs := by rw [eH, eL]; exact hS
  rw [show W p l e ({ frames := 1, cells := 0, slots := 0, locals := 23 } : Room) s m args below meth c H0 [] 0 0 Q (F0 m 0 ls []) = W p l e ({ frames := 1, cells := 0, slots := 0, locals := 23 } : Room) s m args below meth c H locs 0 0 Q (F0 m 0 ls []) by rw [eH, eL]]
  clear eH eL
  have f38 := hts _ (List.mem_cons_of_mem _ mfBo_38)
  have inBo_ : ∀ w ∈ wsBo0, w ∈ wsBo_splitDesigns := fun w h => List.mem_cons_of_mem _ (inBo_all w h)
  have f51 := hts _ (List.mem_cons_of_mem _ mfBo_51)
  have inSh_ : ∀ w ∈ wsSh0, w ∈ wsBo_splitDesigns := fun w h => List.mem_cons_of_mem _ (inSh_all w h)
  refine lv_aload_n hx hb dBo_splitDesigns_0 rfl (lv_at hl 0 rfl) ?_
  refine va_get (D := D) (ci := 4) (v := .ref (oa 1)) (C := RBo) (T := TBo) (N := 10) hx hb hts inBo_ hown hK hP 3 rfl hcl.2.2.2.1 0 (by decide) f38 (fun _ h9 => h9) rfl dBo_splitDesigns_1 ?_
  refine va_get (D := D) (ci := 2) (v := .int (F 1)) (C := RSh) (T := TSh) (N := 4) hx hb hts inSh_ hown hK hP 1 rfl hcl.2.1 3 (by decide) f51 (fun _ h9 => h9) rfl dBo_splitDesigns_4 ?_
  refine wt_i k1 ?_
  refine lv_iconst (v := 1) hx hb dBo_splitDesigns_7 (by decide) ?_
  refine lv_isub hx hb dBo_splitDesigns_8 ?_
  refine lv_istore_n (lv' := [(2, .int ((nI nD) - 1)), (0, .ref (oa 3)), (1, .int (nI v))]) hx hb dBo_splitDesigns_9 rfl hl (by decide) rfl (fun ls hl => ?_)
  have loop10 : ∀ (N10 k10 : Nat), k10 ≤ nD → nD - k10 < N10 → ∀ (H : Heap) (locs : List Loc), va_P D cl (cW oa ca ck F (va_up (va_up G 10 ((lf_Bo_splitDesigns_10 nD v (G 10) (G 11) k10).1)) 11 ((lf_Bo_splitDesigns_10 nD v (G 10) (G 11) k10).2))) H → va_D A (cW oa ca ck F (va_up (va_up G 10 ((lf_Bo_splitDesigns_10 nD v (G 10) (G 11) k10).1)) 11 ((lf_Bo_splitDesigns_10 nD v (G 10) (G 11) k10).2))) → va_S A H0 H locs → ∀ (ls : Array Slot), lv_has ls 4 [(2, .int (nI (nD - k10) - 1)), (0, .ref (oa 3)), (1, .int (nI v))] → W p l e ({ frames := 1, cells := 0, slots := 0, locals := 23 } : Room) s m args below meth c H locs 0 0 Q (F0 m 10 ls []) := by
    intro N10
    induction N10 with
    | zero => intro k10 hk10 hm10; exact absurd hm10 (Nat.not_lt_zero _)
    | succ N10 ih10 =>
      intro k10 hk10 hm10  H locs hP hD hS ls hl
      refine lv_iload_n hx hb dBo_splitDesigns_10 rfl (lv_at hl 0 rfl) ?_
      refine lv_if_lt (tgt := 44) hx hb dBo_splitDesigns_11 (by decide) (fun c11 => ?_) (fun c11 => ?_)
      · have n11 : nD ≤ k10 := dn_neg c11 (by omega)
        have hx10 : nD = k10 := by omega
        subst hx10
        have em : mr_Bo_splitDesigns (G 10) (G 11) nD v = ((lf_Bo_splitDesigns_10 nD v (G 10) (G 11) nD).1, (lf_Bo_splitDesigns_10 nD v (G 10) (G 11) nD).2) := by rw [mr_Bo_splitDesigns]
        exact hret _ _ _ _ _ (by simp only [em]) hP hD hS dBo_splitDesigns_44
      · have n11 : ¬ nD ≤ k10 := dn_nneg c11 (by omega)
        refine lv_iload_n hx hb dBo_splitDesigns_14 rfl (lv_at hl 2 rfl) ?_
        refine lv_iconst (v := 1) hx hb dBo_splitDesigns_15 (by decide) ?_
        refine lv_isub hx hb dBo_splitDesigns_16 ?_
        refine lv_istore_n (lv' := [(3, .int ((nI v) - 1)), (2, .int (nI (nD - k10) - 1)), (0, .ref (oa 3)), (1, .int (nI v))]) hx hb dBo_splitDesigns_17 rfl hl (by decide) rfl (fun ls hl => ?_)
        have loop18 : ∀ (N18 k18 : Nat), k18 ≤ v → v - k18 < N18 → ∀ (H : Heap) (locs : List Loc), va_P D cl (cW oa ca ck F (va_up (va_up G 10 ((lf_Bo_splitDesigns_18 nD v k10 ((lf_Bo_splitDesigns_10 nD v (G 10) (G 11) k10).1) ((lf_Bo_splitDesigns_10 nD v (G 10) (G 11) k10).2) k18).1)) 11 ((lf_Bo_splitDesigns_18 nD v k10 ((lf_Bo_splitDesigns_10 nD v (G 10) (G 11) k10).1) ((lf_Bo_splitDesigns_10 nD v (G 10) (G 11) k10).2) k18).2))) H → va_D A (cW oa ca ck F (va_up (va_up G 10 ((lf_Bo_splitDesigns_18 nD v k10 ((lf_Bo_splitDesigns_10 nD v (G 10) (G 11) k10).1) ((lf_Bo_splitDesigns_10 nD v (G 10) (G 11) k10).2) k18).1)) 11 ((lf_Bo_splitDesigns_18 nD v k10 ((lf_Bo_splitDesigns_10 nD v (G 10) (G 11) k10).1) ((lf_Bo_splitDesigns_10 nD v (G 10) (G 11) k10).2) k18).2))) → va_S A H0 H locs → ∀ (ls : Array Slot), lv_has ls 4 [(3, .int (nI (v - k18) - 1)), (2, .int (nI (nD - k10) - 1)), (0, .ref (oa 3)), (1, .int (nI v))] → W p l e ({ frames := 1, cells := 0, slots := 0, locals := 23 } : Room) s m args below meth c H locs 0 0 Q (F0 m 18 ls []) := by
          intro N18
          induction N18 with
          | zero => intro k18 hk18 hm18; exact absurd hm18 (Nat.not_lt_zero _)
          | succ N18 ih18 =>
            intro k18 hk18 hm18  H locs hP hD hS ls hl
            refine lv_iload_n hx hb dBo_splitDesigns_18 rfl (lv_at hl 0 rfl) ?_
            refine lv_if_lt (tgt := 38) hx hb dBo_splitDesigns_19 (by decide) (fun c19 => ?_) (fun c19 => ?_)
            · have n19 : v ≤ k18 := dn_neg c19 (by omega)
              have hx18 : v = k18 := by omega
              subst hx18
              refine lv_iinc (v := nI (nD - (k10 + 1)) - 1) (lv' := [(2, .int (nI (nD - (k10 + 1)) - 1)), (3, .int (nI (v - v) - 1)), (0, .ref (oa 3)), (1, .int (nI v))]) hx hb dBo_splitDesigns_38 hl (k := 1) rfl (by exact dn_dec (by omega)) (by decide) rfl (fun ls hl => ?_)
              refine lv_goto (tgt := 10) hx hb dBo_splitDesigns_41 (by decide) ?_
              have eb10 : lf_Bo_splitDesigns_10 nD v (G 10) (G 11) (k10 + 1) = ((lf_Bo_splitDesigns_18 nD v k10 ((lf_Bo_splitDesigns_10 nD v (G 10) (G 11) k10).1) ((lf_Bo_splitDesigns_10 nD v (G 10) (G 11) k10).2) v).1, (lf_Bo_splitDesigns_18 nD v k10 ((lf_Bo_splitDesigns_10 nD v (G 10) (G 11) k10).1) ((lf_Bo_splitDesigns_10 nD v (G 10) (G 11) k10).2) v).2) := by rw [lf_Bo_splitDesigns_10]
              exact ih10 (k10 + 1) (by omega) (by omega)  H locs (by rw [eb10]; exact hP) (by rw [eb10]; exact hD) hS ls (by exact lv_sub hl [0, 2, 3] rfl)
            · have n19 : ¬ v ≤ k18 := dn_nneg c19 (by omega)
              refine lv_aload_n hx hb dBo_splitDesigns_22 rfl (lv_at hl 2 rfl) ?_
              refine lv_iload_n hx hb dBo_splitDesigns_23 rfl (lv_at hl 1 rfl) ?_
              refine wt_i (r := nI (nD - 1 - k10)) (by exact dn_ix (by omega)) ?_
              refine lv_iload_n hx hb dBo_splitDesigns_24 rfl (lv_at hl 1 rfl) ?_
              refine wt_i (r := nI (nD - 1 - k10)) (by exact dn_ix (by omega)) ?_
              refine lv_iload_n hx hb dBo_splitDesigns_25 rfl (lv_at hl 3 rfl) ?_
              refine lv_imul hx hb dBo_splitDesigns_26 ?_
              refine wt_i (r := nI ((nD - 1 - k10) * v)) (by exact pk_mul (nD - 1 - k10) v) ?_
              refine lv_iload_n hx hb dBo_splitDesigns_27 rfl (lv_at hl 0 rfl) ?_
              refine wt_i (r := nI (v - 1 - k18)) (by exact dn_ix (by omega)) ?_
              refine lv_iadd hx hb dBo_splitDesigns_28 ?_
              refine wt_i (r := nI (((nD - 1 - k10) * v) + (v - 1 - k18))) (by exact nI_add ((nD - 1 - k10) * v) (v - 1 - k18)) ?_
              refine ww_callV (r := none) (w' := cW oa ca ck F (va_up (va_up (va_up (va_up G 10 ((lf_Bo_splitDesigns_18 nD v k10 ((lf_Bo_splitDesigns_10 nD v (G 10) (G 11) k10).1) ((lf_Bo_splitDesigns_10 nD v (G 10) (G 11) k10).2) k18).1)) 11 ((lf_Bo_splitDesigns_18 nD v k10 ((lf_Bo_splitDesigns_10 nD v (G 10) (G 11) k10).1) ((lf_Bo_splitDesigns_10 nD v (G 10) (G 11) k10).2) k18).2)) 10 ((mr_Bo_copyEntries ((lf_Bo_splitDesigns_18 nD v k10 ((lf_Bo_splitDesigns_10 nD v (G 10) (G 11) k10).1) ((lf_Bo_splitDesigns_10 nD v (G 10) (G 11) k10).2) k18).1) ((lf_Bo_splitDesigns_18 nD v k10 ((lf_Bo_splitDesigns_10 nD v (G 10) (G 11) k10).1) ((lf_Bo_splitDesigns_10 nD v (G 10) (G 11) k10).2) k18).2) (nD - 1 - k10) (((nD - 1 - k10) * v) + (v - 1 - k18))).1)) 11 ((mr_Bo_copyEntries ((lf_Bo_splitDesigns_18 nD v k10 ((lf_Bo_splitDesigns_10 nD v (G 10) (G 11) k10).1) ((lf_Bo_splitDesigns_10 nD v (G 10) (G 11) k10).2) k18).1) ((lf_Bo_splitDesigns_18 nD v k10 ((lf_Bo_splitDesigns_10 nD v (G 10) (G 11) k10).1) ((lf_Bo_splitDesigns_10 nD v (G 10) (G 11) k10).2) k18).2) (nD - 1 - k10) (((nD - 1 - k10) * v) + (v - 1 - k18))).2))) (As := [.int (nI (nD - 1 - k10)), .int (nI (((nD - 1 - k10) * v) + (v - 1 - k18)))]) (rest := []) Sx (c_Bo_copyEntries l D cl hcl oa ca ck F (va_up (va_up G 10 ((lf_Bo_splitDesigns_18 nD v k10 ((lf_Bo_splitDesigns_10 nD v (G 10) (G 11) k10).1) ((lf_Bo_splitDesigns_10 nD v (G 10) (G 11) k10).2) k18).1)) 11 ((lf_Bo_splitDesigns_18 nD v k10 ((lf_Bo_splitDesigns_10 nD v (G 10) (G 11) k10).1) ((lf_Bo_splitDesigns_10 nD v (G 10) (G 11) k10).2) k18).2)) hP (hD.weaken (fun _ _ _ _ => trivial)) (nD - 1 - k10) (((nD - 1 - k10) * v) + (v - 1 - k18)) (by omega) (sp_lt (n := nD) (v := v) (by omega) (by omega) hDv) (zs18 (zs10 z11 k10) k18 (nD - 1 - k10))) (cwV 2 hts gBo_splitDesigns_Bo_copyEntries rfl rfl rfl (by decide +kernel) ⟨Nat.le_of_ble_eq_true rfl, Nat.le_of_ble_eq_true rfl⟩) hK (va_recv hK hP (ci := 4) (q0 := 3) hcl.2.2.2.1 rfl) rfl hl.1 rfl (Nat.le_of_ble_eq_true rfl) dBo_splitDesigns_29 ⟨Nat.zero_le _, Nat.zero_le _⟩ hD hS hA (fun H locs hP hD hS => ?_)
              rw [vup_sw (i := 11) (j := 10) (by decide), vup_ow, vup_ow] at hP hD
              refine lv_iinc (v := nI (v - (k18 + 1)) - 1) (lv' := [(3, .int (nI (v - (k18 + 1)) - 1)), (2, .int (nI (nD - k10) - 1)), (0, .ref (oa 3)), (1, .int (nI v))]) hx hb dBo_splitDesigns_32 hl (k := 0) rfl (by exact dn_dec (by omega)) (by decide) rfl (fun ls hl => ?_)
              refine lv_goto (tgt := 18) hx hb dBo_splitDesigns_35 (by decide) ?_
              have eb18 : lf_Bo_splitDesigns_18 nD v k10 ((lf_Bo_splitDesigns_10 nD v (G 10) (G 11) k10).1) ((lf_Bo_splitDesigns_10 nD v (G 10) (G 11) k10).2) (k18 + 1) = ((mr_Bo_copyEntries ((lf_Bo_splitDesigns_18 nD v k10 ((lf_Bo_splitDesigns_10 nD v (G 10) (G 11) k10).1) ((lf_Bo_splitDesigns_10 nD v (G 10) (G 11) k10).2) k18).1) ((lf_Bo_splitDesigns_18 nD v k10 ((lf_Bo_splitDesigns_10 nD v (G 10) (G 11) k10).1) ((lf_Bo_splitDesigns_10 nD v (G 10) (G 11) k10).2) k18).2) (nD - 1 - k10) (((nD - 1 - k10) * v) + (v - 1 - k18))).1, (mr_Bo_copyEntries ((lf_Bo_splitDesigns_18 nD v k10 ((lf_Bo_splitDesigns_10 nD v (G 10) (G 11) k10).1) ((lf_Bo_splitDesigns_10 nD v (G 10) (G 11) k10).2) k18).1) ((lf_Bo_splitDesigns_18 nD v k10 ((lf_Bo_splitDesigns_10 nD v (G 10) (G 11) k10).1) ((lf_Bo_splitDesigns_10 nD v (G 10) (G 11) k10).2) k18).2) (nD - 1 - k10) (((nD - 1 - k10) * v) + (v - 1 - k18))).2) := by rw [lf_Bo_splitDesigns_18]
              exact ih18 (k18 + 1) (by omega) (by omega)  H locs (by rw [eb18]; exact hP) (by rw [eb18]; exact hD) hS ls (by exact lv_sub hl [0, 1, 2, 3] rfl)
        exact loop18 _ 0 (Nat.zero_le _) (Nat.lt_succ_self _)  H locs hP hD hS ls (lv_sub hl [0, 1, 2, 3] rfl)
  exact loop10 _ 0 (Nat.zero_le _) (Nat.lt_succ_self _)  H locs hP hD hS ls (lv_sub hl [0, 1, 2] rfl)
def lf_Bo_addTerm_60 (g0 : Nat → Int32) (g1 : Nat → Int32) (nD : Nat) (nT : Nat) (nu : Nat) (t : Nat) (a : Nat) (va : Int32) (b : Int32) (vb : Int32) (w : Int32) (qg2_60 : Nat → Int32) (qg3_60 : Nat → Int32) (qg4_60 : Nat → Int32) (qg5_60 : Nat → Int32) (i0 : (Nat → Int32)) : Nat → (Nat → Int32)
  | 0 => i0
  | k60 + 1 => (if (mr_Ma_fits g0 g1 qg2_60 qg3_60 qg4_60 qg5_60 ((nu * 100) + t) (nI k60)) = 0 then (lf_Bo_addTerm_60 g0 g1 nD nT nu t a va b vb w qg2_60 qg3_60 qg4_60 qg5_60 i0 k60) else (upd (lf_Bo_addTerm_60 g0 g1 nD nT nu t a va b vb w qg2_60 qg3_60 qg4_60 qg5_60 i0 k60) ((k60 * 4) + nu) (((lf_Bo_addTerm_60 g0 g1 nD nT nu t a va b vb w qg2_60 qg3_60 qg4_60 qg5_60 i0 k60) ((k60 * 4) + nu)) + w)))
def mr_Bo_addTerm (g0 : Nat → Int32) (g1 : Nat → Int32) (g2 : Nat → Int32) (g3 : Nat → Int32) (g4 : Nat → Int32) (g5 : Nat → Int32) (g6 : Nat → Int32) (g7 : Nat → Int32) (g10 : Nat → Int32) (nD : Nat) (nT : Nat) (nu : Nat) (t : Nat) (a : Nat) (va : Int32) (b : Int32) (vb : Int32) (w : Int32) : Int32 × (Nat → Int32) × (Nat → Int32) × (Nat → Int32) × (Nat → Int32) × (Nat → Int32) × (Nat → Int32) × (Nat → Int32) := (nI (nT + 1), (mr_Ma_put g2 g3 g4 g5 ((nu * 100) + t) (nI a) va b vb).1, (mr_Ma_put g2 g3 g4 g5 ((nu * 100) + t) (nI a) va b vb).2.1, (mr_Ma_put g2 g3 g4 g5 ((nu * 100) + t) (nI a) va b vb).2.2.1, (mr_Ma_put g2 g3 g4 g5 ((nu * 100) + t) (nI a) va b vb).2.2.2, upd g6 nu (nI (t + 1)), upd g7 ((nu * 100) + t) w, lf_Bo_addTerm_60 g0 g1 nD nT nu t a va b vb w ((mr_Ma_put g2 g3 g4 g5 ((nu * 100) + t) (nI a) va b vb).1) ((mr_Ma_put g2 g3 g4 g5 ((nu * 100) + t) (nI a) va b vb).2.1) ((mr_Ma_put g2 g3 g4 g5 ((nu * 100) + t) (nI a) va b vb).2.2.1) ((mr_Ma_put g2 g3 g4 g5 ((nu * 100) + t) (nI a) va b vb).2.2.2) g10 nD)
set_option maxHeartbeats 4000000 in
set_option maxRecDepth 100000 in
theorem c_Bo_addTerm (l : Launch) (D : va_G) (cl : List vw_C) (hcl : cOK cl) (oa ca : Nat → Nat) (ck : Nat → ClassId) (F : Nat → Int32) (G : Nat → Nat → Int32) {H0 : Heap} (hP : va_P D cl (cW oa ca ck F G) H0) (hD : va_D (fun _ => True) (cW oa ca ck F G)) (nD : Nat) (nT : Nat) (nu : Nat) (t : Nat) (a : Nat) (va : Int32) (b : Int32) (vb : Int32) (w : Int32) (k1 : F 1 = nI nD) (hN : nD ≤ 4096) (k2 : F 2 = nI nT) (hnu : nu < 4) (hq : G 6 nu = nI t) (ht : t < 100) (ma : a < 8) (mb : b = -1 ∨ ∃ x : Nat, x < 8 ∧ b = nI x) : ww_Met l yBo_addTerm wsBo_addTerm ({ frames := 2, cells := 0, slots := 0, locals := 46 } : Room) D cl (cT ck) H0 [.ref (oa 3), .int (nI nu), .int (nI a), .int va, .int b, .int vb, .int w] (cW oa ca ck F G) none (cW oa ca ck (upd F 2 ((mr_Bo_addTerm (G 0) (G 1) (G 2) (G 3) (G 4) (G 5) (G 6) (G 7) (G 10) nD nT nu t a va b vb w).1)) (va_up (va_up (va_up (va_up (va_up (va_up (va_up G 2 ((mr_Bo_addTerm (G 0) (G 1) (G 2) (G 3) (G 4) (G 5) (G 6) (G 7) (G 10) nD nT nu t a va b vb w).2.1)) 3 ((mr_Bo_addTerm (G 0) (G 1) (G 2) (G 3) (G 4) (G 5) (G 6) (G 7) (G 10) nD nT nu t a va b vb w).2.2.1)) 4 ((mr_Bo_addTerm (G 0) (G 1) (G 2) (G 3) (G 4) (G 5) (G 6) (G 7) (G 10) nD nT nu t a va b vb w).2.2.2.1)) 5 ((mr_Bo_addTerm (G 0) (G 1) (G 2) (G 3) (G 4) (G 5) (G 6) (G 7) (G 10) nD nT nu t a va b vb w).2.2.2.2.1)) 6 ((mr_Bo_addTerm (G 0) (G 1) (G 2) (G 3) (G 4) (G 5) (G 6) (G 7) (G 10) nD nT nu t a va b vb w).2.2.2.2.2.1)) 7 ((mr_Bo_addTerm (G 0) (G 1) (G 2) (G 3) (G 4) (G 5) (G 6) (G 7) (G 10) nD nT nu t a va b vb w).2.2.2.2.2.2.1)) 10 ((mr_Bo_addTerm (G 0) (G 1) (G 2) (G 3) (G 4) (G 5) (G 6) (G 7) (G 10) nD nT nu t a va b vb w).2.2.2.2.2.2.2))) := by
  refine ww_metV (by decide) rfl (Nat.le_of_ble_eq_true rfl) hP hD ?_
  intro p e s m args below meth c Q A Sx hK hP hD hS hA ls hl hret
  obtain ⟨hx, hb, hml, hown, hts⟩ := id Sx
  have hl : lv_has ls 9 [(0, .ref (oa 3)), (1, .int (nI nu)), (2, .int (nI a)), (3, .int va), (4, .int b), (5, .int vb), (6, .int w)] := hl
  obtain ⟨H, eH⟩ : ∃ H : Heap, H = H0 := ⟨_, rfl⟩
  obtain ⟨locs, eL⟩ : ∃ L : List Loc, L = [] := ⟨_, rfl⟩
  have hP : va_P D cl (cW oa ca ck F G) H := by rw [eH]; exact hP
  have hS : va_S A H0 H locs := by rw [eH, eL]; exact hS
  rw [show W p l e ({ frames := 2, cells := 0, slots := 0, locals := 46 } : Room) s m args below meth c H0 [] 0 0 Q (F0 m 0 ls []) = W p l e ({ frames := 2, cells := 0, slots := 0, locals := 46 } : Room) s m args below meth c H locs 0 0 Q (F0 m 0 ls []) by rw [eH, eL]]
  clear eH eL
  have f9 := hts _ (List.mem_cons_of_mem _ mfBo_9)
  have inBo_ : ∀ w ∈ wsBo0, w ∈ wsBo_addTerm := fun w h => List.mem_cons_of_mem _ (inBo_all w h)
  have f47 := hts _ (List.mem_cons_of_mem _ mfBo_47)
  have f15 := hts _ (List.mem_cons_of_mem _ mfBo_15)
  have f18 := hts _ (List.mem_cons_of_mem _ mfBo_18)
  have f38 := hts _ (List.mem_cons_of_mem _ mfBo_38)
  have f51 := hts _ (List.mem_cons_of_mem _ mfBo_51)
  have inSh_ : ∀ w ∈ wsSh0, w ∈ wsBo_addTerm := fun w h => List.mem_cons_of_mem _ (inSh_all w h)
  have f32 := hts _ (List.mem_cons_of_mem _ mfBo_32)
  refine lv_iload_n hx hb dBo_addTerm_0 rfl (lv_at hl 1 rfl) ?_
  refine lv_bipush (v := 100) hx hb dBo_addTerm_1 (by decide) ?_
  refine lv_imul hx hb dBo_addTerm_3 ?_
  refine wt_i (r := nI (nu * 100)) (by exact pk_mul nu 100) ?_
  refine lv_aload_n hx hb dBo_addTerm_4 rfl (lv_at hl 0 rfl) ?_
  refine va_get (D := D) (ci := 4) (v := .ref (ca 6)) (C := RBo) (T := TBo) (N := 10) hx hb hts inBo_ hown hK hP 3 rfl hcl.2.2.2.1 2 (by decide) f9 (fun _ h9 => h9) rfl dBo_addTerm_5 ?_
  refine lv_iload_n hx hb dBo_addTerm_8 rfl (lv_at hl 1 rfl) ?_
  have sd9 : nu < 4 := by omega
  refine wn_iald (f := G 6) hx hb hK hP 14 6 rfl rfl nu rfl sd9 (by decide) dBo_addTerm_9 ?_
  refine wt_i (r := nI t) (by exact hq) ?_
  refine lv_iadd hx hb dBo_addTerm_10 ?_
  refine wt_i (r := nI ((nu * 100) + t)) (by exact nI_add (nu * 100) t) ?_
  refine lv_istore (lv' := [(7, .int (nI ((nu * 100) + t))), (0, .ref (oa 3)), (1, .int (nI nu)), (2, .int (nI a)), (3, .int va), (4, .int b), (5, .int vb), (6, .int w)]) hx hb dBo_addTerm_11 hl (by decide) rfl (fun ls hl => ?_)
  refine lv_aload_n hx hb dBo_addTerm_13 rfl (lv_at hl 1 rfl) ?_
  refine va_get (D := D) (ci := 4) (v := .ref (oa 2)) (C := RBo) (T := TBo) (N := 10) hx hb hts inBo_ hown hK hP 3 rfl hcl.2.2.2.1 1 (by decide) f47 (fun _ h9 => h9) rfl dBo_addTerm_14 ?_
  refine lv_iload hx hb dBo_addTerm_17 (lv_at hl 0 rfl) ?_
  refine lv_iload_n hx hb dBo_addTerm_19 rfl (lv_at hl 3 rfl) ?_
  refine lv_iload_n hx hb dBo_addTerm_20 rfl (lv_at hl 4 rfl) ?_
  refine lv_iload hx hb dBo_addTerm_21 (lv_at hl 5 rfl) ?_
  refine lv_iload hx hb dBo_addTerm_23 (lv_at hl 6 rfl) ?_
  refine ww_callV (r := none) (w' := cW oa ca ck F (va_up (va_up (va_up (va_up G 2 ((mr_Ma_put (G 2) (G 3) (G 4) (G 5) ((nu * 100) + t) (nI a) va b vb).1)) 3 ((mr_Ma_put (G 2) (G 3) (G 4) (G 5) ((nu * 100) + t) (nI a) va b vb).2.1)) 4 ((mr_Ma_put (G 2) (G 3) (G 4) (G 5) ((nu * 100) + t) (nI a) va b vb).2.2.1)) 5 ((mr_Ma_put (G 2) (G 3) (G 4) (G 5) ((nu * 100) + t) (nI a) va b vb).2.2.2))) (As := [.int (nI ((nu * 100) + t)), .int (nI a), .int va, .int b, .int vb]) (rest := []) Sx (c_Ma_put l D cl hcl oa ca ck F G hP (hD.weaken (fun _ _ _ _ => trivial)) ((nu * 100) + t) (nI a) va b vb (by omega)) (cwV 5 hts gBo_addTerm_Ma_put rfl rfl rfl (by decide +kernel) ⟨Nat.le_of_ble_eq_true rfl, Nat.le_of_ble_eq_true rfl⟩) hK (va_recv hK hP (ci := 3) (q0 := 2) hcl.2.2.1 rfl) rfl hl.1 rfl (Nat.le_of_ble_eq_true rfl) dBo_addTerm_25 ⟨Nat.zero_le _, Nat.zero_le _⟩ hD hS hA (fun H locs hP hD hS => ?_)
  refine lv_aload_n hx hb dBo_addTerm_28 rfl (lv_at hl 1 rfl) ?_
  refine va_get (D := D) (ci := 4) (v := .ref (ca 7)) (C := RBo) (T := TBo) (N := 10) hx hb hts inBo_ hown hK hP 3 rfl hcl.2.2.2.1 3 (by decide) f15 (fun _ h9 => h9) rfl dBo_addTerm_29 ?_
  refine lv_iload hx hb dBo_addTerm_32 (lv_at hl 0 rfl) ?_
  refine lv_iload hx hb dBo_addTerm_34 (lv_at hl 7 rfl) ?_
  have sd36 : ((nu * 100) + t) < 400 := by omega
  refine wn_iast (f := G 7) hx hb hK hP hD hS 15 7 rfl rfl ((nu * 100) + t) rfl sd36 (by decide) dBo_addTerm_36 (fun H locs hP hD hS => ?_)
  rw [cW_g7] at hP hD
  refine lv_aload_n hx hb dBo_addTerm_37 rfl (lv_at hl 1 rfl) ?_
  refine va_get (D := D) (ci := 4) (v := .ref (ca 6)) (C := RBo) (T := TBo) (N := 10) hx hb hts inBo_ hown hK hP 3 rfl hcl.2.2.2.1 2 (by decide) f9 (fun _ h9 => h9) rfl dBo_addTerm_38 ?_
  refine lv_iload_n hx hb dBo_addTerm_41 rfl (lv_at hl 2 rfl) ?_
  refine lv_dup2_11 hx hb dBo_addTerm_42 rfl rfl ?_
  have sd43 : nu < 4 := by omega
  refine wn_iald (f := G 6) hx hb hK hP 14 6 rfl rfl nu rfl sd43 (by decide) dBo_addTerm_43 ?_
  refine wt_i (r := nI t) (by exact hq) ?_
  refine lv_iconst (v := 1) hx hb dBo_addTerm_44 (by decide) ?_
  refine lv_iadd hx hb dBo_addTerm_45 ?_
  refine wt_i (r := nI (t + 1)) (by exact nI_add t 1) ?_
  have sd46 : nu < 4 := by omega
  refine wn_iast (f := G 6) hx hb hK hP hD hS 14 6 rfl rfl nu rfl sd46 (by decide) dBo_addTerm_46 (fun H locs hP hD hS => ?_)
  rw [cW_g6, vup_sw (i := 7) (j := 6) (by decide)] at hP hD
  refine lv_aload_n hx hb dBo_addTerm_47 rfl (lv_at hl 1 rfl) ?_
  refine lv_dup hx hb dBo_addTerm_48 rfl ?_
  refine va_get (D := D) (ci := 4) (v := .int (F 2)) (C := RBo) (T := TBo) (N := 10) hx hb hts inBo_ hown hK hP 3 rfl hcl.2.2.2.1 4 (by decide) f18 (fun _ h9 => h9) rfl dBo_addTerm_49 ?_
  refine wt_i k2 ?_
  refine lv_iconst (v := 1) hx hb dBo_addTerm_52 (by decide) ?_
  refine lv_iadd hx hb dBo_addTerm_53 ?_
  refine wt_i (r := nI (nT + 1)) (by exact nI_add nT 1) ?_
  refine va_put (D := D) (ci := 4) (fs := cWl3 oa ca F) (v := .int (nI (nT + 1))) (ty := .int) (C := RBo) (T := TBo) (N := 10) hx hb hts inBo_ tyBo tyBo_ok nmBo hown hK hP hD hS 3 rfl hcl.2.2.2.1 4 (by decide) f18 (fun _ h9 => h9) rfl (by decide +kernel) rfl rfl (Nat.le_of_ble_eq_true rfl) dBo_addTerm_54 (fun H locs hP hD hS => ?_)
  rw [cW_f2] at hP hD
  refine lv_iconst (v := 0) hx hb dBo_addTerm_57 (by decide) ?_
  refine lv_istore (lv' := [(8, .int 0), (7, .int (nI ((nu * 100) + t))), (0, .ref (oa 3)), (1, .int (nI nu)), (2, .int (nI a)), (3, .int va), (4, .int b), (5, .int vb), (6, .int w)]) hx hb dBo_addTerm_58 hl (by decide) rfl (fun ls hl => ?_)
  have loop60 : ∀ (N60 k60 : Nat), k60 ≤ nD → nD - k60 < N60 → ∀ (H : Heap) (locs : List Loc), va_P D cl (cW oa ca ck (upd F 2 (nI (nT + 1))) (va_up (va_up (va_up (va_up (va_up (va_up (va_up G 2 ((mr_Ma_put (G 2) (G 3) (G 4) (G 5) ((nu * 100) + t) (nI a) va b vb).1)) 3 ((mr_Ma_put (G 2) (G 3) (G 4) (G 5) ((nu * 100) + t) (nI a) va b vb).2.1)) 4 ((mr_Ma_put (G 2) (G 3) (G 4) (G 5) ((nu * 100) + t) (nI a) va b vb).2.2.1)) 5 ((mr_Ma_put (G 2) (G 3) (G 4) (G 5) ((nu * 100) + t) (nI a) va b vb).2.2.2)) 6 (upd (G 6) nu (nI (t + 1)))) 7 (upd (G 7) ((nu * 100) + t) w)) 10 (lf_Bo_addTerm_60 (G 0) (G 1) nD nT nu t a va b vb w ((mr_Ma_put (G 2) (G 3) (G 4) (G 5) ((nu * 100) + t) (nI a) va b vb).1) ((mr_Ma_put (G 2) (G 3) (G 4) (G 5) ((nu * 100) + t) (nI a) va b vb).2.1) ((mr_Ma_put (G 2) (G 3) (G 4) (G 5) ((nu * 100) + t) (nI a) va b vb).2.2.1) ((mr_Ma_put (G 2) (G 3) (G 4) (G 5) ((nu * 100) + t) (nI a) va b vb).2.2.2) (G 10) k60))) H → va_D A (cW oa ca ck (upd F 2 (nI (nT + 1))) (va_up (va_up (va_up (va_up (va_up (va_up (va_up G 2 ((mr_Ma_put (G 2) (G 3) (G 4) (G 5) ((nu * 100) + t) (nI a) va b vb).1)) 3 ((mr_Ma_put (G 2) (G 3) (G 4) (G 5) ((nu * 100) + t) (nI a) va b vb).2.1)) 4 ((mr_Ma_put (G 2) (G 3) (G 4) (G 5) ((nu * 100) + t) (nI a) va b vb).2.2.1)) 5 ((mr_Ma_put (G 2) (G 3) (G 4) (G 5) ((nu * 100) + t) (nI a) va b vb).2.2.2)) 6 (upd (G 6) nu (nI (t + 1)))) 7 (upd (G 7) ((nu * 100) + t) w)) 10 (lf_Bo_addTerm_60 (G 0) (G 1) nD nT nu t a va b vb w ((mr_Ma_put (G 2) (G 3) (G 4) (G 5) ((nu * 100) + t) (nI a) va b vb).1) ((mr_Ma_put (G 2) (G 3) (G 4) (G 5) ((nu * 100) + t) (nI a) va b vb).2.1) ((mr_Ma_put (G 2) (G 3) (G 4) (G 5) ((nu * 100) + t) (nI a) va b vb).2.2.1) ((mr_Ma_put (G 2) (G 3) (G 4) (G 5) ((nu * 100) + t) (nI a) va b vb).2.2.2) (G 10) k60))) → va_S A H0 H locs → ∀ (ls : Array Slot), lv_has ls 9 [(8, .int (nI k60)), (7, .int (nI ((nu * 100) + t))), (0, .ref (oa 3)), (1, .int (nI nu)), (2, .int (nI a)), (3, .int va), (4, .int b), (5, .int vb), (6, .int w)] → W p l e ({ frames := 2, cells := 0, slots := 0, locals := 46 } : Room) s m args below meth c H locs 0 0 Q (F0 m 60 ls []) := by
    intro N60
    induction N60 with
    | zero => intro k60 hk60 hm60; exact absurd hm60 (Nat.not_lt_zero _)
    | succ N60 ih60 =>
      intro k60 hk60 hm60  H locs hP hD hS ls hl
      refine lv_iload hx hb dBo_addTerm_60 (lv_at hl 0 rfl) ?_
      refine lv_aload_n hx hb dBo_addTerm_62 rfl (lv_at hl 2 rfl) ?_
      refine va_get (D := D) (ci := 4) (v := .ref (oa 1)) (C := RBo) (T := TBo) (N := 10) hx hb hts inBo_ hown hK hP 3 rfl hcl.2.2.2.1 0 (by decide) f38 (fun _ h9 => h9) rfl dBo_addTerm_63 ?_
      refine va_get (D := D) (ci := 2) (v := .int (F 1)) (C := RSh) (T := TSh) (N := 4) hx hb hts inSh_ hown hK hP 1 rfl hcl.2.1 3 (by decide) f51 (fun _ h9 => h9) rfl dBo_addTerm_66 ?_
      refine wt_i k1 ?_
      refine lv_icmp_ge (tgt := 108) hx hb dBo_addTerm_69 (by decide) (fun c69 => ?_) (fun c69 => ?_)
      · have n69 : nD ≤ k60 := (nI_leI (a := nD) (b := k60) (by omega) (by omega)).mp c69
        have hx60 : nD = k60 := by omega
        subst hx60
        have em : mr_Bo_addTerm (G 0) (G 1) (G 2) (G 3) (G 4) (G 5) (G 6) (G 7) (G 10) nD nT nu t a va b vb w = (nI (nT + 1), (mr_Ma_put (G 2) (G 3) (G 4) (G 5) ((nu * 100) + t) (nI a) va b vb).1, (mr_Ma_put (G 2) (G 3) (G 4) (G 5) ((nu * 100) + t) (nI a) va b vb).2.1, (mr_Ma_put (G 2) (G 3) (G 4) (G 5) ((nu * 100) + t) (nI a) va b vb).2.2.1, (mr_Ma_put (G 2) (G 3) (G 4) (G 5) ((nu * 100) + t) (nI a) va b vb).2.2.2, upd (G 6) nu (nI (t + 1)), upd (G 7) ((nu * 100) + t) w, lf_Bo_addTerm_60 (G 0) (G 1) nD nT nu t a va b vb w ((mr_Ma_put (G 2) (G 3) (G 4) (G 5) ((nu * 100) + t) (nI a) va b vb).1) ((mr_Ma_put (G 2) (G 3) (G 4) (G 5) ((nu * 100) + t) (nI a) va b vb).2.1) ((mr_Ma_put (G 2) (G 3) (G 4) (G 5) ((nu * 100) + t) (nI a) va b vb).2.2.1) ((mr_Ma_put (G 2) (G 3) (G 4) (G 5) ((nu * 100) + t) (nI a) va b vb).2.2.2) (G 10) nD) := by rw [mr_Bo_addTerm]
        exact hret _ _ _ _ _ (by simp only [em]) hP hD hS dBo_addTerm_108
      · have n69 : ¬ nD ≤ k60 := fun h9 => c69 ((nI_leI (a := nD) (b := k60) (by omega) (by omega)).mpr h9)
        refine lv_aload_n hx hb dBo_addTerm_72 rfl (lv_at hl 2 rfl) ?_
        refine va_get (D := D) (ci := 4) (v := .ref (oa 2)) (C := RBo) (T := TBo) (N := 10) hx hb hts inBo_ hown hK hP 3 rfl hcl.2.2.2.1 1 (by decide) f47 (fun _ h9 => h9) rfl dBo_addTerm_73 ?_
        refine lv_iload hx hb dBo_addTerm_76 (lv_at hl 1 rfl) ?_
        refine lv_iload hx hb dBo_addTerm_78 (lv_at hl 0 rfl) ?_
        refine ro_callV (r := (.int (mr_Ma_fits (G 0) (G 1) ((mr_Ma_put (G 2) (G 3) (G 4) (G 5) ((nu * 100) + t) (nI a) va b vb).1) ((mr_Ma_put (G 2) (G 3) (G 4) (G 5) ((nu * 100) + t) (nI a) va b vb).2.1) ((mr_Ma_put (G 2) (G 3) (G 4) (G 5) ((nu * 100) + t) (nI a) va b vb).2.2.1) ((mr_Ma_put (G 2) (G 3) (G 4) (G 5) ((nu * 100) + t) (nI a) va b vb).2.2.2) ((nu * 100) + t) (nI k60)))) (As := [.int (nI ((nu * 100) + t)), .int (nI k60)]) (rest := []) Sx (c_Ma_fits l D cl hcl oa ca ck (upd F 2 (nI (nT + 1))) (va_up (va_up (va_up (va_up (va_up (va_up (va_up G 2 ((mr_Ma_put (G 2) (G 3) (G 4) (G 5) ((nu * 100) + t) (nI a) va b vb).1)) 3 ((mr_Ma_put (G 2) (G 3) (G 4) (G 5) ((nu * 100) + t) (nI a) va b vb).2.1)) 4 ((mr_Ma_put (G 2) (G 3) (G 4) (G 5) ((nu * 100) + t) (nI a) va b vb).2.2.1)) 5 ((mr_Ma_put (G 2) (G 3) (G 4) (G 5) ((nu * 100) + t) (nI a) va b vb).2.2.2)) 6 (upd (G 6) nu (nI (t + 1)))) 7 (upd (G 7) ((nu * 100) + t) w)) 10 (lf_Bo_addTerm_60 (G 0) (G 1) nD nT nu t a va b vb w ((mr_Ma_put (G 2) (G 3) (G 4) (G 5) ((nu * 100) + t) (nI a) va b vb).1) ((mr_Ma_put (G 2) (G 3) (G 4) (G 5) ((nu * 100) + t) (nI a) va b vb).2.1) ((mr_Ma_put (G 2) (G 3) (G 4) (G 5) ((nu * 100) + t) (nI a) va b vb).2.2.1) ((mr_Ma_put (G 2) (G 3) (G 4) (G 5) ((nu * 100) + t) (nI a) va b vb).2.2.2) (G 10) k60)) hP ((nu * 100) + t) (nI k60) (by omega) (⟨a, ma, pk_us⟩) (Or.imp (fun h9 => pk_us.trans h9) (fun ⟨x9, h9, e9⟩ => ⟨x9, h9, pk_us.trans e9⟩) mb)) (cwV 2 hts gBo_addTerm_Ma_fits rfl rfl rfl (by decide +kernel) ⟨Nat.le_of_ble_eq_true rfl, Nat.le_of_ble_eq_true rfl⟩) hK (va_recv hK hP (ci := 3) (q0 := 2) hcl.2.2.1 rfl) rfl hl.1 rfl (Nat.le_of_ble_eq_true rfl) dBo_addTerm_80 ⟨Nat.zero_le _, Nat.zero_le _⟩ ?_
        refine lv_if_eq (tgt := 102) hx hb dBo_addTerm_83 (by decide) (fun c83 => ?_) (fun c83 => ?_)
        · refine lv_iinc (v := nI (k60 + 1)) (lv' := [(8, .int (nI (k60 + 1))), (7, .int (nI ((nu * 100) + t))), (0, .ref (oa 3)), (1, .int (nI nu)), (2, .int (nI a)), (3, .int va), (4, .int b), (5, .int vb), (6, .int w)]) hx hb dBo_addTerm_102 hl (k := 0) rfl (by exact ii_1 k60) (by decide) rfl (fun ls hl => ?_)
          refine lv_goto (tgt := 60) hx hb dBo_addTerm_105 (by decide) ?_
          have eb60 : lf_Bo_addTerm_60 (G 0) (G 1) nD nT nu t a va b vb w ((mr_Ma_put (G 2) (G 3) (G 4) (G 5) ((nu * 100) + t) (nI a) va b vb).1) ((mr_Ma_put (G 2) (G 3) (G 4) (G 5) ((nu * 100) + t) (nI a) va b vb).2.1) ((mr_Ma_put (G 2) (G 3) (G 4) (G 5) ((nu * 100) + t) (nI a) va b vb).2.2.1) ((mr_Ma_put (G 2) (G 3) (G 4) (G 5) ((nu * 100) + t) (nI a) va b vb).2.2.2) (G 10) (k60 + 1) = lf_Bo_addTerm_60 (G 0) (G 1) nD nT nu t a va b vb w ((mr_Ma_put (G 2) (G 3) (G 4) (G 5) ((nu * 100) + t) (nI a) va b vb).1) ((mr_Ma_put (G 2) (G 3) (G 4) (G 5) ((nu * 100) + t) (nI a) va b vb).2.1) ((mr_Ma_put (G 2) (G 3) (G 4) (G 5) ((nu * 100) + t) (nI a) va b vb).2.2.1) ((mr_Ma_put (G 2) (G 3) (G 4) (G 5) ((nu * 100) + t) (nI a) va b vb).2.2.2) (G 10) k60 := by rw [lf_Bo_addTerm_60, if_pos c83]
          exact ih60 (k60 + 1) (by omega) (by omega)  H locs (by rw [eb60]; exact hP) (by rw [eb60]; exact hD) hS ls (by exact lv_sub hl [0, 1, 2, 3, 4, 5, 6, 7, 8] rfl)
        · refine lv_aload_n hx hb dBo_addTerm_86 rfl (lv_at hl 2 rfl) ?_
          refine va_get (D := D) (ci := 4) (v := .ref (ca 10)) (C := RBo) (T := TBo) (N := 10) hx hb hts inBo_ hown hK hP 3 rfl hcl.2.2.2.1 8 (by decide) f32 (fun _ h9 => h9) rfl dBo_addTerm_87 ?_
          refine lv_iload hx hb dBo_addTerm_90 (lv_at hl 0 rfl) ?_
          refine lv_iconst (v := 4) hx hb dBo_addTerm_92 (by decide) ?_
          refine lv_imul hx hb dBo_addTerm_93 ?_
          refine wt_i (r := nI (k60 * 4)) (by exact pk_mul k60 4) ?_
          refine lv_iload_n hx hb dBo_addTerm_94 rfl (lv_at hl 3 rfl) ?_
          refine lv_iadd hx hb dBo_addTerm_95 ?_
          refine wt_i (r := nI ((k60 * 4) + nu)) (by exact nI_add (k60 * 4) nu) ?_
          refine lv_dup2_11 hx hb dBo_addTerm_96 rfl rfl ?_
          have sd97 : ((k60 * 4) + nu) < 16384 := by omega
          have eg97 : (va_up (va_up (va_up (va_up (va_up (va_up (va_up G 2 ((mr_Ma_put (G 2) (G 3) (G 4) (G 5) ((nu * 100) + t) (nI a) va b vb).1)) 3 ((mr_Ma_put (G 2) (G 3) (G 4) (G 5) ((nu * 100) + t) (nI a) va b vb).2.1)) 4 ((mr_Ma_put (G 2) (G 3) (G 4) (G 5) ((nu * 100) + t) (nI a) va b vb).2.2.1)) 5 ((mr_Ma_put (G 2) (G 3) (G 4) (G 5) ((nu * 100) + t) (nI a) va b vb).2.2.2)) 6 (upd (G 6) nu (nI (t + 1)))) 7 (upd (G 7) ((nu * 100) + t) w)) 10 (lf_Bo_addTerm_60 (G 0) (G 1) nD nT nu t a va b vb w ((mr_Ma_put (G 2) (G 3) (G 4) (G 5) ((nu * 100) + t) (nI a) va b vb).1) ((mr_Ma_put (G 2) (G 3) (G 4) (G 5) ((nu * 100) + t) (nI a) va b vb).2.1) ((mr_Ma_put (G 2) (G 3) (G 4) (G 5) ((nu * 100) + t) (nI a) va b vb).2.2.1) ((mr_Ma_put (G 2) (G 3) (G 4) (G 5) ((nu * 100) + t) (nI a) va b vb).2.2.2) (G 10) k60)) 10 = lf_Bo_addTerm_60 (G 0) (G 1) nD nT nu t a va b vb w ((mr_Ma_put (G 2) (G 3) (G 4) (G 5) ((nu * 100) + t) (nI a) va b vb).1) ((mr_Ma_put (G 2) (G 3) (G 4) (G 5) ((nu * 100) + t) (nI a) va b vb).2.1) ((mr_Ma_put (G 2) (G 3) (G 4) (G 5) ((nu * 100) + t) (nI a) va b vb).2.2.1) ((mr_Ma_put (G 2) (G 3) (G 4) (G 5) ((nu * 100) + t) (nI a) va b vb).2.2.2) (G 10) k60 := by rw [vup_us]
          refine wn_iald (f := lf_Bo_addTerm_60 (G 0) (G 1) nD nT nu t a va b vb w ((mr_Ma_put (G 2) (G 3) (G 4) (G 5) ((nu * 100) + t) (nI a) va b vb).1) ((mr_Ma_put (G 2) (G 3) (G 4) (G 5) ((nu * 100) + t) (nI a) va b vb).2.1) ((mr_Ma_put (G 2) (G 3) (G 4) (G 5) ((nu * 100) + t) (nI a) va b vb).2.2.1) ((mr_Ma_put (G 2) (G 3) (G 4) (G 5) ((nu * 100) + t) (nI a) va b vb).2.2.2) (G 10) k60) hx hb hK hP 18 10 (congrArg (fun z : Nat → Int32 => (some ((ca 10), (.inl ((ck 10), 16384, .inl z) : va_E)) : Option (Nat × va_E))) eg97) rfl ((k60 * 4) + nu) rfl sd97 (by decide) dBo_addTerm_97 ?_
          refine lv_iload hx hb dBo_addTerm_98 (lv_at hl 8 rfl) ?_
          refine lv_iadd hx hb dBo_addTerm_100 ?_
          have sd101 : ((k60 * 4) + nu) < 16384 := by omega
          have eg101 : (va_up (va_up (va_up (va_up (va_up (va_up (va_up G 2 ((mr_Ma_put (G 2) (G 3) (G 4) (G 5) ((nu * 100) + t) (nI a) va b vb).1)) 3 ((mr_Ma_put (G 2) (G 3) (G 4) (G 5) ((nu * 100) + t) (nI a) va b vb).2.1)) 4 ((mr_Ma_put (G 2) (G 3) (G 4) (G 5) ((nu * 100) + t) (nI a) va b vb).2.2.1)) 5 ((mr_Ma_put (G 2) (G 3) (G 4) (G 5) ((nu * 100) + t) (nI a) va b vb).2.2.2)) 6 (upd (G 6) nu (nI (t + 1)))) 7 (upd (G 7) ((nu * 100) + t) w)) 10 (lf_Bo_addTerm_60 (G 0) (G 1) nD nT nu t a va b vb w ((mr_Ma_put (G 2) (G 3) (G 4) (G 5) ((nu * 100) + t) (nI a) va b vb).1) ((mr_Ma_put (G 2) (G 3) (G 4) (G 5) ((nu * 100) + t) (nI a) va b vb).2.1) ((mr_Ma_put (G 2) (G 3) (G 4) (G 5) ((nu * 100) + t) (nI a) va b vb).2.2.1) ((mr_Ma_put (G 2) (G 3) (G 4) (G 5) ((nu * 100) + t) (nI a) va b vb).2.2.2) (G 10) k60)) 10 = lf_Bo_addTerm_60 (G 0) (G 1) nD nT nu t a va b vb w ((mr_Ma_put (G 2) (G 3) (G 4) (G 5) ((nu * 100) + t) (nI a) va b vb).1) ((mr_Ma_put (G 2) (G 3) (G 4) (G 5) ((nu * 100) + t) (nI a) va b vb).2.1) ((mr_Ma_put (G 2) (G 3) (G 4) (G 5) ((nu * 100) + t) (nI a) va b vb).2.2.1) ((mr_Ma_put (G 2) (G 3) (G 4) (G 5) ((nu * 100) + t) (nI a) va b vb).2.2.2) (G 10) k60 := by rw [vup_us]
          refine wn_iast (f := lf_Bo_addTerm_60 (G 0) (G 1) nD nT nu t a va b vb w ((mr_Ma_put (G 2) (G 3) (G 4) (G 5) ((nu * 100) + t) (nI a) va b vb).1) ((mr_Ma_put (G 2) (G 3) (G 4) (G 5) ((nu * 100) + t) (nI a) va b vb).2.1) ((mr_Ma_put (G 2) (G 3) (G 4) (G 5) ((nu * 100) + t) (nI a) va b vb).2.2.1) ((mr_Ma_put (G 2) (G 3) (G 4) (G 5) ((nu * 100) + t) (nI a) va b vb).2.2.2) (G 10) k60) hx hb hK hP hD hS 18 10 (congrArg (fun z : Nat → Int32 => (some ((ca 10), (.inl ((ck 10), 16384, .inl z) : va_E)) : Option (Nat × va_E))) eg101) rfl ((k60 * 4) + nu) rfl sd101 (by decide) dBo_addTerm_101 (fun H locs hP hD hS => ?_)
          rw [cW_g10, vup_ow] at hP hD
          refine lv_iinc (v := nI (k60 + 1)) (lv' := [(8, .int (nI (k60 + 1))), (7, .int (nI ((nu * 100) + t))), (0, .ref (oa 3)), (1, .int (nI nu)), (2, .int (nI a)), (3, .int va), (4, .int b), (5, .int vb), (6, .int w)]) hx hb dBo_addTerm_102 hl (k := 0) rfl (by exact ii_1 k60) (by decide) rfl (fun ls hl => ?_)
          refine lv_goto (tgt := 60) hx hb dBo_addTerm_105 (by decide) ?_
          have eb60 : lf_Bo_addTerm_60 (G 0) (G 1) nD nT nu t a va b vb w ((mr_Ma_put (G 2) (G 3) (G 4) (G 5) ((nu * 100) + t) (nI a) va b vb).1) ((mr_Ma_put (G 2) (G 3) (G 4) (G 5) ((nu * 100) + t) (nI a) va b vb).2.1) ((mr_Ma_put (G 2) (G 3) (G 4) (G 5) ((nu * 100) + t) (nI a) va b vb).2.2.1) ((mr_Ma_put (G 2) (G 3) (G 4) (G 5) ((nu * 100) + t) (nI a) va b vb).2.2.2) (G 10) (k60 + 1) = upd (lf_Bo_addTerm_60 (G 0) (G 1) nD nT nu t a va b vb w ((mr_Ma_put (G 2) (G 3) (G 4) (G 5) ((nu * 100) + t) (nI a) va b vb).1) ((mr_Ma_put (G 2) (G 3) (G 4) (G 5) ((nu * 100) + t) (nI a) va b vb).2.1) ((mr_Ma_put (G 2) (G 3) (G 4) (G 5) ((nu * 100) + t) (nI a) va b vb).2.2.1) ((mr_Ma_put (G 2) (G 3) (G 4) (G 5) ((nu * 100) + t) (nI a) va b vb).2.2.2) (G 10) k60) ((k60 * 4) + nu) (((lf_Bo_addTerm_60 (G 0) (G 1) nD nT nu t a va b vb w ((mr_Ma_put (G 2) (G 3) (G 4) (G 5) ((nu * 100) + t) (nI a) va b vb).1) ((mr_Ma_put (G 2) (G 3) (G 4) (G 5) ((nu * 100) + t) (nI a) va b vb).2.1) ((mr_Ma_put (G 2) (G 3) (G 4) (G 5) ((nu * 100) + t) (nI a) va b vb).2.2.1) ((mr_Ma_put (G 2) (G 3) (G 4) (G 5) ((nu * 100) + t) (nI a) va b vb).2.2.2) (G 10) k60) ((k60 * 4) + nu)) + w) := by rw [lf_Bo_addTerm_60, if_neg c83]
          exact ih60 (k60 + 1) (by omega) (by omega)  H locs (by rw [eb60]; exact hP) (by rw [eb60]; exact hD) hS ls (by exact lv_sub hl [0, 1, 2, 3, 4, 5, 6, 7, 8] rfl)
  exact loop60 _ 0 (Nat.zero_le _) (Nat.lt_succ_self _)  H locs hP hD hS ls (lv_sub hl [0, 1, 2, 3, 4, 5, 6, 7, 8] rfl)
def lf_Bo_addRule_37 (g0 : Nat → Int32) (g1 : Nat → Int32) (nD : Nat) (nR : Nat) (a : Nat) (b : Nat) (va : Int32) (vb : Int32) (qg2_37 : Nat → Int32) (qg3_37 : Nat → Int32) (qg4_37 : Nat → Int32) (qg5_37 : Nat → Int32) (i0 : (Nat → Int32)) : Nat → (Nat → Int32)
  | 0 => i0
  | k37 + 1 => (if (mr_Ma_fits g0 g1 qg2_37 qg3_37 qg4_37 qg5_37 (400 + nR) (nI k37)) = 0 then (lf_Bo_addRule_37 g0 g1 nD nR a b va vb qg2_37 qg3_37 qg4_37 qg5_37 i0 k37) else (upd (lf_Bo_addRule_37 g0 g1 nD nR a b va vb qg2_37 qg3_37 qg4_37 qg5_37 i0 k37) k37 1))
def mr_Bo_addRule (g0 : Nat → Int32) (g1 : Nat → Int32) (g2 : Nat → Int32) (g3 : Nat → Int32) (g4 : Nat → Int32) (g5 : Nat → Int32) (g11 : Nat → Int32) (nD : Nat) (nR : Nat) (a : Nat) (b : Nat) (va : Int32) (vb : Int32) : Int32 × (Nat → Int32) × (Nat → Int32) × (Nat → Int32) × (Nat → Int32) × (Nat → Int32) := (nI (nR + 1), (mr_Ma_put g2 g3 g4 g5 (400 + nR) (nI a) va (nI b) vb).1, (mr_Ma_put g2 g3 g4 g5 (400 + nR) (nI a) va (nI b) vb).2.1, (mr_Ma_put g2 g3 g4 g5 (400 + nR) (nI a) va (nI b) vb).2.2.1, (mr_Ma_put g2 g3 g4 g5 (400 + nR) (nI a) va (nI b) vb).2.2.2, lf_Bo_addRule_37 g0 g1 nD nR a b va vb ((mr_Ma_put g2 g3 g4 g5 (400 + nR) (nI a) va (nI b) vb).1) ((mr_Ma_put g2 g3 g4 g5 (400 + nR) (nI a) va (nI b) vb).2.1) ((mr_Ma_put g2 g3 g4 g5 (400 + nR) (nI a) va (nI b) vb).2.2.1) ((mr_Ma_put g2 g3 g4 g5 (400 + nR) (nI a) va (nI b) vb).2.2.2) g11 nD)
set_option maxHeartbeats 4000000 in
set_option maxRecDepth 100000 in
theorem c_Bo_addRule (l : Launch) (D : va_G) (cl : List vw_C) (hcl : cOK cl) (oa ca : Nat → Nat) (ck : Nat → ClassId) (F : Nat → Int32) (G : Nat → Nat → Int32) {H0 : Heap} (hP : va_P D cl (cW oa ca ck F G) H0) (hD : va_D (fun _ => True) (cW oa ca ck F G)) (nD : Nat) (nR : Nat) (a : Nat) (b : Nat) (va : Int32) (vb : Int32) (k1 : F 1 = nI nD) (hN : nD ≤ 4096) (k3 : F 3 = nI nR) (hR9 : nR < 40) (ma : a < 8) (mb : b < 8) : ww_Met l yBo_addRule wsBo_addRule ({ frames := 2, cells := 0, slots := 0, locals := 46 } : Room) D cl (cT ck) H0 [.ref (oa 3), .int (nI a), .int va, .int (nI b), .int vb] (cW oa ca ck F G) none (cW oa ca ck (upd F 3 ((mr_Bo_addRule (G 0) (G 1) (G 2) (G 3) (G 4) (G 5) (G 11) nD nR a b va vb).1)) (va_up (va_up (va_up (va_up (va_up G 2 ((mr_Bo_addRule (G 0) (G 1) (G 2) (G 3) (G 4) (G 5) (G 11) nD nR a b va vb).2.1)) 3 ((mr_Bo_addRule (G 0) (G 1) (G 2) (G 3) (G 4) (G 5) (G 11) nD nR a b va vb).2.2.1)) 4 ((mr_Bo_addRule (G 0) (G 1) (G 2) (G 3) (G 4) (G 5) (G 11) nD nR a b va vb).2.2.2.1)) 5 ((mr_Bo_addRule (G 0) (G 1) (G 2) (G 3) (G 4) (G 5) (G 11) nD nR a b va vb).2.2.2.2.1)) 11 ((mr_Bo_addRule (G 0) (G 1) (G 2) (G 3) (G 4) (G 5) (G 11) nD nR a b va vb).2.2.2.2.2))) := by
  refine ww_metV (by decide) rfl (Nat.le_of_ble_eq_true rfl) hP hD ?_
  intro p e s m args below meth c Q A Sx hK hP hD hS hA ls hl hret
  obtain ⟨hx, hb, hml, hown, hts⟩ := id Sx
  have hl : lv_has ls 7 [(0, .ref (oa 3)), (1, .int (nI a)), (2, .int va), (3, .int (nI b)), (4, .int vb)] := hl
  obtain ⟨H, eH⟩ : ∃ H : Heap, H = H0 := ⟨_, rfl⟩
  obtain ⟨locs, eL⟩ : ∃ L : List Loc, L = [] := ⟨_, rfl⟩
  have hP : va_P D cl (cW oa ca ck F G) H := by rw [eH]; exact hP
  have hS : va_S A H0 H locs := by rw [eH, eL]; exact hS
  rw [show W p l e ({ frames := 2, cells := 0, slots := 0, locals := 46 } : Room) s m args below meth c H0 [] 0 0 Q (F0 m 0 ls []) = W p l e ({ frames := 2, cells := 0, slots := 0, locals := 46 } : Room) s m args below meth c H locs 0 0 Q (F0 m 0 ls []) by rw [eH, eL]]
  clear eH eL
  have f22 := hts _ (List.mem_cons_of_mem _ mfBo_22)
  have inBo_ : ∀ w ∈ wsBo0, w ∈ wsBo_addRule := fun w h => List.mem_cons_of_mem _ (inBo_all w h)
  have f47 := hts _ (List.mem_cons_of_mem _ mfBo_47)
  have f38 := hts _ (List.mem_cons_of_mem _ mfBo_38)
  have f51 := hts _ (List.mem_cons_of_mem _ mfBo_51)
  have inSh_ : ∀ w ∈ wsSh0, w ∈ wsBo_addRule := fun w h => List.mem_cons_of_mem _ (inSh_all w h)
  have f35 := hts _ (List.mem_cons_of_mem _ mfBo_35)
  refine lv_sipush (v := 400) hx hb dBo_addRule_0 (by decide) ?_
  refine lv_aload_n hx hb dBo_addRule_3 rfl (lv_at hl 0 rfl) ?_
  refine va_get (D := D) (ci := 4) (v := .int (F 3)) (C := RBo) (T := TBo) (N := 10) hx hb hts inBo_ hown hK hP 3 rfl hcl.2.2.2.1 5 (by decide) f22 (fun _ h9 => h9) rfl dBo_addRule_4 ?_
  refine wt_i k3 ?_
  refine lv_iadd hx hb dBo_addRule_7 ?_
  refine wt_i (r := nI (400 + nR)) (by exact nI_add 400 nR) ?_
  refine lv_istore (lv' := [(5, .int (nI (400 + nR))), (0, .ref (oa 3)), (1, .int (nI a)), (2, .int va), (3, .int (nI b)), (4, .int vb)]) hx hb dBo_addRule_8 hl (by decide) rfl (fun ls hl => ?_)
  refine lv_aload_n hx hb dBo_addRule_10 rfl (lv_at hl 1 rfl) ?_
  refine va_get (D := D) (ci := 4) (v := .ref (oa 2)) (C := RBo) (T := TBo) (N := 10) hx hb hts inBo_ hown hK hP 3 rfl hcl.2.2.2.1 1 (by decide) f47 (fun _ h9 => h9) rfl dBo_addRule_11 ?_
  refine lv_iload hx hb dBo_addRule_14 (lv_at hl 0 rfl) ?_
  refine lv_iload_n hx hb dBo_addRule_16 rfl (lv_at hl 2 rfl) ?_
  refine lv_iload_n hx hb dBo_addRule_17 rfl (lv_at hl 3 rfl) ?_
  refine lv_iload_n hx hb dBo_addRule_18 rfl (lv_at hl 4 rfl) ?_
  refine lv_iload hx hb dBo_addRule_19 (lv_at hl 5 rfl) ?_
  refine ww_callV (r := none) (w' := cW oa ca ck F (va_up (va_up (va_up (va_up G 2 ((mr_Ma_put (G 2) (G 3) (G 4) (G 5) (400 + nR) (nI a) va (nI b) vb).1)) 3 ((mr_Ma_put (G 2) (G 3) (G 4) (G 5) (400 + nR) (nI a) va (nI b) vb).2.1)) 4 ((mr_Ma_put (G 2) (G 3) (G 4) (G 5) (400 + nR) (nI a) va (nI b) vb).2.2.1)) 5 ((mr_Ma_put (G 2) (G 3) (G 4) (G 5) (400 + nR) (nI a) va (nI b) vb).2.2.2))) (As := [.int (nI (400 + nR)), .int (nI a), .int va, .int (nI b), .int vb]) (rest := []) Sx (c_Ma_put l D cl hcl oa ca ck F G hP (hD.weaken (fun _ _ _ _ => trivial)) (400 + nR) (nI a) va (nI b) vb (by omega)) (cwV 5 hts gBo_addRule_Ma_put rfl rfl rfl (by decide +kernel) ⟨Nat.le_of_ble_eq_true rfl, Nat.le_of_ble_eq_true rfl⟩) hK (va_recv hK hP (ci := 3) (q0 := 2) hcl.2.2.1 rfl) rfl hl.1 rfl (Nat.le_of_ble_eq_true rfl) dBo_addRule_21 ⟨Nat.zero_le _, Nat.zero_le _⟩ hD hS hA (fun H locs hP hD hS => ?_)
  refine lv_aload_n hx hb dBo_addRule_24 rfl (lv_at hl 1 rfl) ?_
  refine lv_dup hx hb dBo_addRule_25 rfl ?_
  refine va_get (D := D) (ci := 4) (v := .int (F 3)) (C := RBo) (T := TBo) (N := 10) hx hb hts inBo_ hown hK hP 3 rfl hcl.2.2.2.1 5 (by decide) f22 (fun _ h9 => h9) rfl dBo_addRule_26 ?_
  refine wt_i k3 ?_
  refine lv_iconst (v := 1) hx hb dBo_addRule_29 (by decide) ?_
  refine lv_iadd hx hb dBo_addRule_30 ?_
  refine wt_i (r := nI (nR + 1)) (by exact nI_add nR 1) ?_
  refine va_put (D := D) (ci := 4) (fs := cWl3 oa ca F) (v := .int (nI (nR + 1))) (ty := .int) (C := RBo) (T := TBo) (N := 10) hx hb hts inBo_ tyBo tyBo_ok nmBo hown hK hP hD hS 3 rfl hcl.2.2.2.1 5 (by decide) f22 (fun _ h9 => h9) rfl (by decide +kernel) rfl rfl (Nat.le_of_ble_eq_true rfl) dBo_addRule_31 (fun H locs hP hD hS => ?_)
  rw [cW_f3] at hP hD
  refine lv_iconst (v := 0) hx hb dBo_addRule_34 (by decide) ?_
  refine lv_istore (lv' := [(6, .int 0), (5, .int (nI (400 + nR))), (0, .ref (oa 3)), (1, .int (nI a)), (2, .int va), (3, .int (nI b)), (4, .int vb)]) hx hb dBo_addRule_35 hl (by decide) rfl (fun ls hl => ?_)
  have loop37 : ∀ (N37 k37 : Nat), k37 ≤ nD → nD - k37 < N37 → ∀ (H : Heap) (locs : List Loc), va_P D cl (cW oa ca ck (upd F 3 (nI (nR + 1))) (va_up (va_up (va_up (va_up (va_up G 2 ((mr_Ma_put (G 2) (G 3) (G 4) (G 5) (400 + nR) (nI a) va (nI b) vb).1)) 3 ((mr_Ma_put (G 2) (G 3) (G 4) (G 5) (400 + nR) (nI a) va (nI b) vb).2.1)) 4 ((mr_Ma_put (G 2) (G 3) (G 4) (G 5) (400 + nR) (nI a) va (nI b) vb).2.2.1)) 5 ((mr_Ma_put (G 2) (G 3) (G 4) (G 5) (400 + nR) (nI a) va (nI b) vb).2.2.2)) 11 (lf_Bo_addRule_37 (G 0) (G 1) nD nR a b va vb ((mr_Ma_put (G 2) (G 3) (G 4) (G 5) (400 + nR) (nI a) va (nI b) vb).1) ((mr_Ma_put (G 2) (G 3) (G 4) (G 5) (400 + nR) (nI a) va (nI b) vb).2.1) ((mr_Ma_put (G 2) (G 3) (G 4) (G 5) (400 + nR) (nI a) va (nI b) vb).2.2.1) ((mr_Ma_put (G 2) (G 3) (G 4) (G 5) (400 + nR) (nI a) va (nI b) vb).2.2.2) (G 11) k37))) H → va_D A (cW oa ca ck (upd F 3 (nI (nR + 1))) (va_up (va_up (va_up (va_up (va_up G 2 ((mr_Ma_put (G 2) (G 3) (G 4) (G 5) (400 + nR) (nI a) va (nI b) vb).1)) 3 ((mr_Ma_put (G 2) (G 3) (G 4) (G 5) (400 + nR) (nI a) va (nI b) vb).2.1)) 4 ((mr_Ma_put (G 2) (G 3) (G 4) (G 5) (400 + nR) (nI a) va (nI b) vb).2.2.1)) 5 ((mr_Ma_put (G 2) (G 3) (G 4) (G 5) (400 + nR) (nI a) va (nI b) vb).2.2.2)) 11 (lf_Bo_addRule_37 (G 0) (G 1) nD nR a b va vb ((mr_Ma_put (G 2) (G 3) (G 4) (G 5) (400 + nR) (nI a) va (nI b) vb).1) ((mr_Ma_put (G 2) (G 3) (G 4) (G 5) (400 + nR) (nI a) va (nI b) vb).2.1) ((mr_Ma_put (G 2) (G 3) (G 4) (G 5) (400 + nR) (nI a) va (nI b) vb).2.2.1) ((mr_Ma_put (G 2) (G 3) (G 4) (G 5) (400 + nR) (nI a) va (nI b) vb).2.2.2) (G 11) k37))) → va_S A H0 H locs → ∀ (ls : Array Slot), lv_has ls 7 [(6, .int (nI k37)), (5, .int (nI (400 + nR))), (0, .ref (oa 3)), (1, .int (nI a)), (2, .int va), (3, .int (nI b)), (4, .int vb)] → W p l e ({ frames := 2, cells := 0, slots := 0, locals := 46 } : Room) s m args below meth c H locs 0 0 Q (F0 m 37 ls []) := by
    intro N37
    induction N37 with
    | zero => intro k37 hk37 hm37; exact absurd hm37 (Nat.not_lt_zero _)
    | succ N37 ih37 =>
      intro k37 hk37 hm37  H locs hP hD hS ls hl
      refine lv_iload hx hb dBo_addRule_37 (lv_at hl 0 rfl) ?_
      refine lv_aload_n hx hb dBo_addRule_39 rfl (lv_at hl 2 rfl) ?_
      refine va_get (D := D) (ci := 4) (v := .ref (oa 1)) (C := RBo) (T := TBo) (N := 10) hx hb hts inBo_ hown hK hP 3 rfl hcl.2.2.2.1 0 (by decide) f38 (fun _ h9 => h9) rfl dBo_addRule_40 ?_
      refine va_get (D := D) (ci := 2) (v := .int (F 1)) (C := RSh) (T := TSh) (N := 4) hx hb hts inSh_ hown hK hP 1 rfl hcl.2.1 3 (by decide) f51 (fun _ h9 => h9) rfl dBo_addRule_43 ?_
      refine wt_i k1 ?_
      refine lv_icmp_ge (tgt := 77) hx hb dBo_addRule_46 (by decide) (fun c46 => ?_) (fun c46 => ?_)
      · have n46 : nD ≤ k37 := (nI_leI (a := nD) (b := k37) (by omega) (by omega)).mp c46
        have hx37 : nD = k37 := by omega
        subst hx37
        have em : mr_Bo_addRule (G 0) (G 1) (G 2) (G 3) (G 4) (G 5) (G 11) nD nR a b va vb = (nI (nR + 1), (mr_Ma_put (G 2) (G 3) (G 4) (G 5) (400 + nR) (nI a) va (nI b) vb).1, (mr_Ma_put (G 2) (G 3) (G 4) (G 5) (400 + nR) (nI a) va (nI b) vb).2.1, (mr_Ma_put (G 2) (G 3) (G 4) (G 5) (400 + nR) (nI a) va (nI b) vb).2.2.1, (mr_Ma_put (G 2) (G 3) (G 4) (G 5) (400 + nR) (nI a) va (nI b) vb).2.2.2, lf_Bo_addRule_37 (G 0) (G 1) nD nR a b va vb ((mr_Ma_put (G 2) (G 3) (G 4) (G 5) (400 + nR) (nI a) va (nI b) vb).1) ((mr_Ma_put (G 2) (G 3) (G 4) (G 5) (400 + nR) (nI a) va (nI b) vb).2.1) ((mr_Ma_put (G 2) (G 3) (G 4) (G 5) (400 + nR) (nI a) va (nI b) vb).2.2.1) ((mr_Ma_put (G 2) (G 3) (G 4) (G 5) (400 + nR) (nI a) va (nI b) vb).2.2.2) (G 11) nD) := by rw [mr_Bo_addRule]
        exact hret _ _ _ _ _ (by simp only [em]) hP hD hS dBo_addRule_77
      · have n46 : ¬ nD ≤ k37 := fun h9 => c46 ((nI_leI (a := nD) (b := k37) (by omega) (by omega)).mpr h9)
        refine lv_aload_n hx hb dBo_addRule_49 rfl (lv_at hl 2 rfl) ?_
        refine va_get (D := D) (ci := 4) (v := .ref (oa 2)) (C := RBo) (T := TBo) (N := 10) hx hb hts inBo_ hown hK hP 3 rfl hcl.2.2.2.1 1 (by decide) f47 (fun _ h9 => h9) rfl dBo_addRule_50 ?_
        refine lv_iload hx hb dBo_addRule_53 (lv_at hl 1 rfl) ?_
        refine lv_iload hx hb dBo_addRule_55 (lv_at hl 0 rfl) ?_
        refine ro_callV (r := (.int (mr_Ma_fits (G 0) (G 1) ((mr_Ma_put (G 2) (G 3) (G 4) (G 5) (400 + nR) (nI a) va (nI b) vb).1) ((mr_Ma_put (G 2) (G 3) (G 4) (G 5) (400 + nR) (nI a) va (nI b) vb).2.1) ((mr_Ma_put (G 2) (G 3) (G 4) (G 5) (400 + nR) (nI a) va (nI b) vb).2.2.1) ((mr_Ma_put (G 2) (G 3) (G 4) (G 5) (400 + nR) (nI a) va (nI b) vb).2.2.2) (400 + nR) (nI k37)))) (As := [.int (nI (400 + nR)), .int (nI k37)]) (rest := []) Sx (c_Ma_fits l D cl hcl oa ca ck (upd F 3 (nI (nR + 1))) (va_up (va_up (va_up (va_up (va_up G 2 ((mr_Ma_put (G 2) (G 3) (G 4) (G 5) (400 + nR) (nI a) va (nI b) vb).1)) 3 ((mr_Ma_put (G 2) (G 3) (G 4) (G 5) (400 + nR) (nI a) va (nI b) vb).2.1)) 4 ((mr_Ma_put (G 2) (G 3) (G 4) (G 5) (400 + nR) (nI a) va (nI b) vb).2.2.1)) 5 ((mr_Ma_put (G 2) (G 3) (G 4) (G 5) (400 + nR) (nI a) va (nI b) vb).2.2.2)) 11 (lf_Bo_addRule_37 (G 0) (G 1) nD nR a b va vb ((mr_Ma_put (G 2) (G 3) (G 4) (G 5) (400 + nR) (nI a) va (nI b) vb).1) ((mr_Ma_put (G 2) (G 3) (G 4) (G 5) (400 + nR) (nI a) va (nI b) vb).2.1) ((mr_Ma_put (G 2) (G 3) (G 4) (G 5) (400 + nR) (nI a) va (nI b) vb).2.2.1) ((mr_Ma_put (G 2) (G 3) (G 4) (G 5) (400 + nR) (nI a) va (nI b) vb).2.2.2) (G 11) k37)) hP (400 + nR) (nI k37) (by omega) (⟨a, ma, pk_us⟩) (Or.inr ⟨b, mb, pk_us⟩)) (cwV 2 hts gBo_addRule_Ma_fits rfl rfl rfl (by decide +kernel) ⟨Nat.le_of_ble_eq_true rfl, Nat.le_of_ble_eq_true rfl⟩) hK (va_recv hK hP (ci := 3) (q0 := 2) hcl.2.2.1 rfl) rfl hl.1 rfl (Nat.le_of_ble_eq_true rfl) dBo_addRule_57 ⟨Nat.zero_le _, Nat.zero_le _⟩ ?_
        refine lv_if_eq (tgt := 71) hx hb dBo_addRule_60 (by decide) (fun c60 => ?_) (fun c60 => ?_)
        · refine lv_iinc (v := nI (k37 + 1)) (lv' := [(6, .int (nI (k37 + 1))), (5, .int (nI (400 + nR))), (0, .ref (oa 3)), (1, .int (nI a)), (2, .int va), (3, .int (nI b)), (4, .int vb)]) hx hb dBo_addRule_71 hl (k := 0) rfl (by exact ii_1 k37) (by decide) rfl (fun ls hl => ?_)
          refine lv_goto (tgt := 37) hx hb dBo_addRule_74 (by decide) ?_
          have eb37 : lf_Bo_addRule_37 (G 0) (G 1) nD nR a b va vb ((mr_Ma_put (G 2) (G 3) (G 4) (G 5) (400 + nR) (nI a) va (nI b) vb).1) ((mr_Ma_put (G 2) (G 3) (G 4) (G 5) (400 + nR) (nI a) va (nI b) vb).2.1) ((mr_Ma_put (G 2) (G 3) (G 4) (G 5) (400 + nR) (nI a) va (nI b) vb).2.2.1) ((mr_Ma_put (G 2) (G 3) (G 4) (G 5) (400 + nR) (nI a) va (nI b) vb).2.2.2) (G 11) (k37 + 1) = lf_Bo_addRule_37 (G 0) (G 1) nD nR a b va vb ((mr_Ma_put (G 2) (G 3) (G 4) (G 5) (400 + nR) (nI a) va (nI b) vb).1) ((mr_Ma_put (G 2) (G 3) (G 4) (G 5) (400 + nR) (nI a) va (nI b) vb).2.1) ((mr_Ma_put (G 2) (G 3) (G 4) (G 5) (400 + nR) (nI a) va (nI b) vb).2.2.1) ((mr_Ma_put (G 2) (G 3) (G 4) (G 5) (400 + nR) (nI a) va (nI b) vb).2.2.2) (G 11) k37 := by rw [lf_Bo_addRule_37, if_pos c60]
          exact ih37 (k37 + 1) (by omega) (by omega)  H locs (by rw [eb37]; exact hP) (by rw [eb37]; exact hD) hS ls (by exact lv_sub hl [0, 1, 2, 3, 4, 5, 6] rfl)
        · refine lv_aload_n hx hb dBo_addRule_63 rfl (lv_at hl 2 rfl) ?_
          refine va_get (D := D) (ci := 4) (v := .ref (ca 11)) (C := RBo) (T := TBo) (N := 10) hx hb hts inBo_ hown hK hP 3 rfl hcl.2.2.2.1 9 (by decide) f35 (fun _ h9 => h9) rfl dBo_addRule_64 ?_
          refine lv_iload hx hb dBo_addRule_67 (lv_at hl 0 rfl) ?_
          refine lv_iconst (v := 1) hx hb dBo_addRule_69 (by decide) ?_
          have sd70 : k37 < 4096 := by omega
          have eg70 : (va_up (va_up (va_up (va_up (va_up G 2 ((mr_Ma_put (G 2) (G 3) (G 4) (G 5) (400 + nR) (nI a) va (nI b) vb).1)) 3 ((mr_Ma_put (G 2) (G 3) (G 4) (G 5) (400 + nR) (nI a) va (nI b) vb).2.1)) 4 ((mr_Ma_put (G 2) (G 3) (G 4) (G 5) (400 + nR) (nI a) va (nI b) vb).2.2.1)) 5 ((mr_Ma_put (G 2) (G 3) (G 4) (G 5) (400 + nR) (nI a) va (nI b) vb).2.2.2)) 11 (lf_Bo_addRule_37 (G 0) (G 1) nD nR a b va vb ((mr_Ma_put (G 2) (G 3) (G 4) (G 5) (400 + nR) (nI a) va (nI b) vb).1) ((mr_Ma_put (G 2) (G 3) (G 4) (G 5) (400 + nR) (nI a) va (nI b) vb).2.1) ((mr_Ma_put (G 2) (G 3) (G 4) (G 5) (400 + nR) (nI a) va (nI b) vb).2.2.1) ((mr_Ma_put (G 2) (G 3) (G 4) (G 5) (400 + nR) (nI a) va (nI b) vb).2.2.2) (G 11) k37)) 11 = lf_Bo_addRule_37 (G 0) (G 1) nD nR a b va vb ((mr_Ma_put (G 2) (G 3) (G 4) (G 5) (400 + nR) (nI a) va (nI b) vb).1) ((mr_Ma_put (G 2) (G 3) (G 4) (G 5) (400 + nR) (nI a) va (nI b) vb).2.1) ((mr_Ma_put (G 2) (G 3) (G 4) (G 5) (400 + nR) (nI a) va (nI b) vb).2.2.1) ((mr_Ma_put (G 2) (G 3) (G 4) (G 5) (400 + nR) (nI a) va (nI b) vb).2.2.2) (G 11) k37 := by rw [vup_us]
          refine wn_zast (f := lf_Bo_addRule_37 (G 0) (G 1) nD nR a b va vb ((mr_Ma_put (G 2) (G 3) (G 4) (G 5) (400 + nR) (nI a) va (nI b) vb).1) ((mr_Ma_put (G 2) (G 3) (G 4) (G 5) (400 + nR) (nI a) va (nI b) vb).2.1) ((mr_Ma_put (G 2) (G 3) (G 4) (G 5) (400 + nR) (nI a) va (nI b) vb).2.2.1) ((mr_Ma_put (G 2) (G 3) (G 4) (G 5) (400 + nR) (nI a) va (nI b) vb).2.2.2) (G 11) k37) hx hb hK hP hD hS 19 11 (congrArg (fun z : Nat → Int32 => (some ((ca 11), (.inl ((ck 11), 4096, .inl z) : va_E)) : Option (Nat × va_E))) eg70) rfl k37 rfl sd70 (by decide) (by exact vb_1) dBo_addRule_70 (fun H locs hP hD hS => ?_)
          rw [cW_g11, vup_ow] at hP hD
          refine lv_iinc (v := nI (k37 + 1)) (lv' := [(6, .int (nI (k37 + 1))), (5, .int (nI (400 + nR))), (0, .ref (oa 3)), (1, .int (nI a)), (2, .int va), (3, .int (nI b)), (4, .int vb)]) hx hb dBo_addRule_71 hl (k := 0) rfl (by exact ii_1 k37) (by decide) rfl (fun ls hl => ?_)
          refine lv_goto (tgt := 37) hx hb dBo_addRule_74 (by decide) ?_
          have eb37 : lf_Bo_addRule_37 (G 0) (G 1) nD nR a b va vb ((mr_Ma_put (G 2) (G 3) (G 4) (G 5) (400 + nR) (nI a) va (nI b) vb).1) ((mr_Ma_put (G 2) (G 3) (G 4) (G 5) (400 + nR) (nI a) va (nI b) vb).2.1) ((mr_Ma_put (G 2) (G 3) (G 4) (G 5) (400 + nR) (nI a) va (nI b) vb).2.2.1) ((mr_Ma_put (G 2) (G 3) (G 4) (G 5) (400 + nR) (nI a) va (nI b) vb).2.2.2) (G 11) (k37 + 1) = upd (lf_Bo_addRule_37 (G 0) (G 1) nD nR a b va vb ((mr_Ma_put (G 2) (G 3) (G 4) (G 5) (400 + nR) (nI a) va (nI b) vb).1) ((mr_Ma_put (G 2) (G 3) (G 4) (G 5) (400 + nR) (nI a) va (nI b) vb).2.1) ((mr_Ma_put (G 2) (G 3) (G 4) (G 5) (400 + nR) (nI a) va (nI b) vb).2.2.1) ((mr_Ma_put (G 2) (G 3) (G 4) (G 5) (400 + nR) (nI a) va (nI b) vb).2.2.2) (G 11) k37) k37 1 := by rw [lf_Bo_addRule_37, if_neg c60]
          exact ih37 (k37 + 1) (by omega) (by omega)  H locs (by rw [eb37]; exact hP) (by rw [eb37]; exact hD) hS ls (by exact lv_sub hl [0, 1, 2, 3, 4, 5, 6] rfl)
  exact loop37 _ 0 (Nat.zero_le _) (Nat.lt_succ_self _)  H locs hP hD hS ls (lv_sub hl [0, 1, 2, 3, 4, 5, 6] rfl)
def lf_Bo_limitsOn_4 (g8 : Nat → Int32) (i0 : Int32) : Nat → Int32
  | 0 => i0
  | k4 + 1 => (if (g8 k4) = 0 then (lf_Bo_limitsOn_4 g8 i0 k4) else ((lf_Bo_limitsOn_4 g8 i0 k4) + 1))
def mr_Bo_limitsOn (g8 : Nat → Int32) : Int32 := (lf_Bo_limitsOn_4 g8 0 4)
set_option maxHeartbeats 4000000 in
set_option maxRecDepth 100000 in
theorem c_Bo_limitsOn (l : Launch) (D : va_G) (cl : List vw_C) (hcl : cOK cl) (oa ca : Nat → Nat) (ck : Nat → ClassId) (F : Nat → Int32) (G : Nat → Nat → Int32) {H : Heap} (hP : va_P D cl (cW oa ca ck F G) H) : ro_Met l yBo_limitsOn wsBo_limitsOn ({ frames := 0, cells := 0, slots := 0, locals := 0 } : Room) D cl (cT ck) H [.ref (oa 3)] (.int (mr_Bo_limitsOn (G 8))) := by
  refine ro_metI (by decide) rfl (Nat.le_of_ble_eq_true rfl) ?_
  intro p e s m args below meth c Q Sx hK ls hl hret
  obtain ⟨hx, hb, hml, hown, hts⟩ := id Sx
  have hl : lv_has ls 3 [(0, .ref (oa 3))] := hl
  have f25 := hts _ (List.mem_cons_of_mem _ mfBo_25)
  have inBo_ : ∀ w ∈ wsBo0, w ∈ wsBo_limitsOn := fun w h => List.mem_cons_of_mem _ (inBo_all w h)
  refine lv_iconst (v := 0) hx hb dBo_limitsOn_0 (by decide) ?_
  refine lv_istore_n (lv' := [(1, .int 0), (0, .ref (oa 3))]) hx hb dBo_limitsOn_1 rfl hl (by decide) rfl (fun ls hl => ?_)
  refine lv_iconst (v := 0) hx hb dBo_limitsOn_2 (by decide) ?_
  refine lv_istore_n (lv' := [(2, .int 0), (1, .int 0), (0, .ref (oa 3))]) hx hb dBo_limitsOn_3 rfl hl (by decide) rfl (fun ls hl => ?_)
  have loop4 : ∀ (N4 k4 : Nat), k4 ≤ 4 → 4 - k4 < N4 → ∀ (ls : Array Slot), lv_has ls 3 [(2, .int (nI k4)), (1, .int (lf_Bo_limitsOn_4 (G 8) 0 k4)), (0, .ref (oa 3))] → W p l e ({ frames := 0, cells := 0, slots := 0, locals := 0 } : Room) s m args below meth c H [] 0 0 Q (F0 m 4 ls []) := by
    intro N4
    induction N4 with
    | zero => intro k4 hk4 hm4; exact absurd hm4 (Nat.not_lt_zero _)
    | succ N4 ih4 =>
      intro k4 hk4 hm4  ls hl
      refine lv_iload_n hx hb dBo_limitsOn_4 rfl (lv_at hl 0 rfl) ?_
      refine lv_iconst (v := 4) hx hb dBo_limitsOn_5 (by decide) ?_
      refine lv_icmp_ge (tgt := 27) hx hb dBo_limitsOn_6 (by decide) (fun c6 => ?_) (fun c6 => ?_)
      · have n6 : 4 ≤ k4 := (nI_leI (a := 4) (b := k4) (by omega) (by omega)).mp c6
        have hx4 : 4 = k4 := by omega
        subst hx4
        refine lv_iload_n hx hb dBo_limitsOn_27 rfl (lv_at hl 1 rfl) ?_
        exact hret _ _ _ (by rw [mr_Bo_limitsOn]) dBo_limitsOn_28
      · have n6 : ¬ 4 ≤ k4 := fun h9 => c6 ((nI_leI (a := 4) (b := k4) (by omega) (by omega)).mpr h9)
        refine lv_aload_n hx hb dBo_limitsOn_9 rfl (lv_at hl 2 rfl) ?_
        refine va_get (D := D) (ci := 4) (v := .ref (ca 8)) (C := RBo) (T := TBo) (N := 10) hx hb hts inBo_ hown hK hP 3 rfl hcl.2.2.2.1 6 (by decide) f25 (fun _ h9 => h9) rfl dBo_limitsOn_10 ?_
        refine lv_iload_n hx hb dBo_limitsOn_13 rfl (lv_at hl 0 rfl) ?_
        have sd14 : k4 < 4 := by omega
        refine wn_zald (f := G 8) hx hb hK hP 16 8 rfl rfl k4 rfl sd14 (by decide) dBo_limitsOn_14 ?_
        refine lv_if_eq (tgt := 21) hx hb dBo_limitsOn_15 (by decide) (fun c15 => ?_) (fun c15 => ?_)
        · refine lv_iinc (v := nI (k4 + 1)) (lv' := [(2, .int (nI (k4 + 1))), (1, .int (lf_Bo_limitsOn_4 (G 8) 0 k4)), (0, .ref (oa 3))]) hx hb dBo_limitsOn_21 hl (k := 0) rfl (by exact ii_1 k4) (by decide) rfl (fun ls hl => ?_)
          refine lv_goto (tgt := 4) hx hb dBo_limitsOn_24 (by decide) ?_
          have eb4 : lf_Bo_limitsOn_4 (G 8) 0 (k4 + 1) = lf_Bo_limitsOn_4 (G 8) 0 k4 := by rw [lf_Bo_limitsOn_4, if_pos c15]
          exact ih4 (k4 + 1) (by omega) (by omega)  ls (by rw [eb4]; exact lv_sub hl [0, 1, 2] rfl)
        · refine lv_iinc (v := (lf_Bo_limitsOn_4 (G 8) 0 k4) + 1) (lv' := [(1, .int ((lf_Bo_limitsOn_4 (G 8) 0 k4) + 1)), (2, .int (nI k4)), (0, .ref (oa 3))]) hx hb dBo_limitsOn_18 hl (k := 1) rfl (by exact ii_x _) (by decide) rfl (fun ls hl => ?_)
          refine lv_iinc (v := nI (k4 + 1)) (lv' := [(2, .int (nI (k4 + 1))), (1, .int ((lf_Bo_limitsOn_4 (G 8) 0 k4) + 1)), (0, .ref (oa 3))]) hx hb dBo_limitsOn_21 hl (k := 1) rfl (by exact ii_1 k4) (by decide) rfl (fun ls hl => ?_)
          refine lv_goto (tgt := 4) hx hb dBo_limitsOn_24 (by decide) ?_
          have eb4 : lf_Bo_limitsOn_4 (G 8) 0 (k4 + 1) = (lf_Bo_limitsOn_4 (G 8) 0 k4) + 1 := by rw [lf_Bo_limitsOn_4, if_neg c15]
          exact ih4 (k4 + 1) (by omega) (by omega)  ls (by rw [eb4]; exact lv_sub hl [0, 1, 2] rfl)
  exact loop4 _ 0 (Nat.zero_le _) (Nat.lt_succ_self _)  ls (lv_sub hl [0, 1, 2] rfl)
def mr_Bo_sumOf (g10 : Nat → Int32) (d : Nat) (n : Nat) : Int32 := (g10 ((d * 4) + n))
set_option maxHeartbeats 4000000 in
set_option maxRecDepth 100000 in
theorem c_Bo_sumOf (l : Launch) (D : va_G) (cl : List vw_C) (hcl : cOK cl) (oa ca : Nat → Nat) (ck : Nat → ClassId) (F : Nat → Int32) (G : Nat → Nat → Int32) {H : Heap} (hP : va_P D cl (cW oa ca ck F G) H) (d : Nat) (n : Nat) (hd : d < 4096) (hn : n < 4) : ro_Met l yBo_sumOf wsBo_sumOf ({ frames := 0, cells := 0, slots := 0, locals := 0 } : Room) D cl (cT ck) H [.ref (oa 3), .int (nI d), .int (nI n)] (.int (mr_Bo_sumOf (G 10) d n)) := by
  refine ro_metI (by decide) rfl (Nat.le_of_ble_eq_true rfl) ?_
  intro p e s m args below meth c Q Sx hK ls hl hret
  obtain ⟨hx, hb, hml, hown, hts⟩ := id Sx
  have hl : lv_has ls 3 [(0, .ref (oa 3)), (1, .int (nI d)), (2, .int (nI n))] := hl
  have f32 := hts _ (List.mem_cons_of_mem _ mfBo_32)
  have inBo_ : ∀ w ∈ wsBo0, w ∈ wsBo_sumOf := fun w h => List.mem_cons_of_mem _ (inBo_all w h)
  refine lv_aload_n hx hb dBo_sumOf_0 rfl (lv_at hl 0 rfl) ?_
  refine va_get (D := D) (ci := 4) (v := .ref (ca 10)) (C := RBo) (T := TBo) (N := 10) hx hb hts inBo_ hown hK hP 3 rfl hcl.2.2.2.1 8 (by decide) f32 (fun _ h9 => h9) rfl dBo_sumOf_1 ?_
  refine lv_iload_n hx hb dBo_sumOf_4 rfl (lv_at hl 1 rfl) ?_
  refine lv_iconst (v := 4) hx hb dBo_sumOf_5 (by decide) ?_
  refine lv_imul hx hb dBo_sumOf_6 ?_
  refine wt_i (r := nI (d * 4)) (by exact pk_mul d 4) ?_
  refine lv_iload_n hx hb dBo_sumOf_7 rfl (lv_at hl 2 rfl) ?_
  refine lv_iadd hx hb dBo_sumOf_8 ?_
  refine wt_i (r := nI ((d * 4) + n)) (by exact nI_add (d * 4) n) ?_
  have sd9 : ((d * 4) + n) < 16384 := by omega
  refine wn_iald (f := G 10) hx hb hK hP 18 10 rfl rfl ((d * 4) + n) rfl sd9 (by decide) dBo_sumOf_9 ?_
  exact hret _ _ _ (by rw [mr_Bo_sumOf]) dBo_sumOf_10
def lf_Bo_costOf_5 (g10 : Nat → Int32) (d : Nat) (i0 : Int64) : Nat → Int64
  | 0 => i0
  | k5 + 1 => ((lf_Bo_costOf_5 g10 d i0 k5) + ((mr_Bo_sumOf g10 d k5).toInt64))
def mr_Bo_costOf (g10 : Nat → Int32) (d : Nat) : Int64 := (lf_Bo_costOf_5 g10 d 0 4)
set_option maxHeartbeats 4000000 in
set_option maxRecDepth 100000 in
theorem c_Bo_costOf (l : Launch) (D : va_G) (cl : List vw_C) (hcl : cOK cl) (oa ca : Nat → Nat) (ck : Nat → ClassId) (F : Nat → Int32) (G : Nat → Nat → Int32) {H : Heap} (hP : va_P D cl (cW oa ca ck F G) H) (d : Nat) (hd : d < 4096) : ro_Met l yBo_costOf wsBo_costOf ({ frames := 1, cells := 0, slots := 0, locals := 22 } : Room) D cl (cT ck) H [.ref (oa 3), .int (nI d)] (.long (mr_Bo_costOf (G 10) d)) := by
  refine ro_metJ (by decide) rfl (Nat.le_of_ble_eq_true rfl) ?_
  intro p e s m args below meth c Q Sx hK ls hl hret
  obtain ⟨hx, hb, hml, hown, hts⟩ := id Sx
  have hl : lv_has ls 5 [(0, .ref (oa 3)), (1, .int (nI d))] := hl
  refine lv_lconst (v := 0) hx hb dBo_costOf_0 (by decide) ?_
  refine lv_lstore_n (lv' := [(2, .long 0), (0, .ref (oa 3)), (1, .int (nI d))]) hx hb dBo_costOf_1 rfl hl (by decide) rfl (fun ls hl => ?_)
  refine lv_iconst (v := 0) hx hb dBo_costOf_2 (by decide) ?_
  refine lv_istore (lv' := [(4, .int 0), (2, .long 0), (0, .ref (oa 3)), (1, .int (nI d))]) hx hb dBo_costOf_3 hl (by decide) rfl (fun ls hl => ?_)
  have loop5 : ∀ (N5 k5 : Nat), k5 ≤ 4 → 4 - k5 < N5 → ∀ (ls : Array Slot), lv_has ls 5 [(4, .int (nI k5)), (2, .long (lf_Bo_costOf_5 (G 10) d 0 k5)), (0, .ref (oa 3)), (1, .int (nI d))] → W p l e ({ frames := 1, cells := 0, slots := 0, locals := 22 } : Room) s m args below meth c H [] 0 0 Q (F0 m 5 ls []) := by
    intro N5
    induction N5 with
    | zero => intro k5 hk5 hm5; exact absurd hm5 (Nat.not_lt_zero _)
    | succ N5 ih5 =>
      intro k5 hk5 hm5  ls hl
      refine lv_iload hx hb dBo_costOf_5 (lv_at hl 0 rfl) ?_
      refine lv_iconst (v := 4) hx hb dBo_costOf_7 (by decide) ?_
      refine lv_icmp_ge (tgt := 28) hx hb dBo_costOf_8 (by decide) (fun c8 => ?_) (fun c8 => ?_)
      · have n8 : 4 ≤ k5 := (nI_leI (a := 4) (b := k5) (by omega) (by omega)).mp c8
        have hx5 : 4 = k5 := by omega
        subst hx5
        refine lv_lload_n hx hb dBo_costOf_28 rfl (lv_at hl 1 rfl) ?_
        exact hret _ _ _ (by rw [mr_Bo_costOf]) dBo_costOf_29
      · have n8 : ¬ 4 ≤ k5 := fun h9 => c8 ((nI_leI (a := 4) (b := k5) (by omega) (by omega)).mpr h9)
        refine lv_lload_n hx hb dBo_costOf_11 rfl (lv_at hl 1 rfl) ?_
        refine lv_aload_n hx hb dBo_costOf_12 rfl (lv_at hl 2 rfl) ?_
        refine lv_iload_n hx hb dBo_costOf_13 rfl (lv_at hl 3 rfl) ?_
        refine lv_iload hx hb dBo_costOf_14 (lv_at hl 0 rfl) ?_
        refine ro_callV (r := (.int (mr_Bo_sumOf (G 10) d k5))) (As := [.int (nI d), .int (nI k5)]) (rest := [.long (lf_Bo_costOf_5 (G 10) d 0 k5)]) Sx (c_Bo_sumOf l D cl hcl oa ca ck F G hP d k5 hd (by omega)) (cwV 2 hts gBo_costOf_Bo_sumOf rfl rfl rfl (by decide +kernel) ⟨Nat.le_of_ble_eq_true rfl, Nat.le_of_ble_eq_true rfl⟩) hK (va_recv hK hP (ci := 4) (q0 := 3) hcl.2.2.2.1 rfl) rfl hl.1 rfl (Nat.le_of_ble_eq_true rfl) dBo_costOf_16 ⟨Nat.zero_le _, Nat.zero_le _⟩ ?_
        refine lv_i2l hx hb dBo_costOf_19 rfl ?_
        refine lv_ladd hx hb dBo_costOf_20 ?_
        refine lv_lstore_n (lv' := [(2, .long ((lf_Bo_costOf_5 (G 10) d 0 k5) + ((mr_Bo_sumOf (G 10) d k5).toInt64))), (4, .int (nI k5)), (0, .ref (oa 3)), (1, .int (nI d))]) hx hb dBo_costOf_21 rfl hl (by decide) rfl (fun ls hl => ?_)
        refine lv_iinc (v := nI (k5 + 1)) (lv' := [(4, .int (nI (k5 + 1))), (2, .long ((lf_Bo_costOf_5 (G 10) d 0 k5) + ((mr_Bo_sumOf (G 10) d k5).toInt64))), (0, .ref (oa 3)), (1, .int (nI d))]) hx hb dBo_costOf_22 hl (k := 1) rfl (by exact ii_1 k5) (by decide) rfl (fun ls hl => ?_)
        refine lv_goto (tgt := 5) hx hb dBo_costOf_25 (by decide) ?_
        have eb5 : lf_Bo_costOf_5 (G 10) d 0 (k5 + 1) = (lf_Bo_costOf_5 (G 10) d 0 k5) + ((mr_Bo_sumOf (G 10) d k5).toInt64) := by rw [lf_Bo_costOf_5]
        exact ih5 (k5 + 1) (by omega) (by omega)  ls (by rw [eb5]; exact lv_sub hl [0, 1, 2, 3] rfl)
  exact loop5 _ 0 (Nat.zero_le _) (Nat.lt_succ_self _)  ls (lv_sub hl [0, 1, 2, 3] rfl)
def lf_Bo_allows_13 (g8 : Nat → Int32) (g9 : Nat → Int32) (g10 : Nat → Int32) (d : Nat) : Nat → Nat → Int32
  | 0, n => 0
  | N + 1, n => (if 4 ≤ (nI n) then 1 else (if (g8 n) = 0 then lf_Bo_allows_13 g8 g9 g10 d N (n + 1) else (if (mr_Bo_sumOf g10 d n) ≤ (g9 n) then lf_Bo_allows_13 g8 g9 g10 d N (n + 1) else 0)))
def mr_Bo_allows (g8 : Nat → Int32) (g9 : Nat → Int32) (g10 : Nat → Int32) (g11 : Nat → Int32) (d : Nat) : Int32 := (if (g11 d) = 0 then lf_Bo_allows_13 g8 g9 g10 d 5 0 else 0)
theorem zb_Bo_allows_13 (g8 : Nat → Int32) (g9 : Nat → Int32) (g10 : Nat → Int32) (d : Nat) : ∀ (N : Nat) (n : Nat), narrow .boolean (.int (lf_Bo_allows_13 g8 g9 g10 d N n)) = .int (lf_Bo_allows_13 g8 g9 g10 d N n) := by
  intro N
  induction N with
  | zero => intro n; rw [lf_Bo_allows_13]; exact zb_0
  | succ N ih => intro n; rw [lf_Bo_allows_13]; repeat' first | refine zb_i ?_ ?_ | exact zb_0 | exact zb_1 | exact ih _
set_option maxHeartbeats 4000000 in
set_option maxRecDepth 100000 in
theorem c_Bo_allows (l : Launch) (D : va_G) (cl : List vw_C) (hcl : cOK cl) (oa ca : Nat → Nat) (ck : Nat → ClassId) (F : Nat → Int32) (G : Nat → Nat → Int32) {H : Heap} (hP : va_P D cl (cW oa ca ck F G) H) (d : Nat) (hd : d < 4096) : ro_Met l yBo_allows wsBo_allows ({ frames := 1, cells := 0, slots := 0, locals := 22 } : Room) D cl (cT ck) H [.ref (oa 3), .int (nI d)] (.int (mr_Bo_allows (G 8) (G 9) (G 10) (G 11) d)) := by
  refine ro_metZ (by unfold mr_Bo_allows; repeat' first | refine zb_i ?_ ?_ | exact zb_0 | exact zb_1 | apply zb_Bo_allows_13) (by decide) rfl (Nat.le_of_ble_eq_true rfl) ?_
  intro p e s m args below meth c Q Sx hK ls hl hret
  obtain ⟨hx, hb, hml, hown, hts⟩ := id Sx
  have hl : lv_has ls 3 [(0, .ref (oa 3)), (1, .int (nI d))] := hl
  have f35 := hts _ (List.mem_cons_of_mem _ mfBo_35)
  have inBo_ : ∀ w ∈ wsBo0, w ∈ wsBo_allows := fun w h => List.mem_cons_of_mem _ (inBo_all w h)
  have f25 := hts _ (List.mem_cons_of_mem _ mfBo_25)
  have f29 := hts _ (List.mem_cons_of_mem _ mfBo_29)
  refine lv_aload_n hx hb dBo_allows_0 rfl (lv_at hl 0 rfl) ?_
  refine va_get (D := D) (ci := 4) (v := .ref (ca 11)) (C := RBo) (T := TBo) (N := 10) hx hb hts inBo_ hown hK hP 3 rfl hcl.2.2.2.1 9 (by decide) f35 (fun _ h9 => h9) rfl dBo_allows_1 ?_
  refine lv_iload_n hx hb dBo_allows_4 rfl (lv_at hl 1 rfl) ?_
  have sd5 : d < 4096 := by omega
  refine wn_zald (f := G 11) hx hb hK hP 19 11 rfl rfl d rfl sd5 (by decide) dBo_allows_5 ?_
  refine lv_if_eq (tgt := 11) hx hb dBo_allows_6 (by decide) (fun c6 => ?_) (fun c6 => ?_)
  · refine lv_iconst (v := 0) hx hb dBo_allows_11 (by decide) ?_
    refine lv_istore_n (lv' := [(2, .int 0), (0, .ref (oa 3)), (1, .int (nI d))]) hx hb dBo_allows_12 rfl hl (by decide) rfl (fun ls hl => ?_)
    have loop13 : ∀ (N13 : Nat) (n : Nat), n ≤ 4 → 4 - n < N13 → lf_Bo_allows_13 (G 8) (G 9) (G 10) d 5 0 = lf_Bo_allows_13 (G 8) (G 9) (G 10) d N13 n → ∀ (ls : Array Slot), lv_has ls 3 [(2, .int (nI n)), (0, .ref (oa 3)), (1, .int (nI d))] → W p l e ({ frames := 1, cells := 0, slots := 0, locals := 22 } : Room) s m args below meth c H [] 0 0 Q (F0 m 13 ls []) := by
      intro N13
      induction N13 with
      | zero => intro n hn4 hm13; exact absurd hm13 (Nat.not_lt_zero _)
      | succ N13 ih13 =>
        intro n hn4 hm13 hR13 ls hl
        refine lv_iload_n hx hb dBo_allows_13 rfl (lv_at hl 0 rfl) ?_
        refine lv_iconst (v := 4) hx hb dBo_allows_14 (by decide) ?_
        refine lv_icmp_ge (tgt := 50) hx hb dBo_allows_15 (by decide) (fun c15 => ?_) (fun c15 => ?_)
        · have n15 : 4 ≤ n := (nI_leI (a := 4) (b := n) (by omega) (by omega)).mp c15
          refine lv_iconst (v := 1) hx hb dBo_allows_50 (by decide) ?_
          exact hret _ _ _ (by rw [mr_Bo_allows, if_pos c6, hR13, lf_Bo_allows_13, if_pos c15]) dBo_allows_51
        · have n15 : ¬ 4 ≤ n := fun h9 => c15 ((nI_leI (a := 4) (b := n) (by omega) (by omega)).mpr h9)
          refine lv_aload_n hx hb dBo_allows_18 rfl (lv_at hl 1 rfl) ?_
          refine va_get (D := D) (ci := 4) (v := .ref (ca 8)) (C := RBo) (T := TBo) (N := 10) hx hb hts inBo_ hown hK hP 3 rfl hcl.2.2.2.1 6 (by decide) f25 (fun _ h9 => h9) rfl dBo_allows_19 ?_
          refine lv_iload_n hx hb dBo_allows_22 rfl (lv_at hl 0 rfl) ?_
          have sd23 : n < 4 := by omega
          refine wn_zald (f := G 8) hx hb hK hP 16 8 rfl rfl n rfl sd23 (by decide) dBo_allows_23 ?_
          refine lv_if_eq (tgt := 44) hx hb dBo_allows_24 (by decide) (fun c24 => ?_) (fun c24 => ?_)
          · refine lv_iinc (v := nI (n + 1)) (lv' := [(2, .int (nI (n + 1))), (0, .ref (oa 3)), (1, .int (nI d))]) hx hb dBo_allows_44 hl (k := 0) rfl (by exact ii_1 n) (by decide) rfl (fun ls hl => ?_)
            refine lv_goto (tgt := 13) hx hb dBo_allows_47 (by decide) ?_
            have er13 : lf_Bo_allows_13 (G 8) (G 9) (G 10) d (N13 + 1) n = lf_Bo_allows_13 (G 8) (G 9) (G 10) d N13 (n + 1) := by rw [lf_Bo_allows_13, if_neg c15, if_pos c24]
            exact ih13 (n + 1) (by omega) (by omega) (hR13.trans er13) ls (lv_sub hl [0, 1, 2] rfl)
          · refine lv_aload_n hx hb dBo_allows_27 rfl (lv_at hl 1 rfl) ?_
            refine lv_iload_n hx hb dBo_allows_28 rfl (lv_at hl 2 rfl) ?_
            refine lv_iload_n hx hb dBo_allows_29 rfl (lv_at hl 0 rfl) ?_
            refine ro_callV (r := (.int (mr_Bo_sumOf (G 10) d n))) (As := [.int (nI d), .int (nI n)]) (rest := []) Sx (c_Bo_sumOf l D cl hcl oa ca ck F G hP d n hd (by omega)) (cwV 2 hts gBo_allows_Bo_sumOf rfl rfl rfl (by decide +kernel) ⟨Nat.le_of_ble_eq_true rfl, Nat.le_of_ble_eq_true rfl⟩) hK (va_recv hK hP (ci := 4) (q0 := 3) hcl.2.2.2.1 rfl) rfl hl.1 rfl (Nat.le_of_ble_eq_true rfl) dBo_allows_30 ⟨Nat.zero_le _, Nat.zero_le _⟩ ?_
            refine lv_aload_n hx hb dBo_allows_33 rfl (lv_at hl 1 rfl) ?_
            refine va_get (D := D) (ci := 4) (v := .ref (ca 9)) (C := RBo) (T := TBo) (N := 10) hx hb hts inBo_ hown hK hP 3 rfl hcl.2.2.2.1 7 (by decide) f29 (fun _ h9 => h9) rfl dBo_allows_34 ?_
            refine lv_iload_n hx hb dBo_allows_37 rfl (lv_at hl 0 rfl) ?_
            have sd38 : n < 4 := by omega
            refine wn_iald (f := G 9) hx hb hK hP 17 9 rfl rfl n rfl sd38 (by decide) dBo_allows_38 ?_
            refine lv_icmp_le (tgt := 44) hx hb dBo_allows_39 (by decide) (fun c39 => ?_) (fun c39 => ?_)
            · refine lv_iinc (v := nI (n + 1)) (lv' := [(2, .int (nI (n + 1))), (0, .ref (oa 3)), (1, .int (nI d))]) hx hb dBo_allows_44 hl (k := 0) rfl (by exact ii_1 n) (by decide) rfl (fun ls hl => ?_)
              refine lv_goto (tgt := 13) hx hb dBo_allows_47 (by decide) ?_
              have er13 : lf_Bo_allows_13 (G 8) (G 9) (G 10) d (N13 + 1) n = lf_Bo_allows_13 (G 8) (G 9) (G 10) d N13 (n + 1) := by rw [lf_Bo_allows_13, if_neg c15, if_neg c24, if_pos c39]
              exact ih13 (n + 1) (by omega) (by omega) (hR13.trans er13) ls (lv_sub hl [0, 1, 2] rfl)
            · refine lv_iconst (v := 0) hx hb dBo_allows_42 (by decide) ?_
              exact hret _ _ _ (by rw [mr_Bo_allows, if_pos c6, hR13, lf_Bo_allows_13, if_neg c15, if_neg c24, if_neg c39]) dBo_allows_43
    exact loop13 5 0 (by omega) (by omega) rfl ls (lv_sub hl [0, 1, 2] rfl)
  · refine lv_iconst (v := 0) hx hb dBo_allows_9 (by decide) ?_
    exact hret _ _ _ (by rw [mr_Bo_allows, if_neg c6]) dBo_allows_10
def lf_Bo_isAtMost_12 (g10 : Nat → Int32) (d : Nat) (o : Nat) : Nat → Nat → Int32
  | 0, n => 0
  | N + 1, n => (if 4 ≤ (nI n) then 1 else (if (g10 ((d * 4) + n)) ≤ (g10 ((o * 4) + n)) then lf_Bo_isAtMost_12 g10 d o N (n + 1) else 0))
def mr_Bo_isAtMost (g10 : Nat → Int32) (d : Nat) (o : Nat) : Int32 := lf_Bo_isAtMost_12 g10 d o 5 0
theorem zb_Bo_isAtMost_12 (g10 : Nat → Int32) (d : Nat) (o : Nat) : ∀ (N : Nat) (n : Nat), narrow .boolean (.int (lf_Bo_isAtMost_12 g10 d o N n)) = .int (lf_Bo_isAtMost_12 g10 d o N n) := by
  intro N
  induction N with
  | zero => intro n; rw [lf_Bo_isAtMost_12]; exact zb_0
  | succ N ih => intro n; rw [lf_Bo_isAtMost_12]; repeat' first | refine zb_i ?_ ?_ | exact zb_0 | exact zb_1 | exact ih _
set_option maxHeartbeats 4000000 in
set_option maxRecDepth 100000 in
theorem c_Bo_isAtMost (l : Launch) (D : va_G) (cl : List vw_C) (hcl : cOK cl) (oa ca : Nat → Nat) (ck : Nat → ClassId) (F : Nat → Int32) (G : Nat → Nat → Int32) {H : Heap} (hP : va_P D cl (cW oa ca ck F G) H) (d : Nat) (o : Nat) (hd : d < 4096) (ho : o < 4096) : ro_Met l yBo_isAtMost wsBo_isAtMost ({ frames := 0, cells := 0, slots := 0, locals := 0 } : Room) D cl (cT ck) H [.ref (oa 3), .int (nI d), .int (nI o)] (.int (mr_Bo_isAtMost (G 10) d o)) := by
  refine ro_metZ (by unfold mr_Bo_isAtMost; repeat' first | refine zb_i ?_ ?_ | exact zb_0 | exact zb_1 | apply zb_Bo_isAtMost_12) (by decide) rfl (Nat.le_of_ble_eq_true rfl) ?_
  intro p e s m args below meth c Q Sx hK ls hl hret
  obtain ⟨hx, hb, hml, hown, hts⟩ := id Sx
  have hl : lv_has ls 6 [(0, .ref (oa 3)), (1, .int (nI d)), (2, .int (nI o))] := hl
  have f32 := hts _ (List.mem_cons_of_mem _ mfBo_32)
  have inBo_ : ∀ w ∈ wsBo0, w ∈ wsBo_isAtMost := fun w h => List.mem_cons_of_mem _ (inBo_all w h)
  refine lv_iload_n hx hb dBo_isAtMost_0 rfl (lv_at hl 1 rfl) ?_
  refine lv_iconst (v := 4) hx hb dBo_isAtMost_1 (by decide) ?_
  refine lv_imul hx hb dBo_isAtMost_2 ?_
  refine wt_i (r := nI (d * 4)) (by exact pk_mul d 4) ?_
  refine lv_istore_n (lv' := [(3, .int (nI (d * 4))), (0, .ref (oa 3)), (1, .int (nI d)), (2, .int (nI o))]) hx hb dBo_isAtMost_3 rfl hl (by decide) rfl (fun ls hl => ?_)
  refine lv_iload_n hx hb dBo_isAtMost_4 rfl (lv_at hl 3 rfl) ?_
  refine lv_iconst (v := 4) hx hb dBo_isAtMost_5 (by decide) ?_
  refine lv_imul hx hb dBo_isAtMost_6 ?_
  refine wt_i (r := nI (o * 4)) (by exact pk_mul o 4) ?_
  refine lv_istore (lv' := [(4, .int (nI (o * 4))), (3, .int (nI (d * 4))), (0, .ref (oa 3)), (1, .int (nI d)), (2, .int (nI o))]) hx hb dBo_isAtMost_7 hl (by decide) rfl (fun ls hl => ?_)
  refine lv_iconst (v := 0) hx hb dBo_isAtMost_9 (by decide) ?_
  refine lv_istore (lv' := [(5, .int 0), (4, .int (nI (o * 4))), (3, .int (nI (d * 4))), (0, .ref (oa 3)), (1, .int (nI d)), (2, .int (nI o))]) hx hb dBo_isAtMost_10 hl (by decide) rfl (fun ls hl => ?_)
  have loop12 : ∀ (N12 : Nat) (n : Nat), n ≤ 4 → 4 - n < N12 → lf_Bo_isAtMost_12 (G 10) d o 5 0 = lf_Bo_isAtMost_12 (G 10) d o N12 n → ∀ (ls : Array Slot), lv_has ls 6 [(5, .int (nI n)), (4, .int (nI (o * 4))), (3, .int (nI (d * 4))), (0, .ref (oa 3)), (1, .int (nI d)), (2, .int (nI o))] → W p l e ({ frames := 0, cells := 0, slots := 0, locals := 0 } : Room) s m args below meth c H [] 0 0 Q (F0 m 12 ls []) := by
    intro N12
    induction N12 with
    | zero => intro n hn4 hm12; exact absurd hm12 (Nat.not_lt_zero _)
    | succ N12 ih12 =>
      intro n hn4 hm12 hR12 ls hl
      refine lv_iload hx hb dBo_isAtMost_12 (lv_at hl 0 rfl) ?_
      refine lv_iconst (v := 4) hx hb dBo_isAtMost_14 (by decide) ?_
      refine lv_icmp_ge (tgt := 48) hx hb dBo_isAtMost_15 (by decide) (fun c15 => ?_) (fun c15 => ?_)
      · have n15 : 4 ≤ n := (nI_leI (a := 4) (b := n) (by omega) (by omega)).mp c15
        refine lv_iconst (v := 1) hx hb dBo_isAtMost_48 (by decide) ?_
        exact hret _ _ _ (by rw [mr_Bo_isAtMost, hR12, lf_Bo_isAtMost_12, if_pos c15]) dBo_isAtMost_49
      · have n15 : ¬ 4 ≤ n := fun h9 => c15 ((nI_leI (a := 4) (b := n) (by omega) (by omega)).mpr h9)
        refine lv_aload_n hx hb dBo_isAtMost_18 rfl (lv_at hl 3 rfl) ?_
        refine va_get (D := D) (ci := 4) (v := .ref (ca 10)) (C := RBo) (T := TBo) (N := 10) hx hb hts inBo_ hown hK hP 3 rfl hcl.2.2.2.1 8 (by decide) f32 (fun _ h9 => h9) rfl dBo_isAtMost_19 ?_
        refine lv_iload_n hx hb dBo_isAtMost_22 rfl (lv_at hl 2 rfl) ?_
        refine lv_iload hx hb dBo_isAtMost_23 (lv_at hl 0 rfl) ?_
        refine lv_iadd hx hb dBo_isAtMost_25 ?_
        refine wt_i (r := nI ((d * 4) + n)) (by exact nI_add (d * 4) n) ?_
        have sd26 : ((d * 4) + n) < 16384 := by omega
        refine wn_iald (f := G 10) hx hb hK hP 18 10 rfl rfl ((d * 4) + n) rfl sd26 (by decide) dBo_isAtMost_26 ?_
        refine lv_aload_n hx hb dBo_isAtMost_27 rfl (lv_at hl 3 rfl) ?_
        refine va_get (D := D) (ci := 4) (v := .ref (ca 10)) (C := RBo) (T := TBo) (N := 10) hx hb hts inBo_ hown hK hP 3 rfl hcl.2.2.2.1 8 (by decide) f32 (fun _ h9 => h9) rfl dBo_isAtMost_28 ?_
        refine lv_iload hx hb dBo_isAtMost_31 (lv_at hl 1 rfl) ?_
        refine lv_iload hx hb dBo_isAtMost_33 (lv_at hl 0 rfl) ?_
        refine lv_iadd hx hb dBo_isAtMost_35 ?_
        refine wt_i (r := nI ((o * 4) + n)) (by exact nI_add (o * 4) n) ?_
        have sd36 : ((o * 4) + n) < 16384 := by omega
        refine wn_iald (f := G 10) hx hb hK hP 18 10 rfl rfl ((o * 4) + n) rfl sd36 (by decide) dBo_isAtMost_36 ?_
        refine lv_icmp_le (tgt := 42) hx hb dBo_isAtMost_37 (by decide) (fun c37 => ?_) (fun c37 => ?_)
        · refine lv_iinc (v := nI (n + 1)) (lv' := [(5, .int (nI (n + 1))), (4, .int (nI (o * 4))), (3, .int (nI (d * 4))), (0, .ref (oa 3)), (1, .int (nI d)), (2, .int (nI o))]) hx hb dBo_isAtMost_42 hl (k := 0) rfl (by exact ii_1 n) (by decide) rfl (fun ls hl => ?_)
          refine lv_goto (tgt := 12) hx hb dBo_isAtMost_45 (by decide) ?_
          have er12 : lf_Bo_isAtMost_12 (G 10) d o (N12 + 1) n = lf_Bo_isAtMost_12 (G 10) d o N12 (n + 1) := by rw [lf_Bo_isAtMost_12, if_neg c15, if_pos c37]
          exact ih12 (n + 1) (by omega) (by omega) (hR12.trans er12) ls (lv_sub hl [0, 1, 2, 3, 4, 5] rfl)
        · refine lv_iconst (v := 0) hx hb dBo_isAtMost_40 (by decide) ?_
          exact hret _ _ _ (by rw [mr_Bo_isAtMost, hR12, lf_Bo_isAtMost_12, if_neg c15, if_neg c37]) dBo_isAtMost_41
  exact loop12 5 0 (by omega) (by omega) rfl ls (lv_sub hl [0, 1, 2, 3, 4, 5] rfl)
def lf_Bo_boundOf_24 (g2 : Nat → Int32) (g3 : Nat → Int32) (g4 : Nat → Int32) (g5 : Nat → Int32) (g7 : Nat → Int32) (g14 : Nat → Int32) (nu : Nat) (st : Nat) (i0 : Int32) : Nat → Int32
  | 0 => i0
  | k24 + 1 => (if (mr_Ma_isOpen g2 g3 g4 g5 g14 (nu * 100 + k24) st) = 0 then (lf_Bo_boundOf_24 g2 g3 g4 g5 g7 g14 nu st i0 k24) else (if (g7 (nu * 100 + k24)) < 0 then ((lf_Bo_boundOf_24 g2 g3 g4 g5 g7 g14 nu st i0 k24) + (g7 (nu * 100 + k24))) else (if (mr_Ma_isSettled g2 g4 (nu * 100 + k24) st) = 0 then (lf_Bo_boundOf_24 g2 g3 g4 g5 g7 g14 nu st i0 k24) else ((lf_Bo_boundOf_24 g2 g3 g4 g5 g7 g14 nu st i0 k24) + (g7 (nu * 100 + k24))))))
def mr_Bo_boundOf (g2 : Nat → Int32) (g3 : Nat → Int32) (g4 : Nat → Int32) (g5 : Nat → Int32) (g6 : Nat → Int32) (g7 : Nat → Int32) (g14 : Nat → Int32) (nu : Nat) (st : Nat) : Int32 := (lf_Bo_boundOf_24 g2 g3 g4 g5 g7 g14 nu st 0 ((g6 nu).toNatClampNeg))
set_option maxHeartbeats 4000000 in
set_option maxRecDepth 100000 in
theorem c_Bo_boundOf (l : Launch) (D : va_G) (cl : List vw_C) (hcl : cOK cl) (oa ca : Nat → Nat) (ck : Nat → ClassId) (F : Nat → Int32) (G : Nat → Nat → Int32) {H : Heap} (hP : va_P D cl (cW oa ca ck F G) H) (nu : Nat) (st : Nat) (mA : ∀ s, s < 440 → ∃ x : Nat, x < 8 ∧ G 2 s = nI x) (mB : ∀ s, s < 440 → G 4 s = -1 ∨ ∃ x : Nat, x < 8 ∧ G 4 s = nI x) (hnu : nu < 4) (hst : st ≤ 8) (hq : ∃ t : Nat, t < 101 ∧ G 6 nu = nI t) : ro_Met l yBo_boundOf wsBo_boundOf ({ frames := 1, cells := 0, slots := 0, locals := 25 } : Room) D cl (cT ck) H [.ref (oa 3), .int (nI nu), .ref (ca 14), .int (nI st)] (.int (mr_Bo_boundOf (G 2) (G 3) (G 4) (G 5) (G 6) (G 7) (G 14) nu st)) := by
  refine ro_metI (by decide) rfl (Nat.le_of_ble_eq_true rfl) ?_
  intro p e s m args below meth c Q Sx hK ls hl hret
  obtain ⟨hx, hb, hml, hown, hts⟩ := id Sx
  have hl : lv_has ls 8 [(0, .ref (oa 3)), (1, .int (nI nu)), (2, .ref (ca 14)), (3, .int (nI st))] := hl
  have f9 := hts _ (List.mem_cons_of_mem _ mfBo_9)
  have inBo_ : ∀ w ∈ wsBo0, w ∈ wsBo_boundOf := fun w h => List.mem_cons_of_mem _ (inBo_all w h)
  have f47 := hts _ (List.mem_cons_of_mem _ mfBo_47)
  have f15 := hts _ (List.mem_cons_of_mem _ mfBo_15)
  have xq := ix_cl hq (by omega)
  have xq2 := xq.2
  refine lv_iconst (v := 0) hx hb dBo_boundOf_0 (by decide) ?_
  refine lv_istore (lv' := [(4, .int 0), (0, .ref (oa 3)), (1, .int (nI nu)), (2, .ref (ca 14)), (3, .int (nI st))]) hx hb dBo_boundOf_1 hl (by decide) rfl (fun ls hl => ?_)
  refine lv_iload_n hx hb dBo_boundOf_3 rfl (lv_at hl 2 rfl) ?_
  refine lv_bipush (v := 100) hx hb dBo_boundOf_4 (by decide) ?_
  refine lv_imul hx hb dBo_boundOf_6 ?_
  refine wt_i (r := nI (nu * 100)) (by exact pk_mul nu 100) ?_
  refine lv_istore (lv' := [(5, .int (nI (nu * 100))), (4, .int 0), (0, .ref (oa 3)), (1, .int (nI nu)), (2, .ref (ca 14)), (3, .int (nI st))]) hx hb dBo_boundOf_7 hl (by decide) rfl (fun ls hl => ?_)
  refine lv_iload hx hb dBo_boundOf_9 (lv_at hl 0 rfl) ?_
  refine lv_aload_n hx hb dBo_boundOf_11 rfl (lv_at hl 2 rfl) ?_
  refine va_get (D := D) (ci := 4) (v := .ref (ca 6)) (C := RBo) (T := TBo) (N := 10) hx hb hts inBo_ hown hK hP 3 rfl hcl.2.2.2.1 2 (by decide) f9 (fun _ h9 => h9) rfl dBo_boundOf_12 ?_
  refine lv_iload_n hx hb dBo_boundOf_15 rfl (lv_at hl 3 rfl) ?_
  have sd16 : nu < 4 := by omega
  refine wn_iald (f := G 6) hx hb hK hP 14 6 rfl rfl nu rfl sd16 (by decide) dBo_boundOf_16 ?_
  refine wt_i (r := nI (G 6 nu).toNatClampNeg) (by exact xq.1) ?_
  refine lv_iadd hx hb dBo_boundOf_17 ?_
  refine wt_i (r := nI ((nu * 100) + ((G 6 nu).toNatClampNeg))) (by exact nI_add (nu * 100) ((G 6 nu).toNatClampNeg)) ?_
  refine lv_istore (lv' := [(6, .int (nI ((nu * 100) + ((G 6 nu).toNatClampNeg)))), (5, .int (nI (nu * 100))), (4, .int 0), (0, .ref (oa 3)), (1, .int (nI nu)), (2, .ref (ca 14)), (3, .int (nI st))]) hx hb dBo_boundOf_18 hl (by decide) rfl (fun ls hl => ?_)
  refine lv_iload hx hb dBo_boundOf_20 (lv_at hl 1 rfl) ?_
  refine lv_istore (lv' := [(7, .int (nI (nu * 100))), (6, .int (nI ((nu * 100) + ((G 6 nu).toNatClampNeg)))), (5, .int (nI (nu * 100))), (4, .int 0), (0, .ref (oa 3)), (1, .int (nI nu)), (2, .ref (ca 14)), (3, .int (nI st))]) hx hb dBo_boundOf_22 hl (by decide) rfl (fun ls hl => ?_)
  have loop24 : ∀ (N24 k24 : Nat), k24 ≤ (G 6 nu).toNatClampNeg → (G 6 nu).toNatClampNeg - k24 < N24 → ∀ (ls : Array Slot), lv_has ls 8 [(7, .int (nI (nu * 100 + k24))), (6, .int (nI ((nu * 100) + ((G 6 nu).toNatClampNeg)))), (5, .int (nI (nu * 100))), (4, .int (lf_Bo_boundOf_24 (G 2) (G 3) (G 4) (G 5) (G 7) (G 14) nu st 0 k24)), (0, .ref (oa 3)), (1, .int (nI nu)), (2, .ref (ca 14)), (3, .int (nI st))] → W p l e ({ frames := 1, cells := 0, slots := 0, locals := 25 } : Room) s m args below meth c H [] 0 0 Q (F0 m 24 ls []) := by
    intro N24
    induction N24 with
    | zero => intro k24 hk24 hm24; exact absurd hm24 (Nat.not_lt_zero _)
    | succ N24 ih24 =>
      intro k24 hk24 hm24  ls hl
      refine lv_iload hx hb dBo_boundOf_24 (lv_at hl 0 rfl) ?_
      refine lv_iload hx hb dBo_boundOf_26 (lv_at hl 1 rfl) ?_
      refine lv_icmp_ge (tgt := 86) hx hb dBo_boundOf_28 (by decide) (fun c28 => ?_) (fun c28 => ?_)
      · have n28 : ((nu * 100) + ((G 6 nu).toNatClampNeg)) ≤ (nu * 100 + k24) := (nI_leI (a := ((nu * 100) + ((G 6 nu).toNatClampNeg))) (b := (nu * 100 + k24)) (by omega) (by omega)).mp c28
        have hx24 : (G 6 nu).toNatClampNeg = k24 := by omega
        subst hx24
        refine lv_iload hx hb dBo_boundOf_86 (lv_at hl 3 rfl) ?_
        exact hret _ _ _ (by rw [mr_Bo_boundOf]) dBo_boundOf_88
      · have n28 : ¬ ((nu * 100) + ((G 6 nu).toNatClampNeg)) ≤ (nu * 100 + k24) := fun h9 => c28 ((nI_leI (a := ((nu * 100) + ((G 6 nu).toNatClampNeg))) (b := (nu * 100 + k24)) (by omega) (by omega)).mpr h9)
        refine lv_aload_n hx hb dBo_boundOf_31 rfl (lv_at hl 4 rfl) ?_
        refine va_get (D := D) (ci := 4) (v := .ref (oa 2)) (C := RBo) (T := TBo) (N := 10) hx hb hts inBo_ hown hK hP 3 rfl hcl.2.2.2.1 1 (by decide) f47 (fun _ h9 => h9) rfl dBo_boundOf_32 ?_
        refine lv_iload hx hb dBo_boundOf_35 (lv_at hl 0 rfl) ?_
        refine lv_aload_n hx hb dBo_boundOf_37 rfl (lv_at hl 6 rfl) ?_
        refine lv_iload_n hx hb dBo_boundOf_38 rfl (lv_at hl 7 rfl) ?_
        refine ro_callV (r := (.int (mr_Ma_isOpen (G 2) (G 3) (G 4) (G 5) (G 14) (nu * 100 + k24) st))) (As := [.int (nI (nu * 100 + k24)), .ref (ca 14), .int (nI st)]) (rest := []) Sx (c_Ma_isOpen l D cl hcl oa ca ck F G hP (nu * 100 + k24) st (by omega) (mA (nu * 100 + k24) (by omega)) (mB (nu * 100 + k24) (by omega))) (cwV 3 hts gBo_boundOf_Ma_isOpen rfl rfl rfl (by decide +kernel) ⟨Nat.le_of_ble_eq_true rfl, Nat.le_of_ble_eq_true rfl⟩) hK (va_recv hK hP (ci := 3) (q0 := 2) hcl.2.2.1 rfl) rfl hl.1 rfl (Nat.le_of_ble_eq_true rfl) dBo_boundOf_39 ⟨Nat.zero_le _, Nat.zero_le _⟩ ?_
        refine lv_if_eq (tgt := 80) hx hb dBo_boundOf_42 (by decide) (fun c42 => ?_) (fun c42 => ?_)
        · refine lv_iinc (v := nI (nu * 100 + (k24 + 1))) (lv' := [(7, .int (nI (nu * 100 + (k24 + 1)))), (6, .int (nI ((nu * 100) + ((G 6 nu).toNatClampNeg)))), (5, .int (nI (nu * 100))), (4, .int (lf_Bo_boundOf_24 (G 2) (G 3) (G 4) (G 5) (G 7) (G 14) nu st 0 k24)), (0, .ref (oa 3)), (1, .int (nI nu)), (2, .ref (ca 14)), (3, .int (nI st))]) hx hb dBo_boundOf_80 hl (k := 0) rfl (by exact ii_1 (nu * 100 + k24)) (by decide) rfl (fun ls hl => ?_)
          refine lv_goto (tgt := 24) hx hb dBo_boundOf_83 (by decide) ?_
          have eb24 : lf_Bo_boundOf_24 (G 2) (G 3) (G 4) (G 5) (G 7) (G 14) nu st 0 (k24 + 1) = lf_Bo_boundOf_24 (G 2) (G 3) (G 4) (G 5) (G 7) (G 14) nu st 0 k24 := by rw [lf_Bo_boundOf_24, if_pos c42]
          exact ih24 (k24 + 1) (by omega) (by omega)  ls (by rw [eb24]; exact lv_sub hl [0, 1, 2, 3, 4, 5, 6, 7] rfl)
        · refine lv_aload_n hx hb dBo_boundOf_45 rfl (lv_at hl 4 rfl) ?_
          refine va_get (D := D) (ci := 4) (v := .ref (ca 7)) (C := RBo) (T := TBo) (N := 10) hx hb hts inBo_ hown hK hP 3 rfl hcl.2.2.2.1 3 (by decide) f15 (fun _ h9 => h9) rfl dBo_boundOf_46 ?_
          refine lv_iload hx hb dBo_boundOf_49 (lv_at hl 0 rfl) ?_
          have sd51 : (nu * 100 + k24) < 400 := by omega
          refine wn_iald (f := G 7) hx hb hK hP 15 7 rfl rfl (nu * 100 + k24) rfl sd51 (by decide) dBo_boundOf_51 ?_
          refine lv_if_lt (tgt := 68) hx hb dBo_boundOf_52 (by decide) (fun c52 => ?_) (fun c52 => ?_)
          · refine lv_iload hx hb dBo_boundOf_68 (lv_at hl 3 rfl) ?_
            refine lv_aload_n hx hb dBo_boundOf_70 rfl (lv_at hl 4 rfl) ?_
            refine va_get (D := D) (ci := 4) (v := .ref (ca 7)) (C := RBo) (T := TBo) (N := 10) hx hb hts inBo_ hown hK hP 3 rfl hcl.2.2.2.1 3 (by decide) f15 (fun _ h9 => h9) rfl dBo_boundOf_71 ?_
            refine lv_iload hx hb dBo_boundOf_74 (lv_at hl 0 rfl) ?_
            have sd76 : (nu * 100 + k24) < 400 := by omega
            refine wn_iald (f := G 7) hx hb hK hP 15 7 rfl rfl (nu * 100 + k24) rfl sd76 (by decide) dBo_boundOf_76 ?_
            refine lv_iadd hx hb dBo_boundOf_77 ?_
            refine lv_istore (lv' := [(4, .int ((lf_Bo_boundOf_24 (G 2) (G 3) (G 4) (G 5) (G 7) (G 14) nu st 0 k24) + (G 7 (nu * 100 + k24)))), (7, .int (nI (nu * 100 + k24))), (6, .int (nI ((nu * 100) + ((G 6 nu).toNatClampNeg)))), (5, .int (nI (nu * 100))), (0, .ref (oa 3)), (1, .int (nI nu)), (2, .ref (ca 14)), (3, .int (nI st))]) hx hb dBo_boundOf_78 hl (by decide) rfl (fun ls hl => ?_)
            refine lv_iinc (v := nI (nu * 100 + (k24 + 1))) (lv' := [(7, .int (nI (nu * 100 + (k24 + 1)))), (4, .int ((lf_Bo_boundOf_24 (G 2) (G 3) (G 4) (G 5) (G 7) (G 14) nu st 0 k24) + (G 7 (nu * 100 + k24)))), (6, .int (nI ((nu * 100) + ((G 6 nu).toNatClampNeg)))), (5, .int (nI (nu * 100))), (0, .ref (oa 3)), (1, .int (nI nu)), (2, .ref (ca 14)), (3, .int (nI st))]) hx hb dBo_boundOf_80 hl (k := 1) rfl (by exact ii_1 (nu * 100 + k24)) (by decide) rfl (fun ls hl => ?_)
            refine lv_goto (tgt := 24) hx hb dBo_boundOf_83 (by decide) ?_
            have eb24 : lf_Bo_boundOf_24 (G 2) (G 3) (G 4) (G 5) (G 7) (G 14) nu st 0 (k24 + 1) = (lf_Bo_boundOf_24 (G 2) (G 3) (G 4) (G 5) (G 7) (G 14) nu st 0 k24) + (G 7 (nu * 100 + k24)) := by rw [lf_Bo_boundOf_24, if_neg c42, if_pos c52]
            exact ih24 (k24 + 1) (by omega) (by omega)  ls (by rw [eb24]; exact lv_sub hl [0, 2, 3, 1, 4, 5, 6, 7] rfl)
          · refine lv_aload_n hx hb dBo_boundOf_55 rfl (lv_at hl 4 rfl) ?_
            refine va_get (D := D) (ci := 4) (v := .ref (oa 2)) (C := RBo) (T := TBo) (N := 10) hx hb hts inBo_ hown hK hP 3 rfl hcl.2.2.2.1 1 (by decide) f47 (fun _ h9 => h9) rfl dBo_boundOf_56 ?_
            refine lv_iload hx hb dBo_boundOf_59 (lv_at hl 0 rfl) ?_
            refine lv_iload_n hx hb dBo_boundOf_61 rfl (lv_at hl 7 rfl) ?_
            refine ro_callV (r := (.int (mr_Ma_isSettled (G 2) (G 4) (nu * 100 + k24) st))) (As := [.int (nI (nu * 100 + k24)), .int (nI st)]) (rest := []) Sx (c_Ma_isSettled l D cl hcl oa ca ck F G hP (nu * 100 + k24) st (by omega)) (cwV 2 hts gBo_boundOf_Ma_isSettled rfl rfl rfl (by decide +kernel) ⟨Nat.le_of_ble_eq_true rfl, Nat.le_of_ble_eq_true rfl⟩) hK (va_recv hK hP (ci := 3) (q0 := 2) hcl.2.2.1 rfl) rfl hl.1 rfl (Nat.le_of_ble_eq_true rfl) dBo_boundOf_62 ⟨Nat.zero_le _, Nat.zero_le _⟩ ?_
            refine lv_if_eq (tgt := 80) hx hb dBo_boundOf_65 (by decide) (fun c65 => ?_) (fun c65 => ?_)
            · refine lv_iinc (v := nI (nu * 100 + (k24 + 1))) (lv' := [(7, .int (nI (nu * 100 + (k24 + 1)))), (6, .int (nI ((nu * 100) + ((G 6 nu).toNatClampNeg)))), (5, .int (nI (nu * 100))), (4, .int (lf_Bo_boundOf_24 (G 2) (G 3) (G 4) (G 5) (G 7) (G 14) nu st 0 k24)), (0, .ref (oa 3)), (1, .int (nI nu)), (2, .ref (ca 14)), (3, .int (nI st))]) hx hb dBo_boundOf_80 hl (k := 0) rfl (by exact ii_1 (nu * 100 + k24)) (by decide) rfl (fun ls hl => ?_)
              refine lv_goto (tgt := 24) hx hb dBo_boundOf_83 (by decide) ?_
              have eb24 : lf_Bo_boundOf_24 (G 2) (G 3) (G 4) (G 5) (G 7) (G 14) nu st 0 (k24 + 1) = lf_Bo_boundOf_24 (G 2) (G 3) (G 4) (G 5) (G 7) (G 14) nu st 0 k24 := by rw [lf_Bo_boundOf_24, if_neg c42, if_neg c52, if_pos c65]
              exact ih24 (k24 + 1) (by omega) (by omega)  ls (by rw [eb24]; exact lv_sub hl [0, 1, 2, 3, 4, 5, 6, 7] rfl)
            · refine lv_iload hx hb dBo_boundOf_68 (lv_at hl 3 rfl) ?_
              refine lv_aload_n hx hb dBo_boundOf_70 rfl (lv_at hl 4 rfl) ?_
              refine va_get (D := D) (ci := 4) (v := .ref (ca 7)) (C := RBo) (T := TBo) (N := 10) hx hb hts inBo_ hown hK hP 3 rfl hcl.2.2.2.1 3 (by decide) f15 (fun _ h9 => h9) rfl dBo_boundOf_71 ?_
              refine lv_iload hx hb dBo_boundOf_74 (lv_at hl 0 rfl) ?_
              have sd76 : (nu * 100 + k24) < 400 := by omega
              refine wn_iald (f := G 7) hx hb hK hP 15 7 rfl rfl (nu * 100 + k24) rfl sd76 (by decide) dBo_boundOf_76 ?_
              refine lv_iadd hx hb dBo_boundOf_77 ?_
              refine lv_istore (lv' := [(4, .int ((lf_Bo_boundOf_24 (G 2) (G 3) (G 4) (G 5) (G 7) (G 14) nu st 0 k24) + (G 7 (nu * 100 + k24)))), (7, .int (nI (nu * 100 + k24))), (6, .int (nI ((nu * 100) + ((G 6 nu).toNatClampNeg)))), (5, .int (nI (nu * 100))), (0, .ref (oa 3)), (1, .int (nI nu)), (2, .ref (ca 14)), (3, .int (nI st))]) hx hb dBo_boundOf_78 hl (by decide) rfl (fun ls hl => ?_)
              refine lv_iinc (v := nI (nu * 100 + (k24 + 1))) (lv' := [(7, .int (nI (nu * 100 + (k24 + 1)))), (4, .int ((lf_Bo_boundOf_24 (G 2) (G 3) (G 4) (G 5) (G 7) (G 14) nu st 0 k24) + (G 7 (nu * 100 + k24)))), (6, .int (nI ((nu * 100) + ((G 6 nu).toNatClampNeg)))), (5, .int (nI (nu * 100))), (0, .ref (oa 3)), (1, .int (nI nu)), (2, .ref (ca 14)), (3, .int (nI st))]) hx hb dBo_boundOf_80 hl (k := 1) rfl (by exact ii_1 (nu * 100 + k24)) (by decide) rfl (fun ls hl => ?_)
              refine lv_goto (tgt := 24) hx hb dBo_boundOf_83 (by decide) ?_
              have eb24 : lf_Bo_boundOf_24 (G 2) (G 3) (G 4) (G 5) (G 7) (G 14) nu st 0 (k24 + 1) = (lf_Bo_boundOf_24 (G 2) (G 3) (G 4) (G 5) (G 7) (G 14) nu st 0 k24) + (G 7 (nu * 100 + k24)) := by rw [lf_Bo_boundOf_24, if_neg c42, if_neg c52, if_neg c65]
              exact ih24 (k24 + 1) (by omega) (by omega)  ls (by rw [eb24]; exact lv_sub hl [0, 2, 3, 1, 4, 5, 6, 7] rfl)
  exact loop24 _ 0 (Nat.zero_le _) (Nat.lt_succ_self _)  ls (lv_sub hl [0, 1, 2, 3, 4, 5, 6, 7] rfl)
def lf_Bo_barsRow_14 (g2 : Nat → Int32) (g3 : Nat → Int32) (g4 : Nat → Int32) (g5 : Nat → Int32) (g14 : Nat → Int32) (nR : Nat) (st : Nat) (ql3_14 : Int32) : Nat → Nat → Int32
  | 0, j => 0
  | N + 1, j => (if ql3_14 ≤ (nI j) then 0 else (if (mr_Ma_isSettled g2 g4 j st) = 0 then lf_Bo_barsRow_14 g2 g3 g4 g5 g14 nR st ql3_14 N (j + 1) else (if (mr_Ma_isOpen g2 g3 g4 g5 g14 j st) = 0 then lf_Bo_barsRow_14 g2 g3 g4 g5 g14 nR st ql3_14 N (j + 1) else 1)))
def mr_Bo_barsRow (g2 : Nat → Int32) (g3 : Nat → Int32) (g4 : Nat → Int32) (g5 : Nat → Int32) (g14 : Nat → Int32) (nR : Nat) (st : Nat) : Int32 := lf_Bo_barsRow_14 g2 g3 g4 g5 g14 nR st (nI (400 + nR)) (nR + 1) 400
theorem zb_Bo_barsRow_14 (g2 : Nat → Int32) (g3 : Nat → Int32) (g4 : Nat → Int32) (g5 : Nat → Int32) (g14 : Nat → Int32) (nR : Nat) (st : Nat) (ql3_14 : Int32) : ∀ (N : Nat) (j : Nat), narrow .boolean (.int (lf_Bo_barsRow_14 g2 g3 g4 g5 g14 nR st ql3_14 N j)) = .int (lf_Bo_barsRow_14 g2 g3 g4 g5 g14 nR st ql3_14 N j) := by
  intro N
  induction N with
  | zero => intro j; rw [lf_Bo_barsRow_14]; exact zb_0
  | succ N ih => intro j; rw [lf_Bo_barsRow_14]; repeat' first | refine zb_i ?_ ?_ | exact zb_0 | exact zb_1 | exact ih _
set_option maxHeartbeats 4000000 in
set_option maxRecDepth 100000 in
theorem c_Bo_barsRow (l : Launch) (D : va_G) (cl : List vw_C) (hcl : cOK cl) (oa ca : Nat → Nat) (ck : Nat → ClassId) (F : Nat → Int32) (G : Nat → Nat → Int32) {H : Heap} (hP : va_P D cl (cW oa ca ck F G) H) (nR : Nat) (st : Nat) (mA : ∀ s, s < 440 → ∃ x : Nat, x < 8 ∧ G 2 s = nI x) (mB : ∀ s, s < 440 → G 4 s = -1 ∨ ∃ x : Nat, x < 8 ∧ G 4 s = nI x) (k3 : F 3 = nI nR) (hR : nR ≤ 40) (hst : st ≤ 8) : ro_Met l yBo_barsRow wsBo_barsRow ({ frames := 1, cells := 0, slots := 0, locals := 25 } : Room) D cl (cT ck) H [.ref (oa 3), .ref (ca 14), .int (nI st)] (.int (mr_Bo_barsRow (G 2) (G 3) (G 4) (G 5) (G 14) nR st)) := by
  refine ro_metZ (by unfold mr_Bo_barsRow; repeat' first | refine zb_i ?_ ?_ | exact zb_0 | exact zb_1 | apply zb_Bo_barsRow_14) (by decide) rfl (Nat.le_of_ble_eq_true rfl) ?_
  intro p e s m args below meth c Q Sx hK ls hl hret
  obtain ⟨hx, hb, hml, hown, hts⟩ := id Sx
  have hl : lv_has ls 5 [(0, .ref (oa 3)), (1, .ref (ca 14)), (2, .int (nI st))] := hl
  have f22 := hts _ (List.mem_cons_of_mem _ mfBo_22)
  have inBo_ : ∀ w ∈ wsBo0, w ∈ wsBo_barsRow := fun w h => List.mem_cons_of_mem _ (inBo_all w h)
  have f47 := hts _ (List.mem_cons_of_mem _ mfBo_47)
  refine lv_sipush (v := 400) hx hb dBo_barsRow_0 (by decide) ?_
  refine lv_aload_n hx hb dBo_barsRow_3 rfl (lv_at hl 0 rfl) ?_
  refine va_get (D := D) (ci := 4) (v := .int (F 3)) (C := RBo) (T := TBo) (N := 10) hx hb hts inBo_ hown hK hP 3 rfl hcl.2.2.2.1 5 (by decide) f22 (fun _ h9 => h9) rfl dBo_barsRow_4 ?_
  refine wt_i k3 ?_
  refine lv_iadd hx hb dBo_barsRow_7 ?_
  refine wt_i (r := nI (400 + nR)) (by exact nI_add 400 nR) ?_
  refine lv_istore_n (lv' := [(3, .int (nI (400 + nR))), (0, .ref (oa 3)), (1, .ref (ca 14)), (2, .int (nI st))]) hx hb dBo_barsRow_8 rfl hl (by decide) rfl (fun ls hl => ?_)
  refine lv_sipush (v := 400) hx hb dBo_barsRow_9 (by decide) ?_
  refine lv_istore (lv' := [(4, .int 400), (3, .int (nI (400 + nR))), (0, .ref (oa 3)), (1, .ref (ca 14)), (2, .int (nI st))]) hx hb dBo_barsRow_12 hl (by decide) rfl (fun ls hl => ?_)
  have loop14 : ∀ (N14 : Nat) (j : Nat), j ≤ 400 + nR → 400 + nR - j < N14 → lf_Bo_barsRow_14 (G 2) (G 3) (G 4) (G 5) (G 14) nR st (nI (400 + nR)) (nR + 1) 400 = lf_Bo_barsRow_14 (G 2) (G 3) (G 4) (G 5) (G 14) nR st (nI (400 + nR)) N14 j → ∀ (ls : Array Slot), lv_has ls 5 [(4, .int (nI j)), (3, .int (nI (400 + nR))), (0, .ref (oa 3)), (1, .ref (ca 14)), (2, .int (nI st))] → W p l e ({ frames := 1, cells := 0, slots := 0, locals := 25 } : Room) s m args below meth c H [] 0 0 Q (F0 m 14 ls []) := by
    intro N14
    induction N14 with
    | zero => intro j hj hm14; exact absurd hm14 (Nat.not_lt_zero _)
    | succ N14 ih14 =>
      intro j hj hm14 hR14 ls hl
      refine lv_iload hx hb dBo_barsRow_14 (lv_at hl 0 rfl) ?_
      refine lv_iload_n hx hb dBo_barsRow_16 rfl (lv_at hl 1 rfl) ?_
      refine lv_icmp_ge (tgt := 55) hx hb dBo_barsRow_17 (by decide) (fun c17 => ?_) (fun c17 => ?_)
      · have n17 : (400 + nR) ≤ j := (nI_leI (a := (400 + nR)) (b := j) (by omega) (by omega)).mp c17
        refine lv_iconst (v := 0) hx hb dBo_barsRow_55 (by decide) ?_
        exact hret _ _ _ (by rw [mr_Bo_barsRow, hR14, lf_Bo_barsRow_14, if_pos c17]) dBo_barsRow_56
      · have n17 : ¬ (400 + nR) ≤ j := fun h9 => c17 ((nI_leI (a := (400 + nR)) (b := j) (by omega) (by omega)).mpr h9)
        refine lv_aload_n hx hb dBo_barsRow_20 rfl (lv_at hl 2 rfl) ?_
        refine va_get (D := D) (ci := 4) (v := .ref (oa 2)) (C := RBo) (T := TBo) (N := 10) hx hb hts inBo_ hown hK hP 3 rfl hcl.2.2.2.1 1 (by decide) f47 (fun _ h9 => h9) rfl dBo_barsRow_21 ?_
        refine lv_iload hx hb dBo_barsRow_24 (lv_at hl 0 rfl) ?_
        refine lv_iload_n hx hb dBo_barsRow_26 rfl (lv_at hl 4 rfl) ?_
        refine ro_callV (r := (.int (mr_Ma_isSettled (G 2) (G 4) j st))) (As := [.int (nI j), .int (nI st)]) (rest := []) Sx (c_Ma_isSettled l D cl hcl oa ca ck F G hP j st (by omega)) (cwV 2 hts gBo_barsRow_Ma_isSettled rfl rfl rfl (by decide +kernel) ⟨Nat.le_of_ble_eq_true rfl, Nat.le_of_ble_eq_true rfl⟩) hK (va_recv hK hP (ci := 3) (q0 := 2) hcl.2.2.1 rfl) rfl hl.1 rfl (Nat.le_of_ble_eq_true rfl) dBo_barsRow_27 ⟨Nat.zero_le _, Nat.zero_le _⟩ ?_
        refine lv_if_eq (tgt := 49) hx hb dBo_barsRow_30 (by decide) (fun c30 => ?_) (fun c30 => ?_)
        · refine lv_iinc (v := nI (j + 1)) (lv' := [(4, .int (nI (j + 1))), (3, .int (nI (400 + nR))), (0, .ref (oa 3)), (1, .ref (ca 14)), (2, .int (nI st))]) hx hb dBo_barsRow_49 hl (k := 0) rfl (by exact ii_1 j) (by decide) rfl (fun ls hl => ?_)
          refine lv_goto (tgt := 14) hx hb dBo_barsRow_52 (by decide) ?_
          have er14 : lf_Bo_barsRow_14 (G 2) (G 3) (G 4) (G 5) (G 14) nR st (nI (400 + nR)) (N14 + 1) j = lf_Bo_barsRow_14 (G 2) (G 3) (G 4) (G 5) (G 14) nR st (nI (400 + nR)) N14 (j + 1) := by rw [lf_Bo_barsRow_14, if_neg c17, if_pos c30]
          exact ih14 (j + 1) (by omega) (by omega) (hR14.trans er14) ls (lv_sub hl [0, 1, 2, 3, 4] rfl)
        · refine lv_aload_n hx hb dBo_barsRow_33 rfl (lv_at hl 2 rfl) ?_
          refine va_get (D := D) (ci := 4) (v := .ref (oa 2)) (C := RBo) (T := TBo) (N := 10) hx hb hts inBo_ hown hK hP 3 rfl hcl.2.2.2.1 1 (by decide) f47 (fun _ h9 => h9) rfl dBo_barsRow_34 ?_
          refine lv_iload hx hb dBo_barsRow_37 (lv_at hl 0 rfl) ?_
          refine lv_aload_n hx hb dBo_barsRow_39 rfl (lv_at hl 3 rfl) ?_
          refine lv_iload_n hx hb dBo_barsRow_40 rfl (lv_at hl 4 rfl) ?_
          refine ro_callV (r := (.int (mr_Ma_isOpen (G 2) (G 3) (G 4) (G 5) (G 14) j st))) (As := [.int (nI j), .ref (ca 14), .int (nI st)]) (rest := []) Sx (c_Ma_isOpen l D cl hcl oa ca ck F G hP j st (by omega) (mA j (by omega)) (mB j (by omega))) (cwV 3 hts gBo_barsRow_Ma_isOpen rfl rfl rfl (by decide +kernel) ⟨Nat.le_of_ble_eq_true rfl, Nat.le_of_ble_eq_true rfl⟩) hK (va_recv hK hP (ci := 3) (q0 := 2) hcl.2.2.1 rfl) rfl hl.1 rfl (Nat.le_of_ble_eq_true rfl) dBo_barsRow_41 ⟨Nat.zero_le _, Nat.zero_le _⟩ ?_
          refine lv_if_eq (tgt := 49) hx hb dBo_barsRow_44 (by decide) (fun c44 => ?_) (fun c44 => ?_)
          · refine lv_iinc (v := nI (j + 1)) (lv' := [(4, .int (nI (j + 1))), (3, .int (nI (400 + nR))), (0, .ref (oa 3)), (1, .ref (ca 14)), (2, .int (nI st))]) hx hb dBo_barsRow_49 hl (k := 0) rfl (by exact ii_1 j) (by decide) rfl (fun ls hl => ?_)
            refine lv_goto (tgt := 14) hx hb dBo_barsRow_52 (by decide) ?_
            have er14 : lf_Bo_barsRow_14 (G 2) (G 3) (G 4) (G 5) (G 14) nR st (nI (400 + nR)) (N14 + 1) j = lf_Bo_barsRow_14 (G 2) (G 3) (G 4) (G 5) (G 14) nR st (nI (400 + nR)) N14 (j + 1) := by rw [lf_Bo_barsRow_14, if_neg c17, if_neg c30, if_pos c44]
            exact ih14 (j + 1) (by omega) (by omega) (hR14.trans er14) ls (lv_sub hl [0, 1, 2, 3, 4] rfl)
          · refine lv_iconst (v := 1) hx hb dBo_barsRow_47 (by decide) ?_
            exact hret _ _ _ (by rw [mr_Bo_barsRow, hR14, lf_Bo_barsRow_14, if_neg c17, if_neg c30, if_neg c44]) dBo_barsRow_48
  exact loop14 (nR + 1) 400 (by omega) (by omega) rfl ls (lv_sub hl [0, 1, 2, 3, 4] rfl)
def lf_Bo_limitsRow_2 (g2 : Nat → Int32) (g3 : Nat → Int32) (g4 : Nat → Int32) (g5 : Nat → Int32) (g6 : Nat → Int32) (g7 : Nat → Int32) (g8 : Nat → Int32) (g9 : Nat → Int32) (g14 : Nat → Int32) (st : Nat) : Nat → Nat → Int32
  | 0, n => 0
  | N + 1, n => (if 4 ≤ (nI n) then 0 else (if (g8 n) = 0 then lf_Bo_limitsRow_2 g2 g3 g4 g5 g6 g7 g8 g9 g14 st N (n + 1) else (if (mr_Bo_boundOf g2 g3 g4 g5 g6 g7 g14 n st) ≤ (g9 n) then lf_Bo_limitsRow_2 g2 g3 g4 g5 g6 g7 g8 g9 g14 st N (n + 1) else 1)))
def mr_Bo_limitsRow (g2 : Nat → Int32) (g3 : Nat → Int32) (g4 : Nat → Int32) (g5 : Nat → Int32) (g6 : Nat → Int32) (g7 : Nat → Int32) (g8 : Nat → Int32) (g9 : Nat → Int32) (g14 : Nat → Int32) (st : Nat) : Int32 := lf_Bo_limitsRow_2 g2 g3 g4 g5 g6 g7 g8 g9 g14 st 5 0
theorem zb_Bo_limitsRow_2 (g2 : Nat → Int32) (g3 : Nat → Int32) (g4 : Nat → Int32) (g5 : Nat → Int32) (g6 : Nat → Int32) (g7 : Nat → Int32) (g8 : Nat → Int32) (g9 : Nat → Int32) (g14 : Nat → Int32) (st : Nat) : ∀ (N : Nat) (n : Nat), narrow .boolean (.int (lf_Bo_limitsRow_2 g2 g3 g4 g5 g6 g7 g8 g9 g14 st N n)) = .int (lf_Bo_limitsRow_2 g2 g3 g4 g5 g6 g7 g8 g9 g14 st N n) := by
  intro N
  induction N with
  | zero => intro n; rw [lf_Bo_limitsRow_2]; exact zb_0
  | succ N ih => intro n; rw [lf_Bo_limitsRow_2]; repeat' first | refine zb_i ?_ ?_ | exact zb_0 | exact zb_1 | exact ih _
set_option maxHeartbeats 4000000 in
set_option maxRecDepth 100000 in
theorem c_Bo_limitsRow (l : Launch) (D : va_G) (cl : List vw_C) (hcl : cOK cl) (oa ca : Nat → Nat) (ck : Nat → ClassId) (F : Nat → Int32) (G : Nat → Nat → Int32) {H : Heap} (hP : va_P D cl (cW oa ca ck F G) H) (st : Nat) (mA : ∀ s, s < 440 → ∃ x : Nat, x < 8 ∧ G 2 s = nI x) (mB : ∀ s, s < 440 → G 4 s = -1 ∨ ∃ x : Nat, x < 8 ∧ G 4 s = nI x) (mQ : ∀ n, n < 4 → ∃ t : Nat, t < 101 ∧ G 6 n = nI t) (hst : st ≤ 8) : ro_Met l yBo_limitsRow wsBo_limitsRow ({ frames := 2, cells := 0, slots := 0, locals := 52 } : Room) D cl (cT ck) H [.ref (oa 3), .ref (ca 14), .int (nI st)] (.int (mr_Bo_limitsRow (G 2) (G 3) (G 4) (G 5) (G 6) (G 7) (G 8) (G 9) (G 14) st)) := by
  refine ro_metZ (by unfold mr_Bo_limitsRow; repeat' first | refine zb_i ?_ ?_ | exact zb_0 | exact zb_1 | apply zb_Bo_limitsRow_2) (by decide) rfl (Nat.le_of_ble_eq_true rfl) ?_
  intro p e s m args below meth c Q Sx hK ls hl hret
  obtain ⟨hx, hb, hml, hown, hts⟩ := id Sx
  have hl : lv_has ls 4 [(0, .ref (oa 3)), (1, .ref (ca 14)), (2, .int (nI st))] := hl
  have f25 := hts _ (List.mem_cons_of_mem _ mfBo_25)
  have inBo_ : ∀ w ∈ wsBo0, w ∈ wsBo_limitsRow := fun w h => List.mem_cons_of_mem _ (inBo_all w h)
  have f29 := hts _ (List.mem_cons_of_mem _ mfBo_29)
  refine lv_iconst (v := 0) hx hb dBo_limitsRow_0 (by decide) ?_
  refine lv_istore_n (lv' := [(3, .int 0), (0, .ref (oa 3)), (1, .ref (ca 14)), (2, .int (nI st))]) hx hb dBo_limitsRow_1 rfl hl (by decide) rfl (fun ls hl => ?_)
  have loop2 : ∀ (N2 : Nat) (n : Nat), n ≤ 4 → 4 - n < N2 → lf_Bo_limitsRow_2 (G 2) (G 3) (G 4) (G 5) (G 6) (G 7) (G 8) (G 9) (G 14) st 5 0 = lf_Bo_limitsRow_2 (G 2) (G 3) (G 4) (G 5) (G 6) (G 7) (G 8) (G 9) (G 14) st N2 n → ∀ (ls : Array Slot), lv_has ls 4 [(3, .int (nI n)), (0, .ref (oa 3)), (1, .ref (ca 14)), (2, .int (nI st))] → W p l e ({ frames := 2, cells := 0, slots := 0, locals := 52 } : Room) s m args below meth c H [] 0 0 Q (F0 m 2 ls []) := by
    intro N2
    induction N2 with
    | zero => intro n hn4 hm2; exact absurd hm2 (Nat.not_lt_zero _)
    | succ N2 ih2 =>
      intro n hn4 hm2 hR2 ls hl
      refine lv_iload_n hx hb dBo_limitsRow_2 rfl (lv_at hl 0 rfl) ?_
      refine lv_iconst (v := 4) hx hb dBo_limitsRow_3 (by decide) ?_
      refine lv_icmp_ge (tgt := 40) hx hb dBo_limitsRow_4 (by decide) (fun c4 => ?_) (fun c4 => ?_)
      · have n4 : 4 ≤ n := (nI_leI (a := 4) (b := n) (by omega) (by omega)).mp c4
        refine lv_iconst (v := 0) hx hb dBo_limitsRow_40 (by decide) ?_
        exact hret _ _ _ (by rw [mr_Bo_limitsRow, hR2, lf_Bo_limitsRow_2, if_pos c4]) dBo_limitsRow_41
      · have n4 : ¬ 4 ≤ n := fun h9 => c4 ((nI_leI (a := 4) (b := n) (by omega) (by omega)).mpr h9)
        refine lv_aload_n hx hb dBo_limitsRow_7 rfl (lv_at hl 1 rfl) ?_
        refine va_get (D := D) (ci := 4) (v := .ref (ca 8)) (C := RBo) (T := TBo) (N := 10) hx hb hts inBo_ hown hK hP 3 rfl hcl.2.2.2.1 6 (by decide) f25 (fun _ h9 => h9) rfl dBo_limitsRow_8 ?_
        refine lv_iload_n hx hb dBo_limitsRow_11 rfl (lv_at hl 0 rfl) ?_
        have sd12 : n < 4 := by omega
        refine wn_zald (f := G 8) hx hb hK hP 16 8 rfl rfl n rfl sd12 (by decide) dBo_limitsRow_12 ?_
        refine lv_if_eq (tgt := 34) hx hb dBo_limitsRow_13 (by decide) (fun c13 => ?_) (fun c13 => ?_)
        · refine lv_iinc (v := nI (n + 1)) (lv' := [(3, .int (nI (n + 1))), (0, .ref (oa 3)), (1, .ref (ca 14)), (2, .int (nI st))]) hx hb dBo_limitsRow_34 hl (k := 0) rfl (by exact ii_1 n) (by decide) rfl (fun ls hl => ?_)
          refine lv_goto (tgt := 2) hx hb dBo_limitsRow_37 (by decide) ?_
          have er2 : lf_Bo_limitsRow_2 (G 2) (G 3) (G 4) (G 5) (G 6) (G 7) (G 8) (G 9) (G 14) st (N2 + 1) n = lf_Bo_limitsRow_2 (G 2) (G 3) (G 4) (G 5) (G 6) (G 7) (G 8) (G 9) (G 14) st N2 (n + 1) := by rw [lf_Bo_limitsRow_2, if_neg c4, if_pos c13]
          exact ih2 (n + 1) (by omega) (by omega) (hR2.trans er2) ls (lv_sub hl [0, 1, 2, 3] rfl)
        · refine lv_aload_n hx hb dBo_limitsRow_16 rfl (lv_at hl 1 rfl) ?_
          refine lv_iload_n hx hb dBo_limitsRow_17 rfl (lv_at hl 0 rfl) ?_
          refine lv_aload_n hx hb dBo_limitsRow_18 rfl (lv_at hl 2 rfl) ?_
          refine lv_iload_n hx hb dBo_limitsRow_19 rfl (lv_at hl 3 rfl) ?_
          refine ro_callV (r := (.int (mr_Bo_boundOf (G 2) (G 3) (G 4) (G 5) (G 6) (G 7) (G 14) n st))) (As := [.int (nI n), .ref (ca 14), .int (nI st)]) (rest := []) Sx (c_Bo_boundOf l D cl hcl oa ca ck F G hP n st mA mB (by omega) hst (mQ n (by omega))) (cwV 3 hts gBo_limitsRow_Bo_boundOf rfl rfl rfl (by decide +kernel) ⟨Nat.le_of_ble_eq_true rfl, Nat.le_of_ble_eq_true rfl⟩) hK (va_recv hK hP (ci := 4) (q0 := 3) hcl.2.2.2.1 rfl) rfl hl.1 rfl (Nat.le_of_ble_eq_true rfl) dBo_limitsRow_20 ⟨Nat.zero_le _, Nat.zero_le _⟩ ?_
          refine lv_aload_n hx hb dBo_limitsRow_23 rfl (lv_at hl 1 rfl) ?_
          refine va_get (D := D) (ci := 4) (v := .ref (ca 9)) (C := RBo) (T := TBo) (N := 10) hx hb hts inBo_ hown hK hP 3 rfl hcl.2.2.2.1 7 (by decide) f29 (fun _ h9 => h9) rfl dBo_limitsRow_24 ?_
          refine lv_iload_n hx hb dBo_limitsRow_27 rfl (lv_at hl 0 rfl) ?_
          have sd28 : n < 4 := by omega
          refine wn_iald (f := G 9) hx hb hK hP 17 9 rfl rfl n rfl sd28 (by decide) dBo_limitsRow_28 ?_
          refine lv_icmp_le (tgt := 34) hx hb dBo_limitsRow_29 (by decide) (fun c29 => ?_) (fun c29 => ?_)
          · refine lv_iinc (v := nI (n + 1)) (lv' := [(3, .int (nI (n + 1))), (0, .ref (oa 3)), (1, .ref (ca 14)), (2, .int (nI st))]) hx hb dBo_limitsRow_34 hl (k := 0) rfl (by exact ii_1 n) (by decide) rfl (fun ls hl => ?_)
            refine lv_goto (tgt := 2) hx hb dBo_limitsRow_37 (by decide) ?_
            have er2 : lf_Bo_limitsRow_2 (G 2) (G 3) (G 4) (G 5) (G 6) (G 7) (G 8) (G 9) (G 14) st (N2 + 1) n = lf_Bo_limitsRow_2 (G 2) (G 3) (G 4) (G 5) (G 6) (G 7) (G 8) (G 9) (G 14) st N2 (n + 1) := by rw [lf_Bo_limitsRow_2, if_neg c4, if_neg c13, if_pos c29]
            exact ih2 (n + 1) (by omega) (by omega) (hR2.trans er2) ls (lv_sub hl [0, 1, 2, 3] rfl)
          · refine lv_iconst (v := 1) hx hb dBo_limitsRow_32 (by decide) ?_
            exact hret _ _ _ (by rw [mr_Bo_limitsRow, hR2, lf_Bo_limitsRow_2, if_neg c4, if_neg c13, if_neg c29]) dBo_limitsRow_33
  exact loop2 5 0 (by omega) (by omega) rfl ls (lv_sub hl [0, 1, 2, 3] rfl)
def lf_Bo_differenceAlong_12 (g0 : Nat → Int32) (g8 : Nat → Int32) (g9 : Nat → Int32) (g10 : Nat → Int32) (g11 : Nat → Int32) (nC : Nat) (f : Nat) (ch : Nat) (nu : Nat) (i0 : Int32) (i1 : Int64) (i2 : Int64) : Nat → Int32 × Int64 × Int64
  | 0 => (i0, i1, i2)
  | k12 + 1 => (if (mr_Bo_allows g8 g9 g10 g11 (f + (k12 * (pc_ (zg g0) nC ch)))) = 0 then ((lf_Bo_differenceAlong_12 g0 g8 g9 g10 g11 nC f ch nu i0 i1 i2 k12).1, (lf_Bo_differenceAlong_12 g0 g8 g9 g10 g11 nC f ch nu i0 i1 i2 k12).2.1, (lf_Bo_differenceAlong_12 g0 g8 g9 g10 g11 nC f ch nu i0 i1 i2 k12).2.2) else (if ((lf_Bo_differenceAlong_12 g0 g8 g9 g10 g11 nC f ch nu i0 i1 i2 k12).1) = 0 then (1, (mr_Bo_sumOf g10 (f + (k12 * (pc_ (zg g0) nC ch))) nu).toInt64, (mr_Bo_sumOf g10 (f + (k12 * (pc_ (zg g0) nC ch))) nu).toInt64) else (1, (if ((mr_Bo_sumOf g10 (f + (k12 * (pc_ (zg g0) nC ch))) nu).toInt64) < ((lf_Bo_differenceAlong_12 g0 g8 g9 g10 g11 nC f ch nu i0 i1 i2 k12).2.1) then (mr_Bo_sumOf g10 (f + (k12 * (pc_ (zg g0) nC ch))) nu).toInt64 else (lf_Bo_differenceAlong_12 g0 g8 g9 g10 g11 nC f ch nu i0 i1 i2 k12).2.1 : Int64), (if ((mr_Bo_sumOf g10 (f + (k12 * (pc_ (zg g0) nC ch))) nu).toInt64) < ((lf_Bo_differenceAlong_12 g0 g8 g9 g10 g11 nC f ch nu i0 i1 i2 k12).2.2) then (lf_Bo_differenceAlong_12 g0 g8 g9 g10 g11 nC f ch nu i0 i1 i2 k12).2.2 else (mr_Bo_sumOf g10 (f + (k12 * (pc_ (zg g0) nC ch))) nu).toInt64 : Int64))))
def mr_Bo_differenceAlong (g0 : Nat → Int32) (g8 : Nat → Int32) (g9 : Nat → Int32) (g10 : Nat → Int32) (g11 : Nat → Int32) (nC : Nat) (f : Nat) (ch : Nat) (nu : Nat) : Int64 := (((lf_Bo_differenceAlong_12 g0 g8 g9 g10 g11 nC f ch nu 0 0 0 (zg g0 ch)).2.2) - ((lf_Bo_differenceAlong_12 g0 g8 g9 g10 g11 nC f ch nu 0 0 0 (zg g0 ch)).2.1))
set_option maxHeartbeats 4000000 in
set_option maxRecDepth 100000 in
theorem c_Bo_differenceAlong (l : Launch) (D : va_G) (cl : List vw_C) (hcl : cOK cl) (oa ca : Nat → Nat) (ck : Nat → ClassId) (F : Nat → Int32) (G : Nat → Nat → Int32) {H : Heap} (hP : va_P D cl (cW oa ca ck F G) H) (nC : Nat) (f : Nat) (ch : Nat) (nu : Nat) (hch : ch < 8) (hnu : nu < 4) (xz : G 0 ch = nI (zg (G 0) ch)) (hz6 : zg (G 0) ch ≤ 6) (xp : G 1 ch = nI (pc_ (zg (G 0)) nC ch)) (hf : ∀ v, v < zg (G 0) ch → f + v * pc_ (zg (G 0)) nC ch < 4096) : ro_Met l yBo_differenceAlong wsBo_differenceAlong ({ frames := 2, cells := 0, slots := 0, locals := 44 } : Room) D cl (cT ck) H [.ref (oa 3), .int (nI f), .int (nI ch), .int (nI nu)] (.long (mr_Bo_differenceAlong (G 0) (G 8) (G 9) (G 10) (G 11) nC f ch nu)) := by
  refine ro_metJ (by decide) rfl (Nat.le_of_ble_eq_true rfl) ?_
  intro p e s m args below meth c Q Sx hK ls hl hret
  obtain ⟨hx, hb, hml, hown, hts⟩ := id Sx
  have hl : lv_has ls 13 [(0, .ref (oa 3)), (1, .int (nI f)), (2, .int (nI ch)), (3, .int (nI nu))] := hl
  have f38 := hts _ (List.mem_cons_of_mem _ mfBo_38)
  have inBo_ : ∀ w ∈ wsBo0, w ∈ wsBo_differenceAlong := fun w h => List.mem_cons_of_mem _ (inBo_all w h)
  have f96 := hts _ (List.mem_cons_of_mem _ mfBo_96)
  have inSh_ : ∀ w ∈ wsSh0, w ∈ wsBo_differenceAlong := fun w h => List.mem_cons_of_mem _ (inSh_all w h)
  have f99 := hts _ (List.mem_cons_of_mem _ mfBo_99)
  have wml106 := hts _ (List.mem_cons_of_mem _ mlBo_106)
  have wms_minJ := hts _ (List.mem_cons_of_mem _ msMath_minJ)
  have wmnMath := hts _ (List.mem_cons_of_mem _ mnMath)
  have wmc_minJ := hts _ (List.mem_cons_of_mem _ mcMath_minJ)
  have wml90 := hts _ (List.mem_cons_of_mem _ mlBo_90)
  have wms_maxJ := hts _ (List.mem_cons_of_mem _ msMath_maxJ)
  have wmc_maxJ := hts _ (List.mem_cons_of_mem _ mcMath_maxJ)
  refine lv_iconst (v := 0) hx hb dBo_differenceAlong_0 (by decide) ?_
  refine lv_istore (lv' := [(4, .int 0), (0, .ref (oa 3)), (1, .int (nI f)), (2, .int (nI ch)), (3, .int (nI nu))]) hx hb dBo_differenceAlong_1 hl (by decide) rfl (fun ls hl => ?_)
  refine lv_lconst (v := 0) hx hb dBo_differenceAlong_3 (by decide) ?_
  refine lv_lstore (lv' := [(5, .long 0), (4, .int 0), (0, .ref (oa 3)), (1, .int (nI f)), (2, .int (nI ch)), (3, .int (nI nu))]) hx hb dBo_differenceAlong_4 hl (by decide) rfl (fun ls hl => ?_)
  refine lv_lconst (v := 0) hx hb dBo_differenceAlong_6 (by decide) ?_
  refine lv_lstore (lv' := [(7, .long 0), (5, .long 0), (4, .int 0), (0, .ref (oa 3)), (1, .int (nI f)), (2, .int (nI ch)), (3, .int (nI nu))]) hx hb dBo_differenceAlong_7 hl (by decide) rfl (fun ls hl => ?_)
  refine lv_iconst (v := 0) hx hb dBo_differenceAlong_9 (by decide) ?_
  refine lv_istore (lv' := [(9, .int 0), (7, .long 0), (5, .long 0), (4, .int 0), (0, .ref (oa 3)), (1, .int (nI f)), (2, .int (nI ch)), (3, .int (nI nu))]) hx hb dBo_differenceAlong_10 hl (by decide) rfl (fun ls hl => ?_)
  have loop12 : ∀ (N12 k12 : Nat), k12 ≤ zg (G 0) ch → zg (G 0) ch - k12 < N12 → ∀ (ls : Array Slot), lv_has ls 13 [(9, .int (nI k12)), (7, .long ((lf_Bo_differenceAlong_12 (G 0) (G 8) (G 9) (G 10) (G 11) nC f ch nu 0 0 0 k12).2.2)), (5, .long ((lf_Bo_differenceAlong_12 (G 0) (G 8) (G 9) (G 10) (G 11) nC f ch nu 0 0 0 k12).2.1)), (4, .int ((lf_Bo_differenceAlong_12 (G 0) (G 8) (G 9) (G 10) (G 11) nC f ch nu 0 0 0 k12).1)), (0, .ref (oa 3)), (1, .int (nI f)), (2, .int (nI ch)), (3, .int (nI nu))] → W p l e ({ frames := 2, cells := 0, slots := 0, locals := 44 } : Room) s m args below meth c H [] 0 0 Q (F0 m 12 ls []) := by
    intro N12
    induction N12 with
    | zero => intro k12 hk12 hm12; exact absurd hm12 (Nat.not_lt_zero _)
    | succ N12 ih12 =>
      intro k12 hk12 hm12  ls hl
      refine lv_iload hx hb dBo_differenceAlong_12 (lv_at hl 0 rfl) ?_
      refine lv_aload_n hx hb dBo_differenceAlong_14 rfl (lv_at hl 4 rfl) ?_
      refine va_get (D := D) (ci := 4) (v := .ref (oa 1)) (C := RBo) (T := TBo) (N := 10) hx hb hts inBo_ hown hK hP 3 rfl hcl.2.2.2.1 0 (by decide) f38 (fun _ h9 => h9) rfl dBo_differenceAlong_15 ?_
      refine va_get (D := D) (ci := 2) (v := .ref (ca 0)) (C := RSh) (T := TSh) (N := 4) hx hb hts inSh_ hown hK hP 1 rfl hcl.2.1 0 (by decide) f96 (fun _ h9 => h9) rfl dBo_differenceAlong_18 ?_
      refine lv_iload_n hx hb dBo_differenceAlong_21 rfl (lv_at hl 6 rfl) ?_
      have sd22 : ch < 8 := by omega
      refine wn_iald (f := G 0) hx hb hK hP 8 0 rfl rfl ch rfl sd22 (by decide) dBo_differenceAlong_22 ?_
      refine wt_i (r := nI (zg (G 0) ch)) (by exact xz) ?_
      refine lv_icmp_ge (tgt := 108) hx hb dBo_differenceAlong_23 (by decide) (fun c23 => ?_) (fun c23 => ?_)
      · have n23 : (zg (G 0) ch) ≤ k12 := (nI_leI (a := (zg (G 0) ch)) (b := k12) (by omega) (by omega)).mp c23
        have hx12 : zg (G 0) ch = k12 := by omega
        subst hx12
        refine lv_lload hx hb dBo_differenceAlong_108 (lv_at hl 1 rfl) ?_
        refine lv_lload hx hb dBo_differenceAlong_110 (lv_at hl 2 rfl) ?_
        refine lv_lsub hx hb dBo_differenceAlong_112 ?_
        exact hret _ _ _ (by rw [mr_Bo_differenceAlong]) dBo_differenceAlong_113
      · have n23 : ¬ (zg (G 0) ch) ≤ k12 := fun h9 => c23 ((nI_leI (a := (zg (G 0) ch)) (b := k12) (by omega) (by omega)).mpr h9)
        refine lv_iload_n hx hb dBo_differenceAlong_26 rfl (lv_at hl 5 rfl) ?_
        refine lv_iload hx hb dBo_differenceAlong_27 (lv_at hl 0 rfl) ?_
        refine lv_aload_n hx hb dBo_differenceAlong_29 rfl (lv_at hl 4 rfl) ?_
        refine va_get (D := D) (ci := 4) (v := .ref (oa 1)) (C := RBo) (T := TBo) (N := 10) hx hb hts inBo_ hown hK hP 3 rfl hcl.2.2.2.1 0 (by decide) f38 (fun _ h9 => h9) rfl dBo_differenceAlong_30 ?_
        refine va_get (D := D) (ci := 2) (v := .ref (ca 1)) (C := RSh) (T := TSh) (N := 4) hx hb hts inSh_ hown hK hP 1 rfl hcl.2.1 1 (by decide) f99 (fun _ h9 => h9) rfl dBo_differenceAlong_33 ?_
        refine lv_iload_n hx hb dBo_differenceAlong_36 rfl (lv_at hl 6 rfl) ?_
        have sd37 : ch < 8 := by omega
        refine wn_iald (f := G 1) hx hb hK hP 9 1 rfl rfl ch rfl sd37 (by decide) dBo_differenceAlong_37 ?_
        refine wt_i (r := nI (pc_ (zg (G 0)) nC ch)) (by exact xp) ?_
        refine lv_imul hx hb dBo_differenceAlong_38 ?_
        refine wt_i (r := nI (k12 * (pc_ (zg (G 0)) nC ch))) (by exact pk_mul k12 (pc_ (zg (G 0)) nC ch)) ?_
        refine lv_iadd hx hb dBo_differenceAlong_39 ?_
        refine wt_i (r := nI (f + (k12 * (pc_ (zg (G 0)) nC ch)))) (by exact nI_add f (k12 * (pc_ (zg (G 0)) nC ch))) ?_
        refine lv_istore (lv' := [(10, .int (nI (f + (k12 * (pc_ (zg (G 0)) nC ch))))), (9, .int (nI k12)), (7, .long ((lf_Bo_differenceAlong_12 (G 0) (G 8) (G 9) (G 10) (G 11) nC f ch nu 0 0 0 k12).2.2)), (5, .long ((lf_Bo_differenceAlong_12 (G 0) (G 8) (G 9) (G 10) (G 11) nC f ch nu 0 0 0 k12).2.1)), (4, .int ((lf_Bo_differenceAlong_12 (G 0) (G 8) (G 9) (G 10) (G 11) nC f ch nu 0 0 0 k12).1)), (0, .ref (oa 3)), (1, .int (nI f)), (2, .int (nI ch)), (3, .int (nI nu))]) hx hb dBo_differenceAlong_40 hl (by decide) rfl (fun ls hl => ?_)
        refine lv_aload_n hx hb dBo_differenceAlong_42 rfl (lv_at hl 5 rfl) ?_
        refine lv_iload hx hb dBo_differenceAlong_43 (lv_at hl 0 rfl) ?_
        refine ro_callV (r := (.int (mr_Bo_allows (G 8) (G 9) (G 10) (G 11) (f + (k12 * (pc_ (zg (G 0)) nC ch)))))) (As := [.int (nI (f + (k12 * (pc_ (zg (G 0)) nC ch))))]) (rest := []) Sx (c_Bo_allows l D cl hcl oa ca ck F G hP (f + (k12 * (pc_ (zg (G 0)) nC ch))) (hf k12 (by omega))) (cwV 1 hts gBo_differenceAlong_Bo_allows rfl rfl rfl (by decide +kernel) ⟨Nat.le_of_ble_eq_true rfl, Nat.le_of_ble_eq_true rfl⟩) hK (va_recv hK hP (ci := 4) (q0 := 3) hcl.2.2.2.1 rfl) rfl hl.1 rfl (Nat.le_of_ble_eq_true rfl) dBo_differenceAlong_45 ⟨Nat.zero_le _, Nat.zero_le _⟩ ?_
        refine lv_if_eq (tgt := 102) hx hb dBo_differenceAlong_48 (by decide) (fun c48 => ?_) (fun c48 => ?_)
        · refine lv_iinc (v := nI (k12 + 1)) (lv' := [(9, .int (nI (k12 + 1))), (10, .int (nI (f + (k12 * (pc_ (zg (G 0)) nC ch))))), (7, .long ((lf_Bo_differenceAlong_12 (G 0) (G 8) (G 9) (G 10) (G 11) nC f ch nu 0 0 0 k12).2.2)), (5, .long ((lf_Bo_differenceAlong_12 (G 0) (G 8) (G 9) (G 10) (G 11) nC f ch nu 0 0 0 k12).2.1)), (4, .int ((lf_Bo_differenceAlong_12 (G 0) (G 8) (G 9) (G 10) (G 11) nC f ch nu 0 0 0 k12).1)), (0, .ref (oa 3)), (1, .int (nI f)), (2, .int (nI ch)), (3, .int (nI nu))]) hx hb dBo_differenceAlong_102 hl (k := 1) rfl (by exact ii_1 k12) (by decide) rfl (fun ls hl => ?_)
          refine lv_goto (tgt := 12) hx hb dBo_differenceAlong_105 (by decide) ?_
          have eb12 : lf_Bo_differenceAlong_12 (G 0) (G 8) (G 9) (G 10) (G 11) nC f ch nu 0 0 0 (k12 + 1) = ((lf_Bo_differenceAlong_12 (G 0) (G 8) (G 9) (G 10) (G 11) nC f ch nu 0 0 0 k12).1, (lf_Bo_differenceAlong_12 (G 0) (G 8) (G 9) (G 10) (G 11) nC f ch nu 0 0 0 k12).2.1, (lf_Bo_differenceAlong_12 (G 0) (G 8) (G 9) (G 10) (G 11) nC f ch nu 0 0 0 k12).2.2) := by rw [lf_Bo_differenceAlong_12, if_pos c48]
          exact ih12 (k12 + 1) (by omega) (by omega)  ls (by rw [eb12]; exact lv_sub hl [0, 2, 3, 4, 5, 6, 7, 8] rfl)
        · refine lv_aload_n hx hb dBo_differenceAlong_51 rfl (lv_at hl 5 rfl) ?_
          refine lv_iload hx hb dBo_differenceAlong_52 (lv_at hl 0 rfl) ?_
          refine lv_iload_n hx hb dBo_differenceAlong_54 rfl (lv_at hl 8 rfl) ?_
          refine ro_callV (r := (.int (mr_Bo_sumOf (G 10) (f + (k12 * (pc_ (zg (G 0)) nC ch))) nu))) (As := [.int (nI (f + (k12 * (pc_ (zg (G 0)) nC ch)))), .int (nI nu)]) (rest := []) Sx (c_Bo_sumOf l D cl hcl oa ca ck F G hP (f + (k12 * (pc_ (zg (G 0)) nC ch))) nu (hf k12 (by omega)) hnu) (cwV 2 hts gBo_differenceAlong_Bo_sumOf rfl rfl rfl (by decide +kernel) ⟨Nat.le_of_ble_eq_true rfl, Nat.le_of_ble_eq_true rfl⟩) hK (va_recv hK hP (ci := 4) (q0 := 3) hcl.2.2.2.1 rfl) rfl hl.1 rfl (Nat.le_of_ble_eq_true rfl) dBo_differenceAlong_55 ⟨Nat.zero_le _, Nat.zero_le _⟩ ?_
          refine lv_i2l hx hb dBo_differenceAlong_58 rfl ?_
          refine lv_lstore (lv' := [(11, .long ((mr_Bo_sumOf (G 10) (f + (k12 * (pc_ (zg (G 0)) nC ch))) nu).toInt64)), (10, .int (nI (f + (k12 * (pc_ (zg (G 0)) nC ch))))), (9, .int (nI k12)), (7, .long ((lf_Bo_differenceAlong_12 (G 0) (G 8) (G 9) (G 10) (G 11) nC f ch nu 0 0 0 k12).2.2)), (5, .long ((lf_Bo_differenceAlong_12 (G 0) (G 8) (G 9) (G 10) (G 11) nC f ch nu 0 0 0 k12).2.1)), (4, .int ((lf_Bo_differenceAlong_12 (G 0) (G 8) (G 9) (G 10) (G 11) nC f ch nu 0 0 0 k12).1)), (0, .ref (oa 3)), (1, .int (nI f)), (2, .int (nI ch)), (3, .int (nI nu))]) hx hb dBo_differenceAlong_59 hl (by decide) rfl (fun ls hl => ?_)
          refine lv_iload hx hb dBo_differenceAlong_61 (lv_at hl 5 rfl) ?_
          refine lv_if_eq (tgt := 76) hx hb dBo_differenceAlong_63 (by decide) (fun c63 => ?_) (fun c63 => ?_)
          · refine lv_lload hx hb dBo_differenceAlong_76 (lv_at hl 0 rfl) ?_
            refine lv_lstore (lv' := [(5, .long ((mr_Bo_sumOf (G 10) (f + (k12 * (pc_ (zg (G 0)) nC ch))) nu).toInt64)), (11, .long ((mr_Bo_sumOf (G 10) (f + (k12 * (pc_ (zg (G 0)) nC ch))) nu).toInt64)), (10, .int (nI (f + (k12 * (pc_ (zg (G 0)) nC ch))))), (9, .int (nI k12)), (7, .long ((lf_Bo_differenceAlong_12 (G 0) (G 8) (G 9) (G 10) (G 11) nC f ch nu 0 0 0 k12).2.2)), (4, .int ((lf_Bo_differenceAlong_12 (G 0) (G 8) (G 9) (G 10) (G 11) nC f ch nu 0 0 0 k12).1)), (0, .ref (oa 3)), (1, .int (nI f)), (2, .int (nI ch)), (3, .int (nI nu))]) hx hb dBo_differenceAlong_78 hl (by decide) rfl (fun ls hl => ?_)
            refine lv_iload hx hb dBo_differenceAlong_80 (lv_at hl 5 rfl) ?_
            refine lv_if_eq (tgt := 95) hx hb dBo_differenceAlong_82 (by decide) (fun _ => ?_) (fun h9 => absurd c63 h9)
            refine lv_lload hx hb dBo_differenceAlong_95 (lv_at hl 1 rfl) ?_
            refine lv_lstore (lv' := [(7, .long ((mr_Bo_sumOf (G 10) (f + (k12 * (pc_ (zg (G 0)) nC ch))) nu).toInt64)), (5, .long ((mr_Bo_sumOf (G 10) (f + (k12 * (pc_ (zg (G 0)) nC ch))) nu).toInt64)), (11, .long ((mr_Bo_sumOf (G 10) (f + (k12 * (pc_ (zg (G 0)) nC ch))) nu).toInt64)), (10, .int (nI (f + (k12 * (pc_ (zg (G 0)) nC ch))))), (9, .int (nI k12)), (4, .int ((lf_Bo_differenceAlong_12 (G 0) (G 8) (G 9) (G 10) (G 11) nC f ch nu 0 0 0 k12).1)), (0, .ref (oa 3)), (1, .int (nI f)), (2, .int (nI ch)), (3, .int (nI nu))]) hx hb dBo_differenceAlong_97 hl (by decide) rfl (fun ls hl => ?_)
            refine lv_iconst (v := 1) hx hb dBo_differenceAlong_99 (by decide) ?_
            refine lv_istore (lv' := [(4, .int 1), (7, .long ((mr_Bo_sumOf (G 10) (f + (k12 * (pc_ (zg (G 0)) nC ch))) nu).toInt64)), (5, .long ((mr_Bo_sumOf (G 10) (f + (k12 * (pc_ (zg (G 0)) nC ch))) nu).toInt64)), (11, .long ((mr_Bo_sumOf (G 10) (f + (k12 * (pc_ (zg (G 0)) nC ch))) nu).toInt64)), (10, .int (nI (f + (k12 * (pc_ (zg (G 0)) nC ch))))), (9, .int (nI k12)), (0, .ref (oa 3)), (1, .int (nI f)), (2, .int (nI ch)), (3, .int (nI nu))]) hx hb dBo_differenceAlong_100 hl (by decide) rfl (fun ls hl => ?_)
            refine lv_iinc (v := nI (k12 + 1)) (lv' := [(9, .int (nI (k12 + 1))), (4, .int 1), (7, .long ((mr_Bo_sumOf (G 10) (f + (k12 * (pc_ (zg (G 0)) nC ch))) nu).toInt64)), (5, .long ((mr_Bo_sumOf (G 10) (f + (k12 * (pc_ (zg (G 0)) nC ch))) nu).toInt64)), (11, .long ((mr_Bo_sumOf (G 10) (f + (k12 * (pc_ (zg (G 0)) nC ch))) nu).toInt64)), (10, .int (nI (f + (k12 * (pc_ (zg (G 0)) nC ch))))), (0, .ref (oa 3)), (1, .int (nI f)), (2, .int (nI ch)), (3, .int (nI nu))]) hx hb dBo_differenceAlong_102 hl (k := 5) rfl (by exact ii_1 k12) (by decide) rfl (fun ls hl => ?_)
            refine lv_goto (tgt := 12) hx hb dBo_differenceAlong_105 (by decide) ?_
            have eb12 : lf_Bo_differenceAlong_12 (G 0) (G 8) (G 9) (G 10) (G 11) nC f ch nu 0 0 0 (k12 + 1) = (1, (mr_Bo_sumOf (G 10) (f + (k12 * (pc_ (zg (G 0)) nC ch))) nu).toInt64, (mr_Bo_sumOf (G 10) (f + (k12 * (pc_ (zg (G 0)) nC ch))) nu).toInt64) := by rw [lf_Bo_differenceAlong_12, if_neg c48, if_pos c63]
            exact ih12 (k12 + 1) (by omega) (by omega)  ls (by rw [eb12]; exact lv_sub hl [0, 2, 3, 1, 6, 7, 8, 9] rfl)
          · refine lv_lload hx hb dBo_differenceAlong_66 (lv_at hl 4 rfl) ?_
            refine lv_lload hx hb dBo_differenceAlong_68 (lv_at hl 0 rfl) ?_
            refine va_mmin_long (x := (lf_Bo_differenceAlong_12 (G 0) (G 8) (G 9) (G 10) (G 11) nC f ch nu 0 0 0 k12).2.1) (y := (mr_Bo_sumOf (G 10) (f + (k12 * (pc_ (zg (G 0)) nC ch))) nu).toInt64) hx hb (by rw [hml]; exact hl.1.symm) hown wml106 wms_minJ wmnMath wmc_minJ (Nat.le_of_ble_eq_true rfl) (Nat.le_of_ble_eq_true rfl) (Nat.zero_le _) (Nat.zero_le _) dBo_differenceAlong_70 ?_
            refine lv_goto (tgt := 78) hx hb dBo_differenceAlong_73 (by decide) ?_
            refine lv_lstore (lv' := [(5, .long (if ((mr_Bo_sumOf (G 10) (f + (k12 * (pc_ (zg (G 0)) nC ch))) nu).toInt64) < ((lf_Bo_differenceAlong_12 (G 0) (G 8) (G 9) (G 10) (G 11) nC f ch nu 0 0 0 k12).2.1) then (mr_Bo_sumOf (G 10) (f + (k12 * (pc_ (zg (G 0)) nC ch))) nu).toInt64 else (lf_Bo_differenceAlong_12 (G 0) (G 8) (G 9) (G 10) (G 11) nC f ch nu 0 0 0 k12).2.1 : Int64)), (11, .long ((mr_Bo_sumOf (G 10) (f + (k12 * (pc_ (zg (G 0)) nC ch))) nu).toInt64)), (10, .int (nI (f + (k12 * (pc_ (zg (G 0)) nC ch))))), (9, .int (nI k12)), (7, .long ((lf_Bo_differenceAlong_12 (G 0) (G 8) (G 9) (G 10) (G 11) nC f ch nu 0 0 0 k12).2.2)), (4, .int ((lf_Bo_differenceAlong_12 (G 0) (G 8) (G 9) (G 10) (G 11) nC f ch nu 0 0 0 k12).1)), (0, .ref (oa 3)), (1, .int (nI f)), (2, .int (nI ch)), (3, .int (nI nu))]) hx hb dBo_differenceAlong_78 hl (by decide) rfl (fun ls hl => ?_)
            refine lv_iload hx hb dBo_differenceAlong_80 (lv_at hl 5 rfl) ?_
            refine lv_if_eq (tgt := 95) hx hb dBo_differenceAlong_82 (by decide) (fun h9 => absurd h9 c63) (fun _ => ?_)
            refine lv_lload hx hb dBo_differenceAlong_85 (lv_at hl 4 rfl) ?_
            refine lv_lload hx hb dBo_differenceAlong_87 (lv_at hl 1 rfl) ?_
            refine va_mmax_long (x := (lf_Bo_differenceAlong_12 (G 0) (G 8) (G 9) (G 10) (G 11) nC f ch nu 0 0 0 k12).2.2) (y := (mr_Bo_sumOf (G 10) (f + (k12 * (pc_ (zg (G 0)) nC ch))) nu).toInt64) hx hb (by rw [hml]; exact hl.1.symm) hown wml90 wms_maxJ wmnMath wmc_maxJ (Nat.le_of_ble_eq_true rfl) (Nat.le_of_ble_eq_true rfl) (Nat.zero_le _) (Nat.zero_le _) dBo_differenceAlong_89 ?_
            refine lv_goto (tgt := 97) hx hb dBo_differenceAlong_92 (by decide) ?_
            refine lv_lstore (lv' := [(7, .long (if ((mr_Bo_sumOf (G 10) (f + (k12 * (pc_ (zg (G 0)) nC ch))) nu).toInt64) < ((lf_Bo_differenceAlong_12 (G 0) (G 8) (G 9) (G 10) (G 11) nC f ch nu 0 0 0 k12).2.2) then (lf_Bo_differenceAlong_12 (G 0) (G 8) (G 9) (G 10) (G 11) nC f ch nu 0 0 0 k12).2.2 else (mr_Bo_sumOf (G 10) (f + (k12 * (pc_ (zg (G 0)) nC ch))) nu).toInt64 : Int64)), (5, .long (if ((mr_Bo_sumOf (G 10) (f + (k12 * (pc_ (zg (G 0)) nC ch))) nu).toInt64) < ((lf_Bo_differenceAlong_12 (G 0) (G 8) (G 9) (G 10) (G 11) nC f ch nu 0 0 0 k12).2.1) then (mr_Bo_sumOf (G 10) (f + (k12 * (pc_ (zg (G 0)) nC ch))) nu).toInt64 else (lf_Bo_differenceAlong_12 (G 0) (G 8) (G 9) (G 10) (G 11) nC f ch nu 0 0 0 k12).2.1 : Int64)), (11, .long ((mr_Bo_sumOf (G 10) (f + (k12 * (pc_ (zg (G 0)) nC ch))) nu).toInt64)), (10, .int (nI (f + (k12 * (pc_ (zg (G 0)) nC ch))))), (9, .int (nI k12)), (4, .int ((lf_Bo_differenceAlong_12 (G 0) (G 8) (G 9) (G 10) (G 11) nC f ch nu 0 0 0 k12).1)), (0, .ref (oa 3)), (1, .int (nI f)), (2, .int (nI ch)), (3, .int (nI nu))]) hx hb dBo_differenceAlong_97 hl (by decide) rfl (fun ls hl => ?_)
            refine lv_iconst (v := 1) hx hb dBo_differenceAlong_99 (by decide) ?_
            refine lv_istore (lv' := [(4, .int 1), (7, .long (if ((mr_Bo_sumOf (G 10) (f + (k12 * (pc_ (zg (G 0)) nC ch))) nu).toInt64) < ((lf_Bo_differenceAlong_12 (G 0) (G 8) (G 9) (G 10) (G 11) nC f ch nu 0 0 0 k12).2.2) then (lf_Bo_differenceAlong_12 (G 0) (G 8) (G 9) (G 10) (G 11) nC f ch nu 0 0 0 k12).2.2 else (mr_Bo_sumOf (G 10) (f + (k12 * (pc_ (zg (G 0)) nC ch))) nu).toInt64 : Int64)), (5, .long (if ((mr_Bo_sumOf (G 10) (f + (k12 * (pc_ (zg (G 0)) nC ch))) nu).toInt64) < ((lf_Bo_differenceAlong_12 (G 0) (G 8) (G 9) (G 10) (G 11) nC f ch nu 0 0 0 k12).2.1) then (mr_Bo_sumOf (G 10) (f + (k12 * (pc_ (zg (G 0)) nC ch))) nu).toInt64 else (lf_Bo_differenceAlong_12 (G 0) (G 8) (G 9) (G 10) (G 11) nC f ch nu 0 0 0 k12).2.1 : Int64)), (11, .long ((mr_Bo_sumOf (G 10) (f + (k12 * (pc_ (zg (G 0)) nC ch))) nu).toInt64)), (10, .int (nI (f + (k12 * (pc_ (zg (G 0)) nC ch))))), (9, .int (nI k12)), (0, .ref (oa 3)), (1, .int (nI f)), (2, .int (nI ch)), (3, .int (nI nu))]) hx hb dBo_differenceAlong_100 hl (by decide) rfl (fun ls hl => ?_)
            refine lv_iinc (v := nI (k12 + 1)) (lv' := [(9, .int (nI (k12 + 1))), (4, .int 1), (7, .long (if ((mr_Bo_sumOf (G 10) (f + (k12 * (pc_ (zg (G 0)) nC ch))) nu).toInt64) < ((lf_Bo_differenceAlong_12 (G 0) (G 8) (G 9) (G 10) (G 11) nC f ch nu 0 0 0 k12).2.2) then (lf_Bo_differenceAlong_12 (G 0) (G 8) (G 9) (G 10) (G 11) nC f ch nu 0 0 0 k12).2.2 else (mr_Bo_sumOf (G 10) (f + (k12 * (pc_ (zg (G 0)) nC ch))) nu).toInt64 : Int64)), (5, .long (if ((mr_Bo_sumOf (G 10) (f + (k12 * (pc_ (zg (G 0)) nC ch))) nu).toInt64) < ((lf_Bo_differenceAlong_12 (G 0) (G 8) (G 9) (G 10) (G 11) nC f ch nu 0 0 0 k12).2.1) then (mr_Bo_sumOf (G 10) (f + (k12 * (pc_ (zg (G 0)) nC ch))) nu).toInt64 else (lf_Bo_differenceAlong_12 (G 0) (G 8) (G 9) (G 10) (G 11) nC f ch nu 0 0 0 k12).2.1 : Int64)), (11, .long ((mr_Bo_sumOf (G 10) (f + (k12 * (pc_ (zg (G 0)) nC ch))) nu).toInt64)), (10, .int (nI (f + (k12 * (pc_ (zg (G 0)) nC ch))))), (0, .ref (oa 3)), (1, .int (nI f)), (2, .int (nI ch)), (3, .int (nI nu))]) hx hb dBo_differenceAlong_102 hl (k := 5) rfl (by exact ii_1 k12) (by decide) rfl (fun ls hl => ?_)
            refine lv_goto (tgt := 12) hx hb dBo_differenceAlong_105 (by decide) ?_
            have eb12 : lf_Bo_differenceAlong_12 (G 0) (G 8) (G 9) (G 10) (G 11) nC f ch nu 0 0 0 (k12 + 1) = (1, (if ((mr_Bo_sumOf (G 10) (f + (k12 * (pc_ (zg (G 0)) nC ch))) nu).toInt64) < ((lf_Bo_differenceAlong_12 (G 0) (G 8) (G 9) (G 10) (G 11) nC f ch nu 0 0 0 k12).2.1) then (mr_Bo_sumOf (G 10) (f + (k12 * (pc_ (zg (G 0)) nC ch))) nu).toInt64 else (lf_Bo_differenceAlong_12 (G 0) (G 8) (G 9) (G 10) (G 11) nC f ch nu 0 0 0 k12).2.1 : Int64), (if ((mr_Bo_sumOf (G 10) (f + (k12 * (pc_ (zg (G 0)) nC ch))) nu).toInt64) < ((lf_Bo_differenceAlong_12 (G 0) (G 8) (G 9) (G 10) (G 11) nC f ch nu 0 0 0 k12).2.2) then (lf_Bo_differenceAlong_12 (G 0) (G 8) (G 9) (G 10) (G 11) nC f ch nu 0 0 0 k12).2.2 else (mr_Bo_sumOf (G 10) (f + (k12 * (pc_ (zg (G 0)) nC ch))) nu).toInt64 : Int64)) := by rw [lf_Bo_differenceAlong_12, if_neg c48, if_neg c63]
            exact ih12 (k12 + 1) (by omega) (by omega)  ls (by rw [eb12]; exact lv_sub hl [0, 2, 3, 1, 6, 7, 8, 9] rfl)
  exact loop12 _ 0 (Nat.zero_le _) (Nat.lt_succ_self _)  ls (lv_sub hl [0, 1, 2, 3, 4, 5, 6, 7] rfl)
def lf_Bo_greatestDifference_5 (g0 : Nat → Int32) (g1 : Nat → Int32) (g8 : Nat → Int32) (g9 : Nat → Int32) (g10 : Nat → Int32) (g11 : Nat → Int32) (nC : Nat) (nD : Nat) (ch : Nat) (nu : Nat) (i0 : Int64) : Nat → Int64
  | 0 => i0
  | k5 + 1 => (if (mr_Sh_digit g0 g1 (nI k5) ch) = 0 then (if (mr_Bo_differenceAlong g0 g8 g9 g10 g11 nC k5 ch nu) < (lf_Bo_greatestDifference_5 g0 g1 g8 g9 g10 g11 nC nD ch nu i0 k5) then lf_Bo_greatestDifference_5 g0 g1 g8 g9 g10 g11 nC nD ch nu i0 k5 else mr_Bo_differenceAlong g0 g8 g9 g10 g11 nC k5 ch nu : Int64) else (lf_Bo_greatestDifference_5 g0 g1 g8 g9 g10 g11 nC nD ch nu i0 k5))
def mr_Bo_greatestDifference (g0 : Nat → Int32) (g1 : Nat → Int32) (g8 : Nat → Int32) (g9 : Nat → Int32) (g10 : Nat → Int32) (g11 : Nat → Int32) (nC : Nat) (nD : Nat) (ch : Nat) (nu : Nat) : Int64 := (lf_Bo_greatestDifference_5 g0 g1 g8 g9 g10 g11 nC nD ch nu 0 nD)
set_option maxHeartbeats 4000000 in
set_option maxRecDepth 100000 in
theorem c_Bo_greatestDifference (l : Launch) (D : va_G) (cl : List vw_C) (hcl : cOK cl) (oa ca : Nat → Nat) (ck : Nat → ClassId) (F : Nat → Int32) (G : Nat → Nat → Int32) {H : Heap} (hP : va_P D cl (cW oa ca ck F G) H) (nC : Nat) (nD : Nat) (ch : Nat) (nu : Nat) (hC : nC ≤ 8) (k1 : F 1 = nI nD) (hN : nD ≤ 4096) (s0 : ∀ c, c < nC → ∃ z : Nat, G 0 c = nI z ∧ 2 ≤ z ∧ z ≤ 6) (s1 : ∀ c, c < nC → G 1 c = nI (pc_ (zg (G 0)) nC c)) (hmp : mp (zg (G 0)) 0 nC = nD) (hch : ch < nC) (hnu : nu < 4) : ro_Met l yBo_greatestDifference wsBo_greatestDifference ({ frames := 3, cells := 0, slots := 0, locals := 76 } : Room) D cl (cT ck) H [.ref (oa 3), .int (nI ch), .int (nI nu)] (.long (mr_Bo_greatestDifference (G 0) (G 1) (G 8) (G 9) (G 10) (G 11) nC nD ch nu)) := by
  refine ro_metJ (by decide) rfl (Nat.le_of_ble_eq_true rfl) ?_
  intro p e s m args below meth c Q Sx hK ls hl hret
  obtain ⟨hx, hb, hml, hown, hts⟩ := id Sx
  have hl : lv_has ls 6 [(0, .ref (oa 3)), (1, .int (nI ch)), (2, .int (nI nu))] := hl
  have f38 := hts _ (List.mem_cons_of_mem _ mfBo_38)
  have inBo_ : ∀ w ∈ wsBo0, w ∈ wsBo_greatestDifference := fun w h => List.mem_cons_of_mem _ (inBo_all w h)
  have f51 := hts _ (List.mem_cons_of_mem _ mfBo_51)
  have inSh_ : ∀ w ∈ wsSh0, w ∈ wsBo_greatestDifference := fun w h => List.mem_cons_of_mem _ (inSh_all w h)
  have wml90 := hts _ (List.mem_cons_of_mem _ mlBo_90)
  have wms_maxJ := hts _ (List.mem_cons_of_mem _ msMath_maxJ)
  have wmnMath := hts _ (List.mem_cons_of_mem _ mnMath)
  have wmc_maxJ := hts _ (List.mem_cons_of_mem _ mcMath_maxJ)
  have xz := zg_ok s0 hch
  refine lv_lconst (v := 0) hx hb dBo_greatestDifference_0 (by decide) ?_
  refine lv_lstore_n (lv' := [(3, .long 0), (0, .ref (oa 3)), (1, .int (nI ch)), (2, .int (nI nu))]) hx hb dBo_greatestDifference_1 rfl hl (by decide) rfl (fun ls hl => ?_)
  refine lv_iconst (v := 0) hx hb dBo_greatestDifference_2 (by decide) ?_
  refine lv_istore (lv' := [(5, .int 0), (3, .long 0), (0, .ref (oa 3)), (1, .int (nI ch)), (2, .int (nI nu))]) hx hb dBo_greatestDifference_3 hl (by decide) rfl (fun ls hl => ?_)
  have loop5 : ∀ (N5 k5 : Nat), k5 ≤ nD → nD - k5 < N5 → ∀ (ls : Array Slot), lv_has ls 6 [(5, .int (nI k5)), (3, .long (lf_Bo_greatestDifference_5 (G 0) (G 1) (G 8) (G 9) (G 10) (G 11) nC nD ch nu 0 k5)), (0, .ref (oa 3)), (1, .int (nI ch)), (2, .int (nI nu))] → W p l e ({ frames := 3, cells := 0, slots := 0, locals := 76 } : Room) s m args below meth c H [] 0 0 Q (F0 m 5 ls []) := by
    intro N5
    induction N5 with
    | zero => intro k5 hk5 hm5; exact absurd hm5 (Nat.not_lt_zero _)
    | succ N5 ih5 =>
      intro k5 hk5 hm5  ls hl
      refine lv_iload hx hb dBo_greatestDifference_5 (lv_at hl 0 rfl) ?_
      refine lv_aload_n hx hb dBo_greatestDifference_7 rfl (lv_at hl 2 rfl) ?_
      refine va_get (D := D) (ci := 4) (v := .ref (oa 1)) (C := RBo) (T := TBo) (N := 10) hx hb hts inBo_ hown hK hP 3 rfl hcl.2.2.2.1 0 (by decide) f38 (fun _ h9 => h9) rfl dBo_greatestDifference_8 ?_
      refine va_get (D := D) (ci := 2) (v := .int (F 1)) (C := RSh) (T := TSh) (N := 4) hx hb hts inSh_ hown hK hP 1 rfl hcl.2.1 3 (by decide) f51 (fun _ h9 => h9) rfl dBo_greatestDifference_11 ?_
      refine wt_i k1 ?_
      refine lv_icmp_ge (tgt := 49) hx hb dBo_greatestDifference_14 (by decide) (fun c14 => ?_) (fun c14 => ?_)
      · have n14 : nD ≤ k5 := (nI_leI (a := nD) (b := k5) (by omega) (by omega)).mp c14
        have hx5 : nD = k5 := by omega
        subst hx5
        refine lv_lload_n hx hb dBo_greatestDifference_49 rfl (lv_at hl 1 rfl) ?_
        exact hret _ _ _ (by rw [mr_Bo_greatestDifference]) dBo_greatestDifference_50
      · have n14 : ¬ nD ≤ k5 := fun h9 => c14 ((nI_leI (a := nD) (b := k5) (by omega) (by omega)).mpr h9)
        refine lv_aload_n hx hb dBo_greatestDifference_17 rfl (lv_at hl 2 rfl) ?_
        refine va_get (D := D) (ci := 4) (v := .ref (oa 1)) (C := RBo) (T := TBo) (N := 10) hx hb hts inBo_ hown hK hP 3 rfl hcl.2.2.2.1 0 (by decide) f38 (fun _ h9 => h9) rfl dBo_greatestDifference_18 ?_
        refine lv_iload hx hb dBo_greatestDifference_21 (lv_at hl 0 rfl) ?_
        refine lv_iload_n hx hb dBo_greatestDifference_23 rfl (lv_at hl 3 rfl) ?_
        refine ro_callV (r := (.int (mr_Sh_digit (G 0) (G 1) (nI k5) ch))) (As := [.int (nI k5), .int (nI ch)]) (rest := []) Sx (c_Sh_digit l D cl hcl oa ca ck F G hP (nI k5) ch (by omega)) (cwV 2 hts gBo_greatestDifference_Sh_digit rfl rfl rfl (by decide +kernel) ⟨Nat.le_of_ble_eq_true rfl, Nat.le_of_ble_eq_true rfl⟩) hK (va_recv hK hP (ci := 2) (q0 := 1) hcl.2.1 rfl) rfl hl.1 rfl (Nat.le_of_ble_eq_true rfl) dBo_greatestDifference_24 ⟨Nat.zero_le _, Nat.zero_le _⟩ ?_
        refine lv_if_ne (tgt := 43) hx hb dBo_greatestDifference_27 (by decide) (fun c27 => ?_) (fun c27 => ?_)
        · refine lv_iinc (v := nI (k5 + 1)) (lv' := [(5, .int (nI (k5 + 1))), (3, .long (lf_Bo_greatestDifference_5 (G 0) (G 1) (G 8) (G 9) (G 10) (G 11) nC nD ch nu 0 k5)), (0, .ref (oa 3)), (1, .int (nI ch)), (2, .int (nI nu))]) hx hb dBo_greatestDifference_43 hl (k := 0) rfl (by exact ii_1 k5) (by decide) rfl (fun ls hl => ?_)
          refine lv_goto (tgt := 5) hx hb dBo_greatestDifference_46 (by decide) ?_
          have eb5 : lf_Bo_greatestDifference_5 (G 0) (G 1) (G 8) (G 9) (G 10) (G 11) nC nD ch nu 0 (k5 + 1) = lf_Bo_greatestDifference_5 (G 0) (G 1) (G 8) (G 9) (G 10) (G 11) nC nD ch nu 0 k5 := by rw [lf_Bo_greatestDifference_5, if_neg c27]
          exact ih5 (k5 + 1) (by omega) (by omega)  ls (by rw [eb5]; exact lv_sub hl [0, 1, 2, 3, 4] rfl)
        · refine lv_lload_n hx hb dBo_greatestDifference_30 rfl (lv_at hl 1 rfl) ?_
          refine lv_aload_n hx hb dBo_greatestDifference_31 rfl (lv_at hl 2 rfl) ?_
          refine lv_iload hx hb dBo_greatestDifference_32 (lv_at hl 0 rfl) ?_
          refine lv_iload_n hx hb dBo_greatestDifference_34 rfl (lv_at hl 3 rfl) ?_
          refine lv_iload_n hx hb dBo_greatestDifference_35 rfl (lv_at hl 4 rfl) ?_
          refine ro_callV (r := (.long (mr_Bo_differenceAlong (G 0) (G 8) (G 9) (G 10) (G 11) nC k5 ch nu))) (As := [.int (nI k5), .int (nI ch), .int (nI nu)]) (rest := [.long (lf_Bo_greatestDifference_5 (G 0) (G 1) (G 8) (G 9) (G 10) (G 11) nC nD ch nu 0 k5)]) Sx (c_Bo_differenceAlong l D cl hcl oa ca ck F G hP nC k5 ch nu (by omega) hnu xz.1 xz.2.2 (s1 ch hch) (gd_ok s0 s1 hmp hN hch (by omega) c27)) (cwV 3 hts gBo_greatestDifference_Bo_differenceAlong rfl rfl rfl (by decide +kernel) ⟨Nat.le_of_ble_eq_true rfl, Nat.le_of_ble_eq_true rfl⟩) hK (va_recv hK hP (ci := 4) (q0 := 3) hcl.2.2.2.1 rfl) rfl hl.1 rfl (Nat.le_of_ble_eq_true rfl) dBo_greatestDifference_36 ⟨Nat.zero_le _, Nat.zero_le _⟩ ?_
          refine va_mmax_long (x := lf_Bo_greatestDifference_5 (G 0) (G 1) (G 8) (G 9) (G 10) (G 11) nC nD ch nu 0 k5) (y := mr_Bo_differenceAlong (G 0) (G 8) (G 9) (G 10) (G 11) nC k5 ch nu) hx hb (by rw [hml]; exact hl.1.symm) hown wml90 wms_maxJ wmnMath wmc_maxJ (Nat.le_of_ble_eq_true rfl) (Nat.le_of_ble_eq_true rfl) (Nat.zero_le _) (Nat.zero_le _) dBo_greatestDifference_39 ?_
          refine lv_lstore_n (lv' := [(3, .long (if (mr_Bo_differenceAlong (G 0) (G 8) (G 9) (G 10) (G 11) nC k5 ch nu) < (lf_Bo_greatestDifference_5 (G 0) (G 1) (G 8) (G 9) (G 10) (G 11) nC nD ch nu 0 k5) then lf_Bo_greatestDifference_5 (G 0) (G 1) (G 8) (G 9) (G 10) (G 11) nC nD ch nu 0 k5 else mr_Bo_differenceAlong (G 0) (G 8) (G 9) (G 10) (G 11) nC k5 ch nu : Int64)), (5, .int (nI k5)), (0, .ref (oa 3)), (1, .int (nI ch)), (2, .int (nI nu))]) hx hb dBo_greatestDifference_42 rfl hl (by decide) rfl (fun ls hl => ?_)
          refine lv_iinc (v := nI (k5 + 1)) (lv' := [(5, .int (nI (k5 + 1))), (3, .long (if (mr_Bo_differenceAlong (G 0) (G 8) (G 9) (G 10) (G 11) nC k5 ch nu) < (lf_Bo_greatestDifference_5 (G 0) (G 1) (G 8) (G 9) (G 10) (G 11) nC nD ch nu 0 k5) then lf_Bo_greatestDifference_5 (G 0) (G 1) (G 8) (G 9) (G 10) (G 11) nC nD ch nu 0 k5 else mr_Bo_differenceAlong (G 0) (G 8) (G 9) (G 10) (G 11) nC k5 ch nu : Int64)), (0, .ref (oa 3)), (1, .int (nI ch)), (2, .int (nI nu))]) hx hb dBo_greatestDifference_43 hl (k := 1) rfl (by exact ii_1 k5) (by decide) rfl (fun ls hl => ?_)
          refine lv_goto (tgt := 5) hx hb dBo_greatestDifference_46 (by decide) ?_
          have eb5 : lf_Bo_greatestDifference_5 (G 0) (G 1) (G 8) (G 9) (G 10) (G 11) nC nD ch nu 0 (k5 + 1) = (if (mr_Bo_differenceAlong (G 0) (G 8) (G 9) (G 10) (G 11) nC k5 ch nu) < (lf_Bo_greatestDifference_5 (G 0) (G 1) (G 8) (G 9) (G 10) (G 11) nC nD ch nu 0 k5) then lf_Bo_greatestDifference_5 (G 0) (G 1) (G 8) (G 9) (G 10) (G 11) nC nD ch nu 0 k5 else mr_Bo_differenceAlong (G 0) (G 8) (G 9) (G 10) (G 11) nC k5 ch nu : Int64) := by rw [lf_Bo_greatestDifference_5, if_pos c27]
          exact ih5 (k5 + 1) (by omega) (by omega)  ls (by rw [eb5]; exact lv_sub hl [0, 1, 2, 3, 4] rfl)
  exact loop5 _ 0 (Nat.zero_le _) (Nat.lt_succ_self _)  ls (lv_sub hl [0, 1, 2, 3, 4] rfl)
