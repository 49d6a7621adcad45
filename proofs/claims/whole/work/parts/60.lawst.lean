set_option maxRecDepth 100000 in
theorem mxLX : Cond.classLink RL 8 RX ∈ lw0 := List.mem_of_getElem? (i := 1) rfl
set_option maxRecDepth 100000 in
theorem mxLM : Cond.classLink RL 83 RM ∈ lw0 := List.mem_of_getElem? (i := 78) rfl
set_option maxRecDepth 100000 in
theorem mlL_85 : Cond.methodLink RL 85 yM_init ∈ lw0 := List.mem_of_getElem? (i := 79) rfl
set_option maxRecDepth 100000 in
theorem itM : Cond.instantiable RM 29 ∈ lw_tbl := List.mem_of_getElem? (i := 744) rfl
abbrev cL_cell : ByteArray := method_2_code
def yL_cell : MethodName := ⟨RL, "cell", "([II)I"⟩
def wsL_cell : List Cond := [.code yL_cell cL_cell 2 (some .int)]
set_option maxRecDepth 100000 in
theorem mlL_cell : Cond.methodLink RL 74 yL_cell ∈ lw0 := List.mem_of_getElem? (i := 7) rfl
set_option maxRecDepth 100000 in
theorem msL_cell : Cond.static yL_cell ∈ lw0 := List.mem_of_getElem? (i := 8) rfl
set_option maxRecDepth 100000 in
theorem mcL_cell : Cond.code yL_cell cL_cell 2 (some .int) ∈ lw0 := List.mem_of_getElem? (i := 9) rfl
theorem gL_cell : GoodIn lw_tbl (va_wsS RL 74 yL_cell wsL_cell) := gST (Gd_l mlL_cell) (Gd_l msL_cell) (Gd_l mnL) (Gd_cons (Gd_l mcL_cell) (fun _ h => absurd h List.not_mem_nil))
theorem gLi_X : GoodIn lw_tbl wsX_init := fun w hw => Gd_cons (Gd_c mcX_init) (fun _ h => Gd_c h) w hw
theorem gLi_M : GoodIn lw_tbl wsM_init := fun w hw => Gd_cons (Gd_r mcM_init) (fun _ h => Gd_r h) w hw
def sd0 (xs : Nat → Int32) (L : Nat) : Int32 := if 0 < L then xs 0 else 0
theorem c_cell (l : Launch) {b L : Nat} {xs : Nat → Int32} {H : Heap} (hbl : b < H.size) (hL : L ≤ 3585) : Met l yL_cell wsL_cell ({ frames := 0, cells := 0, slots := 0, locals := 0 } : Room) (va_Pc [.ref b, .int 0] (fun U => U.heap = H ∧ va_X b L xs U H)) (k2_QcV (.int (sd0 xs L))) 0 0 (fun _ => False) := by
  refine Met.ofW (cc := cL_cell) (maxL := 2) (ret := some .int) (by decide) rfl ?_
  intro p e s m args below meth c s₁ B hml hv
  obtain ⟨rfl, hH, hX⟩ := hv
  subst hH
  have hx := B.exec
  have hb := B.bytes
  have hr := B.returns
  have hlocks := B.notSynchronized
  have hl := lv_entry [.ref b, .int 0] (n := 2) (Nat.le_of_ble_eq_true rfl)
  rw [lg_entry_eq]
  generalize (lg_sl ([.ref b, .int 0]) ++ List.replicate (2 - (lg_sl ([.ref b, .int 0])).length) Slot.unset).toArray = ls at hl ⊢
  have hl : lv_has ls 2 [(0, .ref b), (1, .int 0)] := hl
  have hS : va_S (fun _ : Nat => False) s.heap s.heap [] := va_S.rf
  refine lv_iload_n hx hb dC_0 rfl (lv_at hl 1 rfl) ?_
  refine lv_aload_n hx hb dC_1 rfl (lv_at hl 0 rfl) ?_
  refine va_slen hx hb hX hbl (fun h => h) hS dC_2 ?_
  refine lv_icmp_ge (tgt := 12) hx hb dC_3 (by decide) (fun cz => ?_) (fun cz => ?_)
  · have h0 : L ≤ 0 := (nI_leI (a := L) (b := 0) (by omega) (by omega)).mp cz
    refine lv_iconst (v := 0) hx hb dC_12 (by decide) ?_
    refine wt_i (r := sd0 xs L) (by unfold sd0; rw [if_neg (by omega)]) ?_
    exact W.iret hx hb hr (fun t ht hW => ⟨rfl, ht⟩) (fun q h => absurd h List.not_mem_nil) dC_13
  · have h0 : 0 < L := Nat.lt_of_not_le (fun h9 => cz (nI_le (a := L) (b := 0) h9 (by omega)))
    refine lv_aload_n hx hb dC_6 rfl (lv_at hl 0 rfl) ?_
    refine lv_iload_n hx hb dC_7 rfl (lv_at hl 1 rfl) ?_
    refine va_sld hx hb hX hbl (fun h => h) hS (vp_in_nI (n := 0) h0 (by omega)) dC_8 ?_
    refine lv_goto (tgt := 13) hx hb dC_9 (by decide) ?_
    refine wt_i (r := sd0 xs L) (by unfold sd0; rw [if_pos h0, sb_cl0]) ?_
    exact W.iret hx hb hr (fun t ht hW => ⟨rfl, ht⟩) (fun q h => absurd h List.not_mem_nil) dC_13
def lcl : List vw_C := [(RM, TM, 29), (RX, TX, 6), (RSh, TSh, 4), (RMa, TMa, 5), (RBo, TBo, 10), (RFr, TFr, 6), (RSe, TSe, 6), (RWa, TWa, 6), (RSw, TSw, 4)]
theorem lcl_ok : cOK lcl := ⟨rfl, rfl, rfl, rfl, rfl, rfl, rfl, rfl⟩
set_option maxRecDepth 100000 in
theorem lw_known {s : State} {A : Array Value} (hts : ∀ w ∈ lw_tbl, w.before A s = true) : ∃ D : va_G, ∀ (k : Nat) (q : vw_C), lcl[k]? = some q → u_Kn s q.1 q.2.1 q.2.2 (D.1 k) (D.2 k) := by
  obtain ⟨c0, i0, h0⟩ := u_known (C := RM) (T := TM) (N := 29) (n := 29) hts (fun w h => rALL_in w (inM_all w h)) (hts _ itM)
  obtain ⟨c1, i1, h1⟩ := u_known (C := RX) (T := TX) (N := 6) (n := 6) hts (fun w h => cALL_in w (inX_all w h)) (hts _ (cALL_in _ mtX))
  obtain ⟨c2, i2, h2⟩ := u_known (C := RSh) (T := TSh) (N := 4) (n := 4) hts (fun w h => cALL_in w (inSh_all w h)) (hts _ (cALL_in _ mtSh))
  obtain ⟨c3, i3, h3⟩ := u_known (C := RMa) (T := TMa) (N := 5) (n := 5) hts (fun w h => cALL_in w (inMa_all w h)) (hts _ (cALL_in _ mtMa))
  obtain ⟨c4, i4, h4⟩ := u_known (C := RBo) (T := TBo) (N := 10) (n := 10) hts (fun w h => cALL_in w (inBo_all w h)) (hts _ (cALL_in _ mtBo))
  obtain ⟨c5, i5, h5⟩ := u_known (C := RFr) (T := TFr) (N := 6) (n := 6) hts (fun w h => cALL_in w (inFr_all w h)) (hts _ (cALL_in _ mtFr))
  obtain ⟨c6, i6, h6⟩ := u_known (C := RSe) (T := TSe) (N := 6) (n := 6) hts (fun w h => cALL_in w (inSe_all w h)) (hts _ (cALL_in _ mtSe))
  obtain ⟨c7, i7, h7⟩ := u_known (C := RWa) (T := TWa) (N := 6) (n := 6) hts (fun w h => cALL_in w (inWa_all w h)) (hts _ (cALL_in _ mtWa))
  obtain ⟨c8, i8, h8⟩ := u_known (C := RSw) (T := TSw) (N := 4) (n := 4) hts (fun w h => cALL_in w (inSw_all w h)) (hts _ (cALL_in _ mtSw))
  refine ⟨(fun k => if k = 0 then c0 else if k = 1 then c1 else if k = 2 then c2 else if k = 3 then c3 else if k = 4 then c4 else if k = 5 then c5 else if k = 6 then c6 else if k = 7 then c7 else c8, fun k => if k = 0 then i0 else if k = 1 then i1 else if k = 2 then i2 else if k = 3 then i3 else if k = 4 then i4 else if k = 5 then i5 else if k = 6 then i6 else if k = 7 then i7 else i8), ?_⟩
  intro k q hq
  match k, hq with
  | 0, hq => cases hq; exact h0
  | 1, hq => cases hq; exact h1
  | 2, hq => cases hq; exact h2
  | 3, hq => cases hq; exact h3
  | 4, hq => cases hq; exact h4
  | 5, hq => cases hq; exact h5
  | 6, hq => cases hq; exact h6
  | 7, hq => cases hq; exact h7
  | 8, hq => cases hq; exact h8
  | k + 9, hq => simp [lcl] at hq
theorem lw_xZ {s : State} {b : Nat} (hts : ∀ w ∈ lw_tbl, w.before #[Value.ref b] s = true) (hgv : (Jvm.Cond.and given_1 narrow_1).before #[Value.ref b] s = true) : xZ s := by
  have hs := flat_of_before _ hgv
  have hx : ∀ w ∈ xws, w.before #[Value.ref b] s = true := by
    intro w hw
    simp only [xws, List.mem_cons, List.not_mem_nil, or_false] at hw
    rcases hw with rfl | rfl | rfl | rfl | rfl | rfl | rfl
    · exact hts _ xw_0
    · exact hts _ xw_1
    · exact hs _ (by decide +kernel)
    · exact hs _ (by decide +kernel)
    · exact hts _ xw_2
    · exact hts _ xw_3
    · exact hts _ xw_4
  have hstr : ∀ w ∈ sALL, w.before #[] s = true := List.forall_mem_cons.mpr ⟨hts _ sALL_i0, List.forall_mem_cons.mpr ⟨hts _ sALL_i1, List.forall_mem_cons.mpr ⟨hts _ sALL_i2, List.forall_mem_cons.mpr ⟨hts _ sALL_i3, List.forall_mem_cons.mpr ⟨hts _ sALL_i4, List.forall_mem_cons.mpr ⟨hts _ sALL_i5, List.forall_mem_cons.mpr ⟨hts _ sALL_i6, List.forall_mem_cons.mpr ⟨hts _ sALL_i7, List.forall_mem_cons.mpr ⟨hts _ sALL_i8, List.forall_mem_cons.mpr ⟨hts _ sALL_i9, List.forall_mem_cons.mpr ⟨hts _ sALL_i10, List.forall_mem_cons.mpr ⟨hts _ sALL_i11, List.forall_mem_cons.mpr ⟨hts _ sALL_i12, List.forall_mem_cons.mpr ⟨hts _ sALL_i13, List.forall_mem_cons.mpr ⟨hts _ sALL_i14, List.forall_mem_cons.mpr ⟨hts _ sALL_i15, List.forall_mem_cons.mpr ⟨hts _ sALL_i16, List.forall_mem_cons.mpr ⟨hts _ sALL_i17, List.forall_mem_cons.mpr ⟨hts _ sALL_i18, List.forall_mem_cons.mpr ⟨hts _ sALL_i19, List.forall_mem_cons.mpr ⟨hts _ sALL_i20, List.forall_mem_cons.mpr ⟨hts _ sALL_i21, List.forall_mem_cons.mpr ⟨hts _ sALL_i22, fun _ h => absurd h List.not_mem_nil⟩⟩⟩⟩⟩⟩⟩⟩⟩⟩⟩⟩⟩⟩⟩⟩⟩⟩⟩⟩⟩⟩⟩
  refine ⟨fun w hw => ?_, fun x hx y hy hne => ?_⟩
  · rcases List.mem_append.mp hw with h | h
    · exact xs_word (Z := s) (U := s) ⟨State.WarmedH.refl s, fun _ _ => rfl⟩ hx w h
    · exact hstr w h
  · simp only [exl, List.mem_cons, List.not_mem_nil, or_false] at hx hy
    rcases hx with rfl | rfl | rfl | rfl <;> rcases hy with rfl | rfl | rfl | rfl <;> first | exact absurd rfl hne | exact va_Nc.of (hs _ (by decide +kernel))
theorem cR_init (sd : Int32) : cR (cF0 sd) cG0 (mF0 sd) mG0 0 0 0 1 0 0 := by
  refine ⟨⟨⟨rfl, rfl, by omega⟩, ⟨rfl, rfl, by omega⟩, ⟨rfl, rfl, by omega⟩, ⟨rfl, rfl, by omega⟩, fun c hc => absurd hc (Nat.not_lt_zero _), fun c hc => absurd hc (Nat.not_lt_zero _), fun c hc => absurd hc (Nat.not_lt_zero _), rfl⟩,
    ⟨fun t n ht => absurd ht (Nat.not_lt_zero _), fun n _ => rfl, fun t ht => absurd ht (Nat.not_lt_zero _), fun j hj => absurd hj (Nat.not_lt_zero _), fun j hj => absurd hj (Nat.not_lt_zero _), fun s _ => ⟨0, by omega, rfl⟩, fun s _ => Or.inr ⟨0, by omega, rfl⟩⟩,
    ⟨fun _ => rfl, fun _ => rfl, fun _ => Or.inl rfl⟩, ⟨fun d k _ _ => rfl, fun d _ => ⟨fun _ => rfl, fun _ => rfl⟩, fun _ => Or.inl rfl⟩, ⟨fun h => absurd rfl h, fun _ => zb_0⟩, ⟨rfl, by omega, fun h => absurd rfl h⟩, rfl, rfl, rfl, rfl, rfl, rfl, rfl, by omega, rfl⟩
