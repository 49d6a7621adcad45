/-! THE CLAIM OUT OF ONE WALK OF THE LAW'S BODY. Your part is whole_start (and what it stands on); all else here is the same for every law, but numbers. -/
def R_law : String := "DesignSpacesLaw"
def lw_P (b : Addr) (xs : List Int32) (args : Array Value) (s : State) : Prop := args = #[.ref b] ∧ s.IntsAt b xs ∧ xs.length ≤ 3585 ∧ (Jvm.Cond.and given_1 narrow_1).before args s = true
def lw_Q (_ : Array Value) (s : State) (o : Outcome) (t : State) : Prop := o = .returned (some (.int 1)) ∧ Framed s o t [] 1090 60551
def lw_Z (below : List Frame) (a : Array Value) (s : State) : State → Prop := fun t => ∃ o, t.status = .running ∧ Ended t below o ∧ lw_Q a s o t
/-- the law's own end, with 1 on the stack, nothing written that was there before, its room as the claim has it -/
theorem lw_ret {p : Program} {l : Launch} {e : Env} {s : State} {m : MethodId} {below : List Frame} {meth : Method} {c : Code} {b : Nat} (hx : p.tables.exec = Jvm.exec) (hb : c.code = code) (hr : meth.sig.returnType = ret) (hlocks : meth.locks = false) {pc : Nat} {H : Heap} {ls : Array Slot} (hdg : decode code pc = .ok (.ireturn, 1)) : W p l e room_1 s m #[Value.ref b] below meth c H [] 1090 60551 (lw_Z below #[Value.ref b] s) (F0 m pc ls [.int 1]) := by
  intro T hT X
  obtain ⟨fs, hret, hrun, hended, hW, hframe⟩ := X.leave (v := some (.int 1)) (hlocks := hlocks) (fun h => by rw [hr] at h; cases h)
  have hmeth' : T.vm.method? m = some meth := X.method'
  refine ⟨T.setFrames fs, ?_, .returned (some (.int 1)), hrun, hended, rfl, ⟨_, rfl⟩, hW, hframe⟩
  jvm_step X.here [X.here.top, hx, hb, hdg, hmeth', hr, ret, narrow_b1]
  (try refine ⟨rfl, ?_⟩); (try refine ⟨rfl, ?_⟩)
  first | (intro acts; rw [hret _ acts rfl rfl rfl]) | rw [hret _ _ rfl rfl rfl]
  exact Steps.refl _
/-- what holds at the law's entry: the machine, the code, the tables' words (any of lw_tbl by 'hts w (by decide +kernel)'), the script of L ints xs at the cell b, what the Statement gives of the start (any of its parts by flat_of_before) -/
def lw_At (p : Program) (s : State) (m : MethodId) (meth : Method) (c : Code) (b L : Nat) (xs : Nat → Int32) : Prop :=
  p.tables.exec = Jvm.exec ∧ c.code = code ∧ meth.sig.returnType = ret ∧ c.maxLocals = 8 ∧ s.vm.findClass R_law = some m.cls ∧ (∀ w ∈ lw_tbl, w.before #[Value.ref b] s = true) ∧ va_X b L xs s s.heap ∧ b < s.heap.size ∧ meth.locks = false ∧ (Jvm.Cond.and given_1 narrow_1).before #[Value.ref b] s = true
set_option maxHeartbeats 4000000 in
set_option maxRecDepth 100000 in
theorem lw_loop {p : Program} {l : Launch} {e : Env} {s : State} {m : MethodId} {below : List Frame} {meth : Method} {c : Code} {b L : Nat} {xs : Nat → Int32} {D : va_G} {cl : List vw_C} {kl : ClassId} {ck ka : Nat → ClassId} {oa ca ba : Nat → Nat} {bo a : Nat} (S0 : lwS p l s m c b L xs D cl kl ck ka) (hL : L ≤ 3585) (hr : meth.sig.returnType = ret) (hlocks : meth.locks = false) : ∀ (N j : Nat) (fo : Nat → Int64) (F : Nat → Int32) (G : Nat → Nat → Int32) (E : Nat → Int32) (K : Nat → Nat → Int32) (H : Heap) (locs : List Loc) (ls : Array Slot), L < 8 + 7 * j + 7 * N → 7 * j ≤ L → cX F G E K → va_P D cl (lW bo kl fo oa ca ck F G ++ mW a ba ka E K) H → va_D (fun q : Nat => s.heap.size ≤ q) (lW bo kl fo oa ca ck F G ++ mW a ba ka E K) → va_S (fun q : Nat => s.heap.size ≤ q) s.heap H locs → lv_has ls 8 (lvI bo a b (1 + 7 * j) (oa 0)) → W p l e room_1 s m #[Value.ref b] below meth c H locs (41 + j) (52209 + 6 * j) (lw_Z below #[Value.ref b] s) (F0 m 33 ls []) := by
  obtain ⟨hx, hb, hml, hown, hts, hX, hbl, hlt, hZ, hck, hcm, hKl, hKm⟩ := id S0
  intro N
  induction N with
  | zero =>
    intro j fo F G E K H locs ls hN hj hR hP hD hS hl
    refine lv_iload hx hb dK_33 (lv_at hl 0 rfl) ?_
    refine lv_aload_n hx hb dK_35 rfl (lv_at hl 4 rfl) ?_
    refine va_slen hx hb hX hbl (Nat.not_le.mpr hbl) hS dK_36 ?_
    refine lv_bipush (v := 7) hx hb dK_37 (by decide) ?_
    refine lv_isub hx hb dK_39 ?_
    refine lv_icmp_gt (tgt := 1364) hx hb dK_40 (by decide) (fun cz => ?_) (fun cz => ?_)
    · refine lv_iconst (v := 1) hx hb dK_1364 (by decide) ?_
      refine va_forget (fun q hq => hS.2.2 q hq) ?_
      refine W.widen (k := 1090) (n := 60551) (by omega) (by omega) ?_
      exact lw_ret hx hb hr hlocks dK_1365
    · exfalso
      have e1 : (Int32.ofNat L - 7).toInt = (L : Int) - 7 := pk_sub_toInt (a := L) (b := 7) (by omega) (by omega)
      have e2 : (nI (1 + 7 * j)).toInt = ((1 + 7 * j : Nat) : Int) := nI_toInt (by omega)
      apply cz
      rw [Int32.lt_iff_toInt_lt, e1, e2]
      omega
  | succ N ih =>
    intro j fo F G E K H locs ls hN hj hR hP hD hS hl
    refine lv_iload hx hb dK_33 (lv_at hl 0 rfl) ?_
    refine lv_aload_n hx hb dK_35 rfl (lv_at hl 4 rfl) ?_
    refine va_slen hx hb hX hbl (Nat.not_le.mpr hbl) hS dK_36 ?_
    refine lv_bipush (v := 7) hx hb dK_37 (by decide) ?_
    refine lv_isub hx hb dK_39 ?_
    have e1 : (Int32.ofNat L - 7).toInt = (L : Int) - 7 := pk_sub_toInt (a := L) (b := 7) (by omega) (by omega)
    have e2 : (nI (1 + 7 * j)).toInt = ((1 + 7 * j : Nat) : Int) := nI_toInt (by omega)
    refine lv_icmp_gt (tgt := 1364) hx hb dK_40 (by decide) (fun cz => ?_) (fun cz => ?_)
    · refine lv_iconst (v := 1) hx hb dK_1364 (by decide) ?_
      refine va_forget (fun q hq => hS.2.2 q hq) ?_
      refine W.widen (k := 1090) (n := 60551) (by omega) (by omega) ?_
      exact lw_ret hx hb hr hlocks dK_1365
    · have hi : 1 + 7 * j + 7 ≤ L := by
        have h9 : ¬ (Int32.ofNat L - 7).toInt < (nI (1 + 7 * j)).toInt := fun h9 => cz (Int32.lt_iff_toInt_lt.mpr h9)
        rw [e1, e2] at h9
        omega
      refine lv_aload_n hx hb dK_43 rfl (lv_at hl 4 rfl) ?_
      refine lv_iload hx hb dK_44 (lv_at hl 0 rfl) ?_
      refine va_sld hx hb hX hbl (Nat.not_le.mpr hbl) hS (vp_in_nI (by omega) (by omega)) dK_46 ?_
      refine lv_bipush (v := 31) hx hb dK_47 (by decide) ?_
      refine lv_iand hx hb dK_49 ?_
      have next : ∀ (fo : Nat → Int64) (F : Nat → Int32) (G : Nat → Nat → Int32) (E : Nat → Int32) (K : Nat → Nat → Int32) (H : Heap) (locs : List Loc) (ls : Array Slot), cX F G E K → va_P D cl (lW bo kl fo oa ca ck F G ++ mW a ba ka E K) H → va_D (fun q : Nat => s.heap.size ≤ q) (lW bo kl fo oa ca ck F G ++ mW a ba ka E K) → va_S (fun q : Nat => s.heap.size ≤ q) s.heap H locs → lv_has ls 8 (lvI bo a b (1 + 7 * j) (oa 0)) → W p l e room_1 s m #[Value.ref b] below meth c H locs (41 + j + 1) (52209 + 6 * j + 6) (lw_Z below #[Value.ref b] s) (F0 m 1358 ls []) := by
        intro fo F G E K H locs ls hR hP hD hS hl
        refine lv_iinc (v := nI (1 + 7 * (j + 1))) (lv' := lvI bo a b (1 + 7 * (j + 1)) (oa 0)) hx hb dK_1358 hl (k := 0) rfl ?_ (by decide) rfl (fun ls hl => ?_)
        · show nI (1 + 7 * j) + nI 7 = _
          rw [nI_add, show 1 + 7 * j + 7 = 1 + 7 * (j + 1) by omega]
        · refine lv_goto (tgt := 33) hx hb dK_1361 (by decide) ?_
          refine W.widen (k := 41 + (j + 1)) (n := 52209 + 6 * (j + 1)) (by omega) (by omega) ?_
          exact ih (j + 1) fo F G E K H locs ls (by omega) (by omega) hR hP hD hS hl
      obtain ⟨k, hk, ek⟩ := pk_andE (xs (nI (1 + 7 * j)).toNatClampNeg) (m := 31) 5 (by decide)
      rw [ek]
      rcases (by omega : k = 0 ∨ k = 1 ∨ k = 2 ∨ k = 3 ∨ k = 4 ∨ k = 5 ∨ k = 6 ∨ k = 7 ∨ k = 8 ∨ k = 9 ∨ k = 10 ∨ k = 11 ∨ k = 12 ∨ k = 13 ∨ k = 14 ∨ k = 15 ∨ k = 16 ∨ k = 17 ∨ k = 18 ∨ k = 19 ∨ 20 ≤ k) with rfl | rfl | rfl | rfl | rfl | rfl | rfl | rfl | rfl | rfl | rfl | rfl | rfl | rfl | rfl | rfl | rfl | rfl | rfl | rfl | h20
      · refine lv_tableIn (tgt := 144) (off := 94) hx hb dK_50 (by decide) (by decide) (by decide) (by decide) ?_
        exact lc_choice S0 hL (by omega) hR hP hD hS hl (by omega) (by omega) next
      · refine lv_tableIn (tgt := 200) (off := 150) hx hb dK_50 (by decide) (by decide) (by decide) (by decide) ?_
        exact lc_term S0 hL (by omega) hR hP hD hS hl (by omega) (by omega) next
      · refine lv_tableIn (tgt := 318) (off := 268) hx hb dK_50 (by decide) (by decide) (by decide) (by decide) ?_
        exact lc_rule S0 hL (by omega) hR hP hD hS hl (by omega) (by omega) next
      · refine lv_tableIn (tgt := 410) (off := 360) hx hb dK_50 (by decide) (by decide) (by decide) (by decide) ?_
        exact lc_limit S0 hL (by omega) hR hP hD hS hl (by omega) (by omega) next
      · refine lv_tableIn (tgt := 513) (off := 463) hx hb dK_50 (by decide) (by decide) (by decide) (by decide) ?_
        exact lc_number S0 hL (by omega) hR hP hD hS hl (by omega) (by omega) next
      · refine lv_tableIn (tgt := 581) (off := 531) hx hb dK_50 (by decide) (by decide) (by decide) (by decide) ?_
        exact lc_value S0 hL (by omega) hR hP hD hS hl (by omega) (by omega) next
      · refine lv_tableIn (tgt := 649) (off := 599) hx hb dK_50 (by decide) (by decide) (by decide) (by decide) ?_
        exact lc_legal S0 hL (by omega) hR hP hD hS hl (by omega) (by omega) next
      · refine lv_tableIn (tgt := 712) (off := 662) hx hb dK_50 (by decide) (by decide) (by decide) (by decide) ?_
        exact lc_beats S0 hL (by omega) hR hP hD hS hl (by omega) (by omega) next
      · refine lv_tableIn (tgt := 787) (off := 737) hx hb dK_50 (by decide) (by decide) (by decide) (by decide) ?_
        exact lc_undominated S0 hL (by omega) hR hP hD hS hl (by omega) (by omega) next
      · refine lv_tableIn (tgt := 800) (off := 750) hx hb dK_50 (by decide) (by decide) (by decide) (by decide) ?_
        exact lc_at S0 hL (by omega) hR hP hD hS hl (by omega) (by omega) next
      · refine lv_tableIn (tgt := 856) (off := 806) hx hb dK_50 (by decide) (by decide) (by decide) (by decide) ?_
        exact lc_best S0 hL (by omega) hR hP hD hS hl (by omega) (by omega) next
      · refine lv_tableIn (tgt := 912) (off := 862) hx hb dK_50 (by decide) (by decide) (by decide) (by decide) ?_
        exact lc_looked S0 hL (by omega) hR hP hD hS hl (by omega) (by omega) next
      · refine lv_tableIn (tgt := 925) (off := 875) hx hb dK_50 (by decide) (by decide) (by decide) (by decide) ?_
        exact lc_bound S0 hL (by omega) hR hP hD hS hl (by omega) (by omega) next
      · refine lv_tableIn (tgt := 1005) (off := 955) hx hb dK_50 (by decide) (by decide) (by decide) (by decide) ?_
        exact lc_near S0 hL (by omega) hR hP hD hS hl (by omega) (by omega) next
      · refine lv_tableIn (tgt := 1073) (off := 1023) hx hb dK_50 (by decide) (by decide) (by decide) (by decide) ?_
        exact lc_slack S0 hL (by omega) hR hP hD hS hl (by omega) (by omega) next
      · refine lv_tableIn (tgt := 1129) (off := 1079) hx hb dK_50 (by decide) (by decide) (by decide) (by decide) ?_
        exact lc_walk S0 hL (by omega) hR hP hD hS hl (by omega) (by omega) next
      · refine lv_tableIn (tgt := 1197) (off := 1147) hx hb dK_50 (by decide) (by decide) (by decide) (by decide) ?_
        exact lc_lowest S0 hL (by omega) hR hP hD hS hl (by omega) (by omega) next
      · refine lv_tableIn (tgt := 1210) (off := 1160) hx hb dK_50 (by decide) (by decide) (by decide) (by decide) ?_
        exact lc_matters S0 hL (by omega) hR hP hD hS hl (by omega) (by omega) next
      · refine lv_tableIn (tgt := 1277) (off := 1227) hx hb dK_50 (by decide) (by decide) (by decide) (by decide) ?_
        exact lc_sweep S0 hL (by omega) hR hP hD hS hl (by omega) (by omega) next
      · refine lv_tableIn (tgt := 1333) (off := 1283) hx hb dK_50 (by decide) (by decide) (by decide) (by decide) ?_
        exact lc_count S0 hL (by omega) hR hP hD hS hl (by omega) (by omega) next
      · refine lv_tableOut (tgt := 1358) hx hb dK_50 (Or.inr (by rw [nI_toInt (by omega)]; omega)) (by decide) ?_
        refine W.widen (k := 41 + j + 1) (n := 52209 + 6 * j + 6) (by omega) (by omega) ?_
        exact next fo F G E K H locs ls hR hP hD hS hl
