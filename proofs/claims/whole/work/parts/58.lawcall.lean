/-! the law's own walk: worlds side by side, calls, what lies behind a call -/
section AP
variable {D : va_G} {cl : List vw_C} {H H0 H1 : Heap} {locs : List Loc} {A0 : Nat → Prop} {w w' v v' : va_W}
theorem ap_lt {α : Type} {w : List α} {k : Nat} {q : α} (h : w[k]? = some q) : k < w.length := (List.getElem?_eq_some_iff.mp h).1
theorem ap_l {α : Type} {w v : List α} {k : Nat} {q : α} (h : w[k]? = some q) : (w ++ v)[k]? = some q := by
  rw [List.getElem?_append_left (ap_lt h)]; exact h
theorem ap_r {α : Type} {w v : List α} {k : Nat} {q : α} (h : v[k]? = some q) : (w ++ v)[w.length + k]? = some q := by
  rw [List.getElem?_append_right (Nat.le_add_right _ _), Nat.add_sub_cancel_left]; exact h
theorem ap_c {α : Type} {w v : List α} {k : Nat} {q : α} (h : (w ++ v)[k]? = some q) : w[k]? = some q ∨ ∃ j, k = w.length + j ∧ v[j]? = some q := by
  rcases Nat.lt_or_ge k w.length with q1 | q1
  · rw [List.getElem?_append_left q1] at h; exact Or.inl h
  · rw [List.getElem?_append_right q1] at h; exact Or.inr ⟨k - w.length, by omega, h⟩
theorem ap_P_l (hP : va_P D cl (w ++ v) H) : va_P D cl w H := fun k q hk => hP k q (ap_l hk)
theorem ap_P_r (hP : va_P D cl (w ++ v) H) : va_P D cl v H := fun k q hk => hP _ q (ap_r hk)
theorem ap_D_l (hD : va_D A0 (w ++ v)) : va_D A0 w := ⟨fun i j x z hi hj e => hD.1 i j x z (ap_l hi) (ap_l hj) e, fun k q hk => hD.2 k q (ap_l hk)⟩
theorem ap_D_r (hD : va_D A0 (w ++ v)) : va_D A0 v := ⟨fun i j x z hi hj e => by have := hD.1 _ _ x z (ap_r hi) (ap_r hj) e; omega, fun k q hk => hD.2 _ q (ap_r hk)⟩
theorem ap_T (hD : va_D A0 w) : va_D (fun _ => True) w := ⟨hD.1, fun _ _ _ => trivial⟩
theorem ap_in_l (hD : va_D A0 (w ++ v)) (hS : va_S A0 H0 H locs) (hA : ∀ q : Nat, H0.size ≤ q → A0 q) : ∀ q, va_A w H.size q → A0 q := by
  intro q h
  rcases h with ⟨k, e, h⟩ | h
  · exact hD.2 k (q, e) (ap_l h)
  · exact hA q (Nat.le_trans hS.1 h)
theorem ap_in_r (hD : va_D A0 (w ++ v)) (hS : va_S A0 H0 H locs) (hA : ∀ q : Nat, H0.size ≤ q → A0 q) : ∀ q, va_A v H.size q → A0 q := by
  intro q h
  rcases h with ⟨k, e, h⟩ | h
  · exact hD.2 _ (q, e) (ap_r h)
  · exact hA q (Nat.le_trans hS.1 h)
theorem ap_join_l (hP : va_P D cl (w ++ v) H) (hD : va_D A0 (w ++ v)) (hin : ∀ q, va_A w H.size q → A0 q) (hk : ∀ q : Nat, q < H.size → ¬ va_A w H.size q → H1[q]? = H[q]?) (hP1 : va_P D cl w' H1) (hD1 : va_D (va_A w H.size) w') : va_P D cl (w' ++ v) H1 ∧ va_D A0 (w' ++ v) := by
  have out : ∀ (k : Nat) (q : Nat × va_E), v[k]? = some q → ¬ va_A w H.size q.1 := fun k q hq h => by
    rcases h with ⟨j, e, h⟩ | h
    · have h1 := hD.1 j (w.length + k) (q.1, e) q (ap_l h) (ap_r hq) rfl
      have h2 := ap_lt h
      omega
    · have h1 := (hP _ q (ap_r hq)).lt
      omega
  refine ⟨fun k q hq => ?_, fun i j x z hi hj exz => ?_, fun k q hq => ?_⟩
  · rcases ap_c hq with h | ⟨j, -, h⟩
    · exact hP1 k q h
    · exact (hP _ q (ap_r h)).kept (hk q.1 (hP _ q (ap_r h)).lt (out j q h))
  · rcases ap_c hi with h | ⟨a, ea, h⟩ <;> rcases ap_c hj with h' | ⟨a', ea', h'⟩
    · exact hD1.1 i j x z h h' exz
    · exact absurd (by rw [← exz]; exact hD1.2 i x h) (out a' z h')
    · exact absurd (by rw [exz]; exact hD1.2 j z h') (out a x h)
    · have h1 := hD.1 _ _ x z (ap_r h) (ap_r h') exz
      omega
  · rcases ap_c hq with h | ⟨j, -, h⟩
    · exact hin _ (hD1.2 k q h)
    · exact hD.2 _ q (ap_r h)
theorem ap_join_r (hP : va_P D cl (w ++ v) H) (hD : va_D A0 (w ++ v)) (hin : ∀ q, va_A v H.size q → A0 q) (hk : ∀ q : Nat, q < H.size → ¬ va_A v H.size q → H1[q]? = H[q]?) (hP1 : va_P D cl v' H1) (hD1 : va_D (va_A v H.size) v') : va_P D cl (w ++ v') H1 ∧ va_D A0 (w ++ v') := by
  have out : ∀ (k : Nat) (q : Nat × va_E), w[k]? = some q → ¬ va_A v H.size q.1 := fun k q hq h => by
    rcases h with ⟨j, e, h⟩ | h
    · have h1 := hD.1 k (w.length + j) q (q.1, e) (ap_l hq) (ap_r h) rfl
      have h2 := ap_lt hq
      omega
    · have h1 := (hP _ q (ap_l hq)).lt
      omega
  refine ⟨fun k q hq => ?_, fun i j x z hi hj exz => ?_, fun k q hq => ?_⟩
  · rcases ap_c hq with h | ⟨j, -, h⟩
    · exact (hP _ q (ap_l h)).kept (hk q.1 (hP _ q (ap_l h)).lt (out k q h))
    · exact hP1 j q h
  · rcases ap_c hi with h | ⟨a, ea, h⟩ <;> rcases ap_c hj with h' | ⟨a', ea', h'⟩
    · exact hD.1 i j x z (ap_l h) (ap_l h') exz
    · exact absurd (by rw [exz]; exact hD1.2 a' z h') (out i x h)
    · exact absurd (by rw [← exz]; exact hD1.2 a x h) (out j z h')
    · have h1 := hD1.1 a a' x z h h' exz
      omega
  · rcases ap_c hq with h | ⟨j, -, h⟩
    · exact hD.2 k q (ap_l h)
    · exact hin _ (hD1.2 j q h)
end AP
/-- what stays as it is through the law -/
def lwS (p : Program) (l : Launch) (s : State) (m : MethodId) (c : Code) (b L : Nat) (xs : Nat → Int32) (D : va_G) (cl : List vw_C) (kl : ClassId) (ck ka : Nat → ClassId) : Prop :=
  p.tables.exec = Jvm.exec ∧ c.code = code ∧ c.maxLocals = 8 ∧ s.vm.findClass RL = some m.cls ∧ (∀ w ∈ lw_tbl, w.before #[Value.ref b] s = true) ∧ va_X b L xs s s.heap ∧ b < s.heap.size ∧ l.stackTraces = false ∧ xZ s ∧ cOK cl ∧ cl[0]? = some (RM, TM, 29) ∧ va_K D cl (lT kl ck) s ∧ va_K D cl (mT ka) s
section LWC
variable {p : Program} {l : Launch} {e : Env} {s : State} {m : MethodId} {below : List Frame} {meth : Method} {c : Code} {b L : Nat} {xs : Nat → Int32} {D : va_G} {cl : List vw_C} {kl : ClassId} {ck ka : Nat → ClassId} {H : Heap} {locs : List Loc} {cells slots pc : Nat} {Q : State → Prop} {ls : Array Slot} {rest st : List Value}
theorem lw_call (S0 : lwS p l s m c b L xs D cl kl ck ka) {y : MethodName} {bytes : ByteArray} {maxL index n : Nat} {hh : List (Nat × Nat × Nat × Nat)} {ws ws' : List Cond} {rm : Room} {av : List Value} {kx : Int32} {w w' v : va_W}
    (hM : Met l y ws rm (tx_P s D cl (lT kl ck) H av) (ww_Q D cl (some (.int kx)) w' (va_A w H.size)) 1 6 (va_A w H.size)) (hrc : rm.cells = 1) (hrs : rm.slots = 6) (hfr : rm.frames + 1 ≤ room_1.frames) (hlo : 8 + (maxL + 11) + rm.locals ≤ room_1.locals) (hT : GoodIn lw_tbl (va_wsS RL index y ws)) (hw : ws = Cond.codeWith y bytes maxL (some .int) hh :: ws')
    (hd : y.cls ≠ "java/lang/invoke/MethodHandle" ∧ y.cls ≠ "java/lang/invoke/VarHandle" ∧ (parseMethodDescriptor y.desc).map (fun d => d.parameters.length) = some n) (hn : av.length = n) (hsz : ls.size = 8) (hst : st = av.reverse ++ rest) (hW : (rest.map fun v => v.category).sum ≤ 8) (hdg : decode code pc = .ok (.invokestatic index, 3)) (hc1 : cells + 1 ≤ 1090) (hs1 : slots + 6 ≤ 60551)
    (hP : va_P D cl (w ++ v) H) (hD : va_D (fun q : Nat => s.heap.size ≤ q) (w ++ v)) (hS : va_S (fun q : Nat => s.heap.size ≤ q) s.heap H locs)
    (kk : ∀ (H1 : Heap) (locs1 : List Loc), va_P D cl (w' ++ v) H1 → va_D (fun q : Nat => s.heap.size ≤ q) (w' ++ v) → va_S (fun q : Nat => s.heap.size ≤ q) s.heap H1 locs1 → W p l e room_1 s m #[Value.ref b] below meth c H1 locs1 (cells + 1) (slots + 6) Q (F0 m (pc + 3) ls (.int kx :: rest))) : W p l e room_1 s m #[Value.ref b] below meth c H locs cells slots Q (F0 m pc ls st) := by
  obtain ⟨hx, hb, hml, hown, hts, -, -, -, -, -, -, hKl, -⟩ := id S0
  subst hst
  have hin := ap_in_l hD hS (fun _ h => h)
  exact wk_call (r := some (.int kx)) (lw_runSW (g := F0 m pc ls (av.reverse ++ rest)) ⟨hx, hb, hml, hown, hts⟩ hM hrc hrs hfr hlo hT hw hd ⟨tx_blind, fun U hU hW9 => ⟨rfl, hU, va_K.moved hW9.alike hKl, hW9⟩⟩ rfl hn hsz rfl (lv_room hW) hdg ⟨hc1, hs1⟩) hS hin (fun H1 locs1 h1 h2 _ h4 h5 => kk H1 locs1 (ap_join_l hP hD hin h4 h1 h2).1 (ap_join_l hP hD hin h4 h1 h2).2 h5)
theorem lm_call (S0 : lwS p l s m c b L xs D cl kl ck ka) {y : MethodName} {bytes : ByteArray} {maxL index n a : Nat} {ret : Option FieldType} {ws : List Cond} {rm : Room} {As : List Value} {r : Option Value} {C : String} {tys : List (ClassId × FieldType)} {w v v' : va_W}
    (hM : ww_Met l y ws rm D cl tys H (.ref a :: As) v r v') (cw : CallW room_1 s #[Value.ref b] RL C index y bytes maxL ret ws rm 0 0 n) (hK : va_K D cl tys s) (hrecv : ∃ cell : Cell, H[a]? = some cell ∧ cell.vm.isStatics = false ∧ s.vm.findClass C = some cell.cls) (hn : As.length = n) (hsz : ls.size = 8) (hst : st = As.reverse ++ .ref a :: rest) (hW : (rest.map fun v => v.category).sum ≤ 8) (hdg : decode code pc = .ok (.invokevirtual index, 3)) (hc1 : cells ≤ 1090) (hs1 : slots ≤ 60551)
    (hP : va_P D cl (w ++ v) H) (hD : va_D (fun q : Nat => s.heap.size ≤ q) (w ++ v)) (hS : va_S (fun q : Nat => s.heap.size ≤ q) s.heap H locs)
    (kk : ∀ (H1 : Heap) (locs1 : List Loc), va_P D cl (w ++ v') H1 → va_D (fun q : Nat => s.heap.size ≤ q) (w ++ v') → va_S (fun q : Nat => s.heap.size ≤ q) s.heap H1 locs1 → W p l e room_1 s m #[Value.ref b] below meth c H1 locs1 cells slots Q (F0 m (pc + 3) ls (r.toList ++ rest))) : W p l e room_1 s m #[Value.ref b] below meth c H locs cells slots Q (F0 m pc ls st) := by
  obtain ⟨hx, hb, hml, hown, hts, -⟩ := id S0
  subst hst
  have hin := ap_in_r hD hS (fun _ h => h)
  exact ww_call (va_runV (g := F0 m pc ls (As.reverse ++ .ref a :: rest)) ⟨hx, hb, hml, hown, hts⟩ hM cw ⟨ro_blind, hrecv, fun U hU hW => ⟨rfl, hU, va_K.moved hW.alike hK⟩⟩ rfl hn hsz rfl (lv_room hW) hdg ⟨hc1, hs1⟩) hS hin (fun H1 locs1 h1 h2 _ h4 h5 => kk H1 locs1 (ap_join_r hP hD hin h4 h1 h2).1 (ap_join_r hP hD hin h4 h1 h2).2 h5)
/-- a call of the class itself: its world lies between the law's own cell and the reference's world -/
theorem lx_call (S0 : lwS p l s m c b L xs D cl kl ck ka) {y : MethodName} {bytes : ByteArray} {maxL index n a : Nat} {ret : Option FieldType} {ws : List Cond} {rm : Room} {As : List Value} {r : Option Value} {C : String} {tys : List (ClassId × FieldType)} {o : Nat × va_E} {w v v' : va_W}
    (hM : ww_Met l y ws rm D cl tys H (.ref a :: As) v r v') (cw : CallW room_1 s #[Value.ref b] RL C index y bytes maxL ret ws rm 0 0 n) (hK : va_K D cl tys s) (hrecv : ∃ cell : Cell, H[a]? = some cell ∧ cell.vm.isStatics = false ∧ s.vm.findClass C = some cell.cls) (hn : As.length = n) (hsz : ls.size = 8) (hst : st = As.reverse ++ .ref a :: rest) (hW : (rest.map fun v => v.category).sum ≤ 8) (hdg : decode code pc = .ok (.invokevirtual index, 3)) (hc1 : cells ≤ 1090) (hs1 : slots ≤ 60551)
    (hP : va_P D cl ([o] ++ (v ++ w)) H) (hD : va_D (fun q : Nat => s.heap.size ≤ q) ([o] ++ (v ++ w))) (hS : va_S (fun q : Nat => s.heap.size ≤ q) s.heap H locs)
    (kk : ∀ (H1 : Heap) (locs1 : List Loc), va_P D cl ([o] ++ (v' ++ w)) H1 → va_D (fun q : Nat => s.heap.size ≤ q) ([o] ++ (v' ++ w)) → va_S (fun q : Nat => s.heap.size ≤ q) s.heap H1 locs1 → W p l e room_1 s m #[Value.ref b] below meth c H1 locs1 cells slots Q (F0 m (pc + 3) ls (r.toList ++ rest))) : W p l e room_1 s m #[Value.ref b] below meth c H locs cells slots Q (F0 m pc ls st) := by
  obtain ⟨hx, hb, hml, hown, hts, -⟩ := id S0
  subst hst
  have hin := ap_in_r hD hS (fun _ h => h)
  have hmn : ∀ q, va_A v H.size q → va_A (v ++ w) H.size q := fun q h => by
    rcases h with ⟨k, e, h⟩ | h
    · exact Or.inl ⟨k, e, ap_l h⟩
    · exact Or.inr h
  refine ww_call (va_runV (g := F0 m pc ls (As.reverse ++ .ref a :: rest)) ⟨hx, hb, hml, hown, hts⟩ hM cw ⟨ro_blind, hrecv, fun U hU hW => ⟨rfl, hU, va_K.moved hW.alike hK⟩⟩ rfl hn hsz rfl (lv_room hW) hdg ⟨hc1, hs1⟩) hS (fun q h => hin q (hmn q h)) (fun H1 locs1 h1 h2 _ h4 h5 => ?_)
  have j1 := ap_join_l (A0 := va_A (v ++ w) H.size) (ap_P_r hP) ⟨(ap_D_r hD).1, fun k q hk => Or.inl ⟨k, q.2, hk⟩⟩ hmn h4 h1 h2
  have j2 := ap_join_r (w := [o]) hP hD hin (fun q q1 q2 => h4 q q1 (fun q3 => q2 (hmn q q3))) j1.1 j1.2
  exact kk H1 locs1 j2.1 j2.2 h5
/-- script[i + k] -/
theorem ld_arg (S0 : lwS p l s m c b L xs D cl kl ck ka) {i k : Nat} {z : Int} (hL : L ≤ 3585) (hi : i + k < L) (hS : va_S (fun q : Nat => s.heap.size ≤ q) s.heap H locs) (h0 : ls[0]? = some (.val (.ref b))) (h4 : ls[4]? = some (.val (.int (nI i)))) (hz : Int32.ofInt z = nI k)
    (d0 : decode code pc = .ok (.aload_n 0, 1)) (d1 : decode code (pc + 1) = .ok (.iload 4, 2)) (d3 : decode code (pc + 3) = .ok (.iconst z, 1)) (d4 : decode code (pc + 4) = .ok (.iadd, 1)) (d5 : decode code (pc + 5) = .ok (.iaload, 1))
    (kk : W p l e room_1 s m #[Value.ref b] below meth c H locs cells slots Q (F0 m (pc + 6) ls (.int (xs (i + k)) :: rest))) : W p l e room_1 s m #[Value.ref b] below meth c H locs cells slots Q (F0 m pc ls rest) := by
  obtain ⟨hx, hb, hml, hown, hts, hX, hbl, -⟩ := id S0
  refine lv_aload_n hx hb d0 rfl h0 ?_
  refine lv_iload hx hb d1 h4 ?_
  refine lv_iconst (v := nI k) hx hb d3 hz ?_
  refine lv_iadd hx hb d4 ?_
  rw [nI_add]
  refine va_sld hx hb hX hbl (Nat.not_le.mpr hbl) hS (vp_in_nI hi (by omega)) d5 ?_
  rw [nI_clamp (by omega)]
  exact kk
theorem ld_arg6 (S0 : lwS p l s m c b L xs D cl kl ck ka) {i k : Nat} {z : Int} (hL : L ≤ 3585) (hi : i + k < L) (hS : va_S (fun q : Nat => s.heap.size ≤ q) s.heap H locs) (h0 : ls[0]? = some (.val (.ref b))) (h4 : ls[4]? = some (.val (.int (nI i)))) (hz : (Int8.ofInt z).toInt32 = nI k)
    (d0 : decode code pc = .ok (.aload_n 0, 1)) (d1 : decode code (pc + 1) = .ok (.iload 4, 2)) (d3 : decode code (pc + 3) = .ok (.bipush z, 2)) (d4 : decode code (pc + 5) = .ok (.iadd, 1)) (d5 : decode code (pc + 6) = .ok (.iaload, 1))
    (kk : W p l e room_1 s m #[Value.ref b] below meth c H locs cells slots Q (F0 m (pc + 7) ls (.int (xs (i + k)) :: rest))) : W p l e room_1 s m #[Value.ref b] below meth c H locs cells slots Q (F0 m pc ls rest) := by
  obtain ⟨hx, hb, hml, hown, hts, hX, hbl, -⟩ := id S0
  refine lv_aload_n hx hb d0 rfl h0 ?_
  refine lv_iload hx hb d1 h4 ?_
  refine lv_bipush (v := nI k) hx hb d3 hz ?_
  refine lv_iadd hx hb d4 ?_
  rw [nI_add]
  refine va_sld hx hb hX hbl (Nat.not_le.mpr hbl) hS (vp_in_nI hi (by omega)) d5 ?_
  rw [nI_clamp (by omega)]
  exact kk
/-- script[i + k] != 0 -/
theorem ld_bool (S0 : lwS p l s m c b L xs D cl kl ck ka) {i k : Nat} {z : Int} (hL : L ≤ 3585) (hi : i + k < L) (hS : va_S (fun q : Nat => s.heap.size ≤ q) s.heap H locs) (h0 : ls[0]? = some (.val (.ref b))) (h4 : ls[4]? = some (.val (.int (nI i)))) (hz : Int32.ofInt z = nI k)
    (d0 : decode code pc = .ok (.aload_n 0, 1)) (d1 : decode code (pc + 1) = .ok (.iload 4, 2)) (d3 : decode code (pc + 3) = .ok (.iconst z, 1)) (d4 : decode code (pc + 4) = .ok (.iadd, 1)) (d5 : decode code (pc + 5) = .ok (.iaload, 1))
    (d6 : decode code (pc + 6) = .ok (.ifCond .eq 7, 3)) (d9 : decode code (pc + 9) = .ok (.iconst 1, 1)) (d10 : decode code (pc + 10) = .ok (.goto 4, 3)) (d13 : decode code (pc + 13) = .ok (.iconst 0, 1))
    (kk : W p l e room_1 s m #[Value.ref b] below meth c H locs cells slots Q (F0 m (pc + 14) ls (.int (if xs (i + k) = 0 then 0 else 1) :: rest))) : W p l e room_1 s m #[Value.ref b] below meth c H locs cells slots Q (F0 m pc ls rest) := by
  obtain ⟨hx, hb, hml, hown, hts, hX, hbl, -⟩ := id S0
  refine ld_arg S0 hL hi hS h0 h4 hz d0 d1 d3 d4 d5 ?_
  refine lv_if_eq (tgt := pc + 13) hx hb d6 (by omega) (fun cz => ?_) (fun cz => ?_)
  · refine lv_iconst (v := 0) hx hb d13 (by decide) ?_
    rw [if_pos cz] at kk
    exact kk
  · refine lv_iconst (v := 1) hx hb d9 (by decide) ?_
    refine lv_goto (tgt := pc + 14) hx hb d10 (by omega) ?_
    rw [if_neg cz] at kk
    exact kk
set_option maxRecDepth 100000 in
theorem mlLm_90 : Cond.methodLink RL 90 yM_thrown ∈ lw0 := by decide +kernel
theorem gLm_thrown : GoodIn lw_tbl (wsV RL 90 RM yM_thrown wsM_thrown) := gVT (Gd_l mlLm_90) (Gd_r miM_thrown) (Gd_r meM_thrown) (Gd_r mnM) (Gd_cons (Gd_r mcM_thrown) (fun _ h => Gd_r h))
abbrev lvI (bo a b i x1 : Nat) : List (Nat × Value) := [(4, .int (nI i)), (3, .ref bo), (2, .ref a), (1, .ref x1), (0, .ref b)]
variable {oa ca ba : Nat → Nat} {bo a : Nat} {fo : Nat → Int64} {F E : Nat → Int32} {G K : Nat → Nat → Int32} {i q : Nat} {kx : Int32}
/-- the reference's error against the class's: from 'aload_2' to the test of the error -/
theorem tail_k (S0 : lwS p l s m c b L xs D cl kl ck ka) (hP : va_P D cl (lW bo kl fo oa ca ck F G ++ mW a ba ka E K) H) {lv : List (Nat × Value)} (hl : lv_has ls 8 lv) (hl2 : ls[2]? = some (.val (.ref a))) (hl5 : ls[5]? = some (.val (.int kx))) (hk : E 0 = kx)
    (d2 : decode code q = .ok (.aload_n 2, 1)) (d3 : decode code (q + 1) = .ok (.invokevirtual 90, 3)) (d6 : decode code (q + 4) = .ok (.iload 5, 2)) (d8 : decode code (q + 6) = .ok (.if_icmp .eq 5, 3)) (hc1 : cells ≤ 1090) (hs1 : slots ≤ 60551)
    (kk : W p l e room_1 s m #[Value.ref b] below meth c H locs cells slots Q (F0 m (q + 11) ls rest)) (hW : (rest.map fun v => v.category).sum ≤ 8) : W p l e room_1 s m #[Value.ref b] below meth c H locs cells slots Q (F0 m q ls rest) := by
  obtain ⟨hx, hb, hml, hown, hts, hX, hbl, hlt, hZ, hck, hcm, hKl, hKm⟩ := id S0
  refine lv_aload_n hx hb d2 rfl hl2 ?_
  refine ro_callV (As := []) (rest := rest) ⟨hx, hb, hml, hown, hts⟩ (c_M_thrown l D cl hcm a ba ka E K (ap_P_r hP)) (cwV 0 hts gLm_thrown rfl rfl rfl (by decide +kernel) ⟨Nat.le_of_ble_eq_true rfl, Nat.le_of_ble_eq_true rfl⟩) hKm (va_recv hKm (ap_P_r hP) (ci := 0) (q0 := 0) hcm rfl) rfl hl.1 rfl hW d3 ⟨hc1, hs1⟩ ?_
  refine lv_iload hx hb d6 hl5 ?_
  refine lv_icmp_eq (tgt := q + 11) hx hb d8 (by omega) (fun _ => kk) (fun cz => absurd hk cz)
theorem tail_I (S0 : lwS p l s m c b L xs D cl kl ck ka) (hP : va_P D cl (lW bo kl fo oa ca ck F G ++ mW a ba ka E K) H) {bv : Int32} {off : Int} (hl : lv_has ls 8 ((5, .int kx) :: lvI bo a b i (oa 0))) (hk : E 0 = kx) (hv : kx = 0 → fo 0 = bv.toInt64)
    (d0 : decode code q = .ok (.istore 6, 2)) (d2 : decode code (q + 2) = .ok (.aload_n 2, 1)) (d3 : decode code (q + 3) = .ok (.invokevirtual 90, 3)) (d6 : decode code (q + 6) = .ok (.iload 5, 2)) (d8 : decode code (q + 8) = .ok (.if_icmp .eq 5, 3))
    (d13 : decode code (q + 13) = .ok (.iload 5, 2)) (d15 : decode code (q + 15) = .ok (.ifCond .ne 15, 3)) (d18 : decode code (q + 18) = .ok (.aload_n 3, 1)) (d19 : decode code (q + 19) = .ok (.iconst 0, 1)) (d20 : decode code (q + 20) = .ok (.laload, 1)) (d21 : decode code (q + 21) = .ok (.iload 6, 2)) (d23 : decode code (q + 23) = .ok (.i2l, 1)) (d24 : decode code (q + 24) = .ok (.lcmp, 1)) (d25 : decode code (q + 25) = .ok (.ifCond .eq 5, 3)) (d30 : decode code (q + 30) = .ok (.goto off, 3)) (ho : ((q + 30 : Nat) : Int) + off = ((1358 : Nat) : Int)) (hc1 : cells ≤ 1090) (hs1 : slots ≤ 60551)
    (kk : ∀ ls : Array Slot, lv_has ls 8 (lvI bo a b i (oa 0)) → W p l e room_1 s m #[Value.ref b] below meth c H locs cells slots Q (F0 m 1358 ls [])) : W p l e room_1 s m #[Value.ref b] below meth c H locs cells slots Q (F0 m q ls [.int bv]) := by
  obtain ⟨hx, hb, hml, hown, hts, hX, hbl, hlt, hZ, hck, hcm, hKl, hKm⟩ := id S0
  refine lv_istore (lv' := (6, .int bv) :: (5, .int kx) :: lvI bo a b i (oa 0)) hx hb d0 hl (by decide) rfl (fun ls hl => ?_)
  refine tail_k S0 hP hl (lv_at hl 4 rfl) (lv_at hl 1 rfl) hk d2 d3 d6 d8 hc1 hs1 ?_ (Nat.zero_le _)
  refine lv_iload hx hb d13 (lv_at hl 1 rfl) ?_
  refine lv_if_ne (tgt := q + 30) hx hb d15 (by omega) (fun cz => ?_) (fun cz => ?_)
  · refine lv_goto (tgt := 1358) hx hb d30 ho ?_
    exact kk ls (lv_sub hl [2, 3, 4, 5, 6] rfl)
  · refine lv_aload_n hx hb d18 rfl (lv_at hl 3 rfl) ?_
    refine lv_iconst (v := 0) hx hb d19 (by decide) ?_
    refine va_lald hx hb hKl (ap_P_l hP) 0 0 rfl rfl (show vp_in 0 1 by unfold vp_in; decide) d20 ?_
    refine lv_iload hx hb d21 (lv_at hl 0 rfl) ?_
    refine lv_i2l hx hb d23 rfl ?_
    refine W.lcmp hx hb d24 ?_
    have e0 : lg_cmp (fo (0 : Int32).toNatClampNeg) bv.toInt64 = 0 := by
      rw [sb_cl0, hv cz]; unfold lg_cmp; rw [if_neg (fun h9 => Int64.lt_irrefl h9), if_pos rfl]
    rw [e0]
    refine lv_if_eq (tgt := q + 30) hx hb d25 (by omega) (fun _ => ?_) (fun c9 => absurd rfl c9)
    refine lv_goto (tgt := 1358) hx hb d30 ho ?_
    exact kk ls (lv_sub hl [2, 3, 4, 5, 6] rfl)
theorem tail_Z (S0 : lwS p l s m c b L xs D cl kl ck ka) (hP : va_P D cl (lW bo kl fo oa ca ck F G ++ mW a ba ka E K) H) {bv : Int32} {off : Int} (hl : lv_has ls 8 ((5, .int kx) :: lvI bo a b i (oa 0))) (hk : E 0 = kx) (hv : kx = 0 → fo 0 = (if bv = 0 then 0 else 1 : Int64))
    (d0 : decode code q = .ok (.istore 6, 2)) (d2 : decode code (q + 2) = .ok (.aload_n 2, 1)) (d3 : decode code (q + 3) = .ok (.invokevirtual 90, 3)) (d6 : decode code (q + 6) = .ok (.iload 5, 2)) (d8 : decode code (q + 8) = .ok (.if_icmp .eq 5, 3))
    (d13 : decode code (q + 13) = .ok (.iload 5, 2)) (d15 : decode code (q + 15) = .ok (.ifCond .ne 22, 3)) (d18 : decode code (q + 18) = .ok (.aload_n 3, 1)) (d19 : decode code (q + 19) = .ok (.iconst 0, 1)) (d20 : decode code (q + 20) = .ok (.laload, 1)) (d21 : decode code (q + 21) = .ok (.iload 6, 2)) (d23 : decode code (q + 23) = .ok (.ifCond .eq 7, 3)) (d26 : decode code (q + 26) = .ok (.lconst 1, 1)) (d27 : decode code (q + 27) = .ok (.goto 4, 3)) (d30 : decode code (q + 30) = .ok (.lconst 0, 1)) (d31 : decode code (q + 31) = .ok (.lcmp, 1)) (d32 : decode code (q + 32) = .ok (.ifCond .eq 5, 3)) (d37 : decode code (q + 37) = .ok (.goto off, 3)) (ho : ((q + 37 : Nat) : Int) + off = ((1358 : Nat) : Int)) (hc1 : cells ≤ 1090) (hs1 : slots ≤ 60551)
    (kk : ∀ ls : Array Slot, lv_has ls 8 (lvI bo a b i (oa 0)) → W p l e room_1 s m #[Value.ref b] below meth c H locs cells slots Q (F0 m 1358 ls [])) : W p l e room_1 s m #[Value.ref b] below meth c H locs cells slots Q (F0 m q ls [.int bv]) := by
  obtain ⟨hx, hb, hml, hown, hts, hX, hbl, hlt, hZ, hck, hcm, hKl, hKm⟩ := id S0
  refine lv_istore (lv' := (6, .int bv) :: (5, .int kx) :: lvI bo a b i (oa 0)) hx hb d0 hl (by decide) rfl (fun ls hl => ?_)
  refine tail_k S0 hP hl (lv_at hl 4 rfl) (lv_at hl 1 rfl) hk d2 d3 d6 d8 hc1 hs1 ?_ (Nat.zero_le _)
  refine lv_iload hx hb d13 (lv_at hl 1 rfl) ?_
  refine lv_if_ne (tgt := q + 37) hx hb d15 (by omega) (fun cz => ?_) (fun cz => ?_)
  · refine lv_goto (tgt := 1358) hx hb d37 ho ?_
    exact kk ls (lv_sub hl [2, 3, 4, 5, 6] rfl)
  · refine lv_aload_n hx hb d18 rfl (lv_at hl 3 rfl) ?_
    refine lv_iconst (v := 0) hx hb d19 (by decide) ?_
    refine va_lald hx hb hKl (ap_P_l hP) 0 0 rfl rfl (show vp_in 0 1 by unfold vp_in; decide) d20 ?_
    rw [sb_cl0, hv cz]
    have fin : ∀ x : Int64, W p l e room_1 s m #[Value.ref b] below meth c H locs cells slots Q (F0 m (q + 31) ls [.long x, .long x]) := fun x => by
      refine W.lcmp hx hb d31 ?_
      have e0 : lg_cmp x x = 0 := by unfold lg_cmp; rw [if_neg (fun h9 => Int64.lt_irrefl h9), if_pos rfl]
      rw [e0]
      refine lv_if_eq (tgt := q + 37) hx hb d32 (by omega) (fun _ => ?_) (fun c9 => absurd rfl c9)
      refine lv_goto (tgt := 1358) hx hb d37 ho ?_
      exact kk ls (lv_sub hl [2, 3, 4, 5, 6] rfl)
    refine lv_iload hx hb d21 (lv_at hl 0 rfl) ?_
    refine lv_if_eq (tgt := q + 30) hx hb d23 (by omega) (fun c9 => ?_) (fun c9 => ?_)
    · refine lv_lconst (v := 0) hx hb d30 (by decide) ?_
      rw [if_pos c9]
      exact fin 0
    · refine lv_lconst (v := 1) hx hb d26 (by decide) ?_
      refine lv_goto (tgt := q + 31) hx hb d27 (by omega) ?_
      rw [if_neg c9]
      exact fin 1
theorem tail_J (S0 : lwS p l s m c b L xs D cl kl ck ka) (hP : va_P D cl (lW bo kl fo oa ca ck F G ++ mW a ba ka E K) H) {bv : Int64} {off : Int} (hl : lv_has ls 8 ((5, .int kx) :: lvI bo a b i (oa 0))) (hk : E 0 = kx) (hv : kx = 0 → fo 0 = bv)
    (d0 : decode code q = .ok (.lstore 6, 2)) (d2 : decode code (q + 2) = .ok (.aload_n 2, 1)) (d3 : decode code (q + 3) = .ok (.invokevirtual 90, 3)) (d6 : decode code (q + 6) = .ok (.iload 5, 2)) (d8 : decode code (q + 8) = .ok (.if_icmp .eq 5, 3))
    (d13 : decode code (q + 13) = .ok (.iload 5, 2)) (d15 : decode code (q + 15) = .ok (.ifCond .ne 14, 3)) (d18 : decode code (q + 18) = .ok (.aload_n 3, 1)) (d19 : decode code (q + 19) = .ok (.iconst 0, 1)) (d20 : decode code (q + 20) = .ok (.laload, 1)) (d21 : decode code (q + 21) = .ok (.lload 6, 2)) (d23 : decode code (q + 23) = .ok (.lcmp, 1)) (d24 : decode code (q + 24) = .ok (.ifCond .eq 5, 3)) (d29 : decode code (q + 29) = .ok (.goto off, 3)) (ho : ((q + 29 : Nat) : Int) + off = ((1358 : Nat) : Int)) (hc1 : cells ≤ 1090) (hs1 : slots ≤ 60551)
    (kk : ∀ ls : Array Slot, lv_has ls 8 (lvI bo a b i (oa 0)) → W p l e room_1 s m #[Value.ref b] below meth c H locs cells slots Q (F0 m 1358 ls [])) : W p l e room_1 s m #[Value.ref b] below meth c H locs cells slots Q (F0 m q ls [.long bv]) := by
  obtain ⟨hx, hb, hml, hown, hts, hX, hbl, hlt, hZ, hck, hcm, hKl, hKm⟩ := id S0
  refine lv_lstore (lv' := (6, .long bv) :: (5, .int kx) :: lvI bo a b i (oa 0)) hx hb d0 hl (by decide) rfl (fun ls hl => ?_)
  refine tail_k S0 hP hl (lv_at hl 4 rfl) (lv_at hl 1 rfl) hk d2 d3 d6 d8 hc1 hs1 ?_ (Nat.zero_le _)
  refine lv_iload hx hb d13 (lv_at hl 1 rfl) ?_
  refine lv_if_ne (tgt := q + 29) hx hb d15 (by omega) (fun cz => ?_) (fun cz => ?_)
  · refine lv_goto (tgt := 1358) hx hb d29 ho ?_
    exact kk ls (lv_sub hl [2, 3, 4, 5, 6] rfl)
  · refine lv_aload_n hx hb d18 rfl (lv_at hl 3 rfl) ?_
    refine lv_iconst (v := 0) hx hb d19 (by decide) ?_
    refine va_lald hx hb hKl (ap_P_l hP) 0 0 rfl rfl (show vp_in 0 1 by unfold vp_in; decide) d20 ?_
    rw [sb_cl0, hv cz]
    refine lv_lload hx hb d21 (lv_at hl 0 rfl) ?_
    refine W.lcmp hx hb d23 ?_
    have e0 : lg_cmp bv bv = 0 := by unfold lg_cmp; rw [if_neg (fun h9 => Int64.lt_irrefl h9), if_pos rfl]
    rw [e0]
    refine lv_if_eq (tgt := q + 29) hx hb d24 (by omega) (fun _ => ?_) (fun c9 => absurd rfl c9)
    refine lv_goto (tgt := 1358) hx hb d29 ho ?_
    exact kk ls (lv_sub hl [2, 3, 4, 5, 6] rfl)
end LWC
