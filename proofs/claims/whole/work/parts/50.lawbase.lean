/-! the law's own methods: they have an exception table; one cell of theirs (out) lies beside the class's world -/
section LWB
variable {p : Program} {l : Launch} {e : Env} {R : Room} {s : State} {m : MethodId} {args : Array Value} {below : List Frame} {meth : Method} {c : Code} {H : Heap} {locs : List Loc} {cells slots : Nat} {Q : State → Prop} {pc : Nat} {ls : Array Slot}
theorem lw_runSW {y : MethodName} {bytes cc : ByteArray} {maxL nL mc ms n index : Nat} {ret : Option FieldType} {hh : List (Nat × Nat × Nat × Nat)} {ws ws' : List Cond} {rm : Room} {Pc : Array Value → State → Prop} {Qc : Array Value → State → Outcome → State → Prop} {free : Addr → Prop} {Ts : List Cond} {own : String} {As rest : List Value} {g : JFrame}
    (S : CallFix p m c cc nL s args Ts own) (hM : Met l y ws rm Pc Qc mc ms free) (hrc : rm.cells = mc) (hrs : rm.slots = ms) (hfr : rm.frames + 1 ≤ R.frames) (hlo : 8 + (maxL + 11) + rm.locals ≤ R.locals) (hT : GoodIn Ts (va_wsS own index y ws)) (hw : ws = Cond.codeWith y bytes maxL ret hh :: ws')
    (hd : y.cls ≠ "java/lang/invoke/MethodHandle" ∧ y.cls ≠ "java/lang/invoke/VarHandle" ∧ (parseMethodDescriptor y.desc).map (fun d => d.parameters.length) = some n) (hp : PreS s H Pc As)
    (hg : g.method = m) (hn : As.length = n) (hsize : g.locals.size = nL) (hstack : g.stack = As.reverse ++ rest) (hW : 2 * g.monitorRoom + (rest.map fun v => v.category).sum ≤ 8) (hdg : decode cc g.pc = .ok (.invokestatic index, 3)) (hf : cells + mc ≤ R.cells ∧ slots + ms ≤ R.slots) :
    va_Run p l e R s m args below meth c H locs cells slots mc ms g rest (Qc As.toArray) free := by
  obtain ⟨hx, hb, hml, ho, ht⟩ := S
  have ok : ∀ w ∈ va_wsS own index y ws, w.before args s = true := fun w h => ht w (hT w h).1
  have hcm : Cond.codeWith y bytes maxL ret hh ∈ ws := by rw [hw]; exact List.mem_cons_self
  have hGw : GoodIn Ts ws := fun w h => hT w (by unfold va_wsS; exact List.mem_append_right _ h)
  have hcode := ht _ (hGw _ hcm).1
  have hini : (Cond.initialized y.cls).before args s = true := ok _ (by simp [va_wsS])
  have hl : (Cond.methodLink own index y).before args s = true := ok _ (by simp [va_wsS])
  have hstt : (Cond.static y).before args s = true := ok _ (by simp [va_wsS])
  have hK : Back l R p e below s args y 3 8 (PreOf R mc ms Pc) (PostOf Qc mc ms free) := va_backW (bytes := bytes) (maxL := maxL) (ret := ret) (hh := hh) hM hp.1 hrc hrs hfr hlo (pay_in ht hGw) hcm (fun a' U hW => word_at hW (Or.inl (by first | rfl | simp [Cond.onTables, Cond.keeps, Cond.steady])) hini)
  intro T hT' X
  obtain ⟨mk, methM, cM, hnamed, hmethM, -, -, -, -, -, -, hsigM⟩ := Cond.codeWith_spec hcode
  have hstatic : methM.isStatic = true := Cond.static_spec hnamed hmethM hstt
  obtain ⟨kP, hkP, -⟩ := className_of_methodNamed hnamed
  have hinitP : kP.init = .initialized := Cond.initialized_spec (findClass_of_methodNamed hnamed) hkP hini
  have hlen : As.length = methM.sig.parameters.length := by
    have h2 := hd.2.2
    rw [hsigM] at h2
    rw [hn]
    exact (Option.some.inj h2).symm
  obtain ⟨vm₁, X₁, hstep₁⟩ := X.invokestatic hx ho hl hnamed hmethM hstatic hkP hinitP ⟨hd.1, hd.2.1⟩ (g := g) hg (argsL := As) (rest := rest) hlen hstack (by rw [hb]; exact hdg)
  obtain ⟨v, ⟨U', l2, c2, s2⟩, X', ⟨g', mk', t, L, e1, e2, hq, h1, hL, h2, h3⟩, hsteps⟩ := hK m meth c ⟨T.setVm vm₁, locs, cells, slots⟩ { g with stack := rest } (.invokestatic index) mk As.toArray X₁ hg (hsize.trans hml.symm) (by rw [hb]; exact hdg) hW (X₁.named hnamed) ⟨hf.1, hf.2, hp.2 (T.setVm vm₁) hT' X₁.warmed⟩
  dsimp only [Pt.U, Pt.locs, Pt.cells, Pt.slots] at X' e1 e2 h1 h2 h3 hsteps
  subst h1; subst h2; subst h3
  exact ⟨v, (T.setVm vm₁).calling g' mk' As.toArray, t, U', L, hT', X', hL, e1, e2, hq, fun target h => hstep₁ _ fun acts => by rw [doInvoke_state]; exact hsteps.trans h⟩
variable {D : va_G} {cl : List vw_C} {tys : List (ClassId × FieldType)} {cc : ByteArray} {nL : Nat} {Ts : List Cond} {own : String} {y : MethodName} {ws : List Cond} {rm : Room} {bytes : ByteArray} {maxL n index mc ms : Nat} {ret : Option FieldType} {C : String} {b : Addr} {As rest : List Value}
theorem wk_call {r : Option Value} {w' : va_W} {A0 A1 : Nat → Prop} {H0 : Heap} {a : Array Value} {st0 : List Value} (hr : va_Run p l e R s m args below meth c H locs cells slots mc ms (F0 m pc ls st0) rest (ww_Q D cl r w' A1 a) A1) (hS : va_S A0 H0 H locs) (hA : ∀ q, A1 q → A0 q)
    (kk : ∀ (H1 : Heap) (locs1 : List Loc), va_P D cl w' H1 → va_D A1 w' → H.size ≤ H1.size → (∀ q : Nat, q < H.size → ¬ A1 q → H1[q]? = H[q]?) → va_S A0 H0 H1 locs1 → W p l e R s m args below meth c H1 locs1 (cells + mc) (slots + ms) Q (F0 m (pc + 3) ls (r.toList ++ rest))) : W p l e R s m args below meth c H locs cells slots Q (F0 m pc ls st0) := by
  intro T hT X
  obtain ⟨v, st₀, t, T', L, h0, X', hL, e1, e2, ⟨⟨hv, hp, hd⟩, hz, hk⟩, st⟩ := hr T hT X
  cases hv
  rw [h0] at hz hk
  obtain ⟨t2, a1, b1⟩ := kk T'.heap (locs ++ L) (by rw [e1]; exact hp) hd (by rw [e1]; exact hz) (fun q h1 h2 => by rw [e1]; exact hk q h1 h2)
    ⟨Nat.le_trans hS.1 (by rw [e1]; exact hz), fun q h1 h2 => by rw [e1, hk q (Nat.lt_of_lt_of_le h1 hS.1) (fun z => h2 (hA q z))]; exact hS.2.1 q h1 h2, fun q hq => by
      rcases List.mem_append.mp hq with h | h
      · exact hS.2.2 q h
      · exact hA _ (hL q h)⟩ T' rfl X'
  exact ⟨t2, st t2 a1, b1⟩
/-- one cell beside a world that a callee rewrites -/
theorem wk_in {A0 : Nat → Prop} {o : Nat × va_E} {w : va_W} {H0 : Heap} (hD : va_D A0 (o :: w)) (hS : va_S A0 H0 H locs) (hA : ∀ q, H0.size ≤ q → A0 q) : ∀ q, va_A w H.size q → A0 q := by
  intro q h
  rcases h with ⟨k, e, h⟩ | h
  · exact hD.2 (k + 1) (q, e) h
  · exact hA q (Nat.le_trans hS.1 h)
theorem wk_join {A0 : Nat → Prop} {o : Nat × va_E} {w w' : va_W} {H1 : Heap} (hP : va_P D cl (o :: w) H) (hD : va_D A0 (o :: w)) (hA1 : ∀ q, va_A w H.size q → A0 q) (hk : ∀ q : Nat, q < H.size → ¬ va_A w H.size q → H1[q]? = H[q]?) (hP1 : va_P D cl w' H1) (hD1 : va_D (va_A w H.size) w') : va_P D cl (o :: w') H1 ∧ va_D A0 (o :: w') := by
  have hlt := (hP 0 o rfl).lt
  have ho : ¬ va_A w H.size o.1 := fun h => by
    rcases h with ⟨k, e, h⟩ | h
    · have := hD.1 0 (k + 1) o (o.1, e) rfl h rfl
      omega
    · omega
  refine ⟨fun k q hq => ?_, fun i j x z hi hj exz => ?_, fun k q hq => ?_⟩
  · cases k with
    | zero => cases hq; exact (hP 0 o rfl).kept (hk o.1 hlt ho)
    | succ k => exact hP1 k q hq
  · cases i with
    | zero =>
      cases j with
      | zero => rfl
      | succ j => cases hi; exact absurd (by rw [exz]; exact hD1.2 j z hj) ho
    | succ i =>
      cases j with
      | zero => cases hj; exact absurd (by rw [← exz]; exact hD1.2 i x hi) ho
      | succ j => rw [hD1.1 i j x z hi hj exz]
  · cases k with
    | zero => cases hq; exact hD.2 0 o rfl
    | succ k => exact hA1 _ (hD1.2 k q hq)
theorem wk_callV {r : Option Value} {o : Nat × va_E} {w w' : va_W} {A0 : Nat → Prop} {H0 : Heap} (S : CallFix p m c cc nL s args Ts own) (hM : ww_Met l y ws rm D cl tys H (.ref b :: As) w r w') (cw : CallW R s args own C index y bytes maxL ret ws rm 0 0 n) (hK : va_K D cl tys s) (hrecv : ∃ cell : Cell, H[b]? = some cell ∧ cell.vm.isStatics = false ∧ s.vm.findClass C = some cell.cls)
    (hn : As.length = n) (hl : ls.size = nL) {st : List Value} (hst : st = As.reverse ++ .ref b :: rest) (hW : (rest.map fun v => v.category).sum ≤ 8) (hdg : decode cc pc = .ok (.invokevirtual index, 3)) (hcs : cells ≤ R.cells ∧ slots ≤ R.slots) (hP : va_P D cl (o :: w) H) (hD : va_D A0 (o :: w)) (hS : va_S A0 H0 H locs) (hA : ∀ q, H0.size ≤ q → A0 q)
    (kk : ∀ (H1 : Heap) (locs1 : List Loc), va_P D cl (o :: w') H1 → va_D A0 (o :: w') → va_S A0 H0 H1 locs1 → W p l e R s m args below meth c H1 locs1 cells slots Q (F0 m (pc + 3) ls (r.toList ++ rest))) : W p l e R s m args below meth c H locs cells slots Q (F0 m pc ls st) := by
  subst hst
  exact ww_call (va_runV (g := F0 m pc ls (As.reverse ++ .ref b :: rest)) S hM cw ⟨ro_blind, hrecv, fun U hU hW => ⟨rfl, hU, va_K.moved hW.alike hK⟩⟩ rfl hn hl rfl (lv_room hW) hdg hcs) hS (wk_in hD hS hA) (fun H1 locs1 h1 h2 _ h4 h5 => kk H1 locs1 (wk_join hP hD (wk_in hD hS hA) h4 h1 h2).1 (wk_join hP hD (wk_in hD hS hA) h4 h1 h2).2 h5)
theorem wk_throwV {Z : State} {E : String} {o : Nat × va_E} {w w' : va_W} {A0 : Nat → Prop} {H0 : Heap} (S : CallFix p m c cc nL s args Ts own) (hM : tx_Met l y ws rm (tx_P Z D cl tys H (.ref b :: As)) E mc ms (va_A w H.size) (fun H1 => va_P D cl w' H1 ∧ va_D (va_A w H.size) w')) (cw : CallW R s args own C index y bytes maxL ret ws rm mc ms n) (hK : va_K D cl tys s) (hZw : Z.WarmedH s.vm)
    (hrecv : ∃ cell : Cell, H[b]? = some cell ∧ cell.vm.isStatics = false ∧ s.vm.findClass C = some cell.cls) (hn : As.length = n) (hl : ls.size = nL) {st : List Value} (hst : st = As.reverse ++ .ref b :: rest) (hW : (rest.map fun v => v.category).sum ≤ 8) (hdg : decode cc pc = .ok (.invokevirtual index, 3)) (hcs : cells + mc ≤ R.cells ∧ slots + ms ≤ R.slots) (hP : va_P D cl (o :: w) H) (hD : va_D A0 (o :: w)) (hS : va_S A0 H0 H locs) (hA : ∀ q, H0.size ≤ q → A0 q)
    (kx : ∀ (q : Addr) (ce : Cell) (H1 : Heap) (locs1 : List Loc), H1[q]? = some ce → ce.vm = .none → s.vm.findClass E = some ce.cls → va_P D cl (o :: w') H1 → va_D A0 (o :: w') → va_S A0 H0 H1 locs1 → tx_W p l e R s m args below meth c H1 locs1 (cells + mc) (slots + ms) Q (F0 m pc ls rest) q) : W p l e R s m args below meth c H locs cells slots Q (F0 m pc ls st) := by
  refine tx_callV S hM tx_blind (fun U hU hW9 => ⟨rfl, hU, va_K.moved hW9.alike hK, State.WarmedH.trans hZw hW9⟩) cw hrecv hn hl hst hW hdg hcs (fun q ce H1 L h1 h2 h3 h4 h5 h6 h7 => ?_)
  have hj := wk_join hP hD (wk_in hD hS hA) h5 h7.1 h7.2
  exact kx q ce H1 (locs ++ L) h1 h2 h3 hj.1 hj.2 ⟨Nat.le_trans hS.1 h4, fun x g1 g2 => by rw [h5 x (Nat.lt_of_lt_of_le g1 hS.1) (fun z => g2 (wk_in hD hS hA x z))]; exact hS.2.1 x g1 g2, fun x hx => by
      rcases List.mem_append.mp hx with h | h
      · exact hS.2.2 x h
      · exact wk_in hD hS hA _ (h6 x h)⟩
end LWB
theorem tb1 {α β : Type} {f : α → β} {l : List α} {a : β} (h : l.map f = [a]) : ∃ x, l = [x] ∧ f x = a := by
  cases l with
  | nil => cases h
  | cons x l =>
    cases l with
    | nil => simp only [List.map, List.cons.injEq, and_true] at h; exact ⟨x, rfl, h⟩
    | cons y l => simp at h
theorem tb2 {α β : Type} {f : α → β} {l : List α} {a b : β} (h : l.map f = [a, b]) : ∃ x y, l = [x, y] ∧ f x = a ∧ f y = b := by
  cases l with
  | nil => cases h
  | cons x l =>
    rw [List.map, List.cons.injEq] at h
    obtain ⟨y, e, hy⟩ := tb1 h.2
    exact ⟨x, y, by rw [e], h.1, hy⟩
theorem tb3 {α β : Type} {f : α → β} {l : List α} {a b c : β} (h : l.map f = [a, b, c]) : ∃ x y z, l = [x, y, z] ∧ f x = a ∧ f y = b ∧ f z = c := by
  cases l with
  | nil => cases h
  | cons x l =>
    rw [List.map, List.cons.injEq] at h
    obtain ⟨y, z, e, hy, hz⟩ := tb2 h.2
    exact ⟨x, y, z, by rw [e], h.1, hy, hz⟩
/-- a row of the table, in its four numbers -/
abbrev tb4 (x : ExceptionTableEntry) : Nat × Nat × Nat × Nat := (x.startPc, x.endPc, x.handlerPc, x.catchType)
theorem tb_cov {x : ExceptionTableEntry} {a b h t pc : Nat} (e : tb4 x = (a, b, h, t)) (h1 : a ≤ pc) (h2 : pc < b) : covers x pc = true := by
  simp only [tb4, Prod.mk.injEq] at e
  simp [covers, e.1, e.2.1, h1, h2]
def exl : List String := ["java/lang/IndexOutOfBoundsException", "java/lang/IllegalArgumentException", "java/lang/UnsupportedOperationException", "java/lang/IllegalStateException"]
/-- what the start gives for throws and catches -/
def xZ (Z : State) : Prop := (∀ w ∈ xws ++ sALL, w.before #[] Z = true) ∧ ∀ a ∈ exl, ∀ b ∈ exl, a ≠ b → va_Nc a b Z
theorem fit_no {Z s : State} {E nm : String} {ce : Cell} (hZ : xZ Z) (hW : Z.WarmedH s.vm) (h1 : E ∈ exl) (h2 : nm ∈ exl) (hne : E ≠ nm) (hcE : s.vm.findClass E = some ce.cls) : ∀ cT, s.vm.findClass nm = some cT → s.vm.assignable ce.cls cT = false := by
  intro cT hcT
  obtain ⟨c, t, q1, q2, q3⟩ := va_Nc.moved (U := s) hW.alike (hZ.2 E h1 nm h2 hne)
  cases hcE.symm.trans q1
  cases hcT.symm.trans q2
  exact q3
theorem fit_yes {s : State} {E : String} {ce : Cell} (hcE : s.vm.findClass E = some ce.cls) : ∀ cT, s.vm.findClass E = some cT → s.vm.assignable ce.cls cT = true := by
  intro cT hcT
  cases hcE.symm.trans hcT
  exact va_asg _ _
theorem wk_met {l : Launch} {y : MethodName} {ws ws' : List Cond} {rm : Room} {D : va_G} {cl : List vw_C} {tys : List (ClassId × FieldType)} {H : Heap} {av : List Value} {cc : ByteArray} {maxL : Nat} {hh : List (Nat × Nat × Nat × Nat)} {w w' : va_W} {Z : State} {r : Int32}
    (hy : plainName y.cls = true) (hw : ws = Cond.codeWith y cc maxL (some .int) hh :: ws') (hn : (lg_sl av).length ≤ maxL) (hP : va_P D cl w H) (hD : va_D (fun _ => True) w)
    (walk : ∀ {p : Program} {e : Env} {s : State} {m : MethodId} {args : Array Value} {below : List Frame} {meth : Method} {c : Code} {Q : State → Prop} {A : Nat → Prop}, l.admits e → A = va_A w H.size → CallFix p m c cc maxL s args ws y.cls → va_K D cl tys s → Z.WarmedH s.vm → c.exceptionTable.toList.map tb4 = hh → va_P D cl w H → va_D A w → va_S A H H [] → (∀ q, H.size ≤ q → A q) → ∀ ls : Array Slot, lv_has ls maxL (lv_args 0 av) →
      (∀ (pc : Nat) (ls : Array Slot) (v : Int32) (w1 : va_W) (H1 : Heap) (locs : List Loc), v = r → w1 = w' → va_P D cl w1 H1 → va_D A w1 → va_S A H H1 locs → decode cc pc = .ok (.ireturn, 1) → W p l e rm s m args below meth c H1 locs 1 6 Q (F0 m pc ls [.int v])) → W p l e rm s m args below meth c H [] 0 0 Q (F0 m 0 ls [])) :
    Met l y ws rm (tx_P Z D cl tys H av) (ww_Q D cl (some (.int r)) w' (va_A w H.size)) 1 6 (va_A w H.size) := by
  refine va_MetW (cc := cc) (maxL := maxL) (ret := some .int) (hh := hh) hy hw ?_
  intro p e s m args below meth c s₁ B hml hv
  obtain ⟨rfl, hH, hK, hZw⟩ := hv
  subst hH
  have hx := B.exec
  have hb := B.bytes
  have hr := B.returns
  have hts := atoms_spec (ws := ws) B.pre
  have hown : s.vm.findClass y.cls = some m.cls := findClass_of_methodNamed B.named
  have hlocks := B.notSynchronized
  have hcw := hts _ (by rw [hw]; exact List.mem_cons_self)
  obtain ⟨m9, meth9, c9, hn9, hm9, hc9, -, -, htab, -⟩ := Cond.codeWith_spec hcw
  have X₀ := Stand.of_body B
  cases B.named.symm.trans hn9
  cases X₀.method.symm.trans hm9
  cases X₀.code.symm.trans hc9
  have hl := lv_entry av (n := maxL) hn
  rw [lg_entry_eq]
  exact walk (A := va_A w s.heap.size) B.admits rfl ⟨hx, hb, hml, hown, hts⟩ hK hZw htab hP hD.self va_S.rf (fun q h => Or.inr h) _ hl (fun pc ls v w1 H1 locs hv e1 p1 d1 s1 hdg => by subst hv; subst e1; exact W.iret hx hb hr (fun t ht hW => ⟨⟨rfl, by rw [ht]; exact p1, d1⟩, s1.F ht⟩) s1.2.2 hdg)
def lW (bo : Nat) (kl : ClassId) (fo : Nat → Int64) (oa ca : Nat → Nat) (ck : Nat → ClassId) (F : Nat → Int32) (G : Nat → Nat → Int32) : va_W := (bo, .inl (kl, 1, .inr (.inl fo))) :: cW oa ca ck F G
def lT (kl : ClassId) (ck : Nat → ClassId) : List (ClassId × FieldType) := (kl, .long) :: cT ck
