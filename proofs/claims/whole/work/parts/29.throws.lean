/-! a callee that throws an object of class E: cells of A alone are written, B holds of the heap that it leaves; what its caller stands at -/
def tx_Q (E : String) (mc ms : Nat) (A : Nat → Prop) (B : Heap → Prop) : Array Value → State → Outcome → State → Prop := fun _ st o t =>
  ∃ (q : Addr) (ce : Cell) (L : List Loc), o = .threw q ∧ t.heap[q]? = some ce ∧ ce.vm = .none ∧ st.vm.findClass E = some ce.cls ∧ st.WarmedH t.vm ∧ (∀ x ∈ L, A x.base) ∧ st.sameButNew ({ t with vm := st.vm } : State) L mc ms ∧ B t.heap
def tx_Met (l : Launch) (y : MethodName) (ws : List Cond) (rm : Room) (Pc : Array Value → State → Prop) (E : String) (mc ms : Nat) (A : Nat → Prop) (B : Heap → Prop) : Prop :=
  MetFree l y (headSpec ws rm) Pc (fun _ _ _ _ _ => True) (tx_Q E mc ms A B)
theorem tx_back {l : Launch} {R : Room} {p : Program} {e : Env} {below : List Frame} {s : State} {sargs : Array Value} {y : MethodName} {ws : List Cond} {rm : Room} {Pc : Array Value → State → Prop} {E : String} {mc ms : Nat} {A : Nat → Prop} {B : Heap → Prop} {bytes : ByteArray} {maxL : Nat} {ret : Option FieldType}
    (hM : tx_Met l y ws rm Pc E mc ms A B) (hblind : FrameBlind Pc) (hrc : rm.cells = mc) (hrs : rm.slots = ms) (hframes : rm.frames + 1 ≤ R.frames) (hlocals : 8 + (maxL + 11) + rm.locals ≤ R.locals)
    (hws : ∀ w ∈ ws, ∀ (a' : Array Value) (U : State), s.WarmedH U.vm → w.before a' U = true) (hcode : Cond.code y bytes maxL ret ∈ ws) (hinit : ∀ (a' : Array Value) (U : State), s.WarmedH U.vm → (Cond.initialized y.cls).before a' U = true)
    {m : MethodId} {meth : Method} {c : Code} {U : State} {locs : List Loc} {cells slots : Nat} {g : JFrame} {ig : Instr} {len : Nat} {mk : MethodId} {a : Array Value}
    (X : Stand p l e R s m sargs below meth c U locs cells slots) (hg : g.method = m) (hsize : g.locals.size = c.maxLocals) (hdg : decode c.code g.pc = .ok (ig, len)) (hW : 2 * g.monitorRoom + (g.stack.map fun v => v.category).sum ≤ 8) (hn : U.methodNamed? y = some mk) (hP : Pc a U) (hcs : cells + mc ≤ R.cells ∧ slots + ms ≤ R.slots) :
    ∃ (q : Addr) (ce : Cell) (T' : State) (L : List Loc), Stand p l e R s m sargs below meth c T' (locs ++ L) (cells + mc) (slots + ms) ∧ T'.heap[q]? = some ce ∧ ce.vm = .none ∧ U.vm.findClass E = some ce.cls ∧ U.WarmedH T'.vm ∧ (∀ x ∈ L, A x.base) ∧ U.sameButNew ({ U with heap := T'.heap, slotsUsed := T'.slotsUsed } : State) L mc ms ∧ B T'.heap ∧
      Steps p.tables e below (doInvoke e (U.setTop g) [] mk a).1 ((T'.setTop g).pushFrame (.throwing q)) := by
  obtain ⟨methY, cY, hmY, hcY, -, hlY, -, -, -, -⟩ := Cond.code_spec hn (hws _ hcode a U X.warmed)
  obtain ⟨kY, hkY, -⟩ := className_of_methodNamed hn
  have hinitY : kY.init = .initialized := Cond.initialized_spec (findClass_of_methodNamed hn) hkY (hinit a U X.warmed)
  have h : At U g.method c below := by rw [hg]; exact X.here
  have hpre : (headSpec ws rm).pre.before a U = true := atoms_intro fun w hw => hws w hw _ _ X.warmed
  have happ : (headSpec ws rm).appliesLoose y e.platform (U.calling g mk a) = true :=
    Spec.appliesLoose_calling (g := g) h hdg hn hkY hinitY
      (X.room_calling (g := g) (R' := (headSpec ws rm).room) hsize hmY hcY hframes (by rw [hlY]; show _ + (maxL + 11) + rm.locals ≤ R.locals; omega) (by rw [show (headSpec ws rm).room.cells = mc from hrc]; exact hcs.1) (by rw [show (headSpec ws rm).room.slots = ms from hrs]; exact hcs.2)) hpre
  obtain ⟨mid, hmid⟩ := h.above
  have hfr : (U.setTop g).frames = (.java g :: mid) ++ below := by rw [State.frames_setTop' g h.top, hmid]; rfl
  obtain ⟨o, s₂, hsteps, -, hend, hq⟩ := Steps.callFree hM p X.admits X.cas X.clock (acts := []) hfr happ (hblind _ _ _ _ hP) trivial
  have hq' : tx_Q E mc ms A B a (U.calling g mk a) o s₂ := hq
  obtain ⟨q, ce, L, rfl, hce, hcv, hcl, hW₂, hL, hsm, hB⟩ := hq'
  obtain ⟨e2, q2, q3, q4, q5, q6⟩ := id hsm
  have hend' : s₂.frames = .throwing q :: (U.setTop g).frames := hend
  rw [State.frames_setTop' g h.top] at hend'
  have e3 : s₂ = ({ (U.calling g mk a).setFrames s₂.frames with heap := s₂.heap, slotsUsed := s₂.slotsUsed } : State).setVm s₂.vm := by
    have e4 : s₂ = ({ s₂ with vm := (U.calling g mk a).vm } : State).setVm s₂.vm := rfl
    rw [e2] at e4
    exact e4
  have hW' : U.WarmedH s₂.vm := hW₂
  obtain ⟨g₀, hg0⟩ := Option.isSome_iff_exists.mp h.top
  obtain ⟨r, hr⟩ := State.topJava?_eq_some.mp hg0
  have hr' : (({ U with heap := s₂.heap, slotsUsed := s₂.slotsUsed } : State).setVm s₂.vm).frames = .java g₀ :: r := hr
  have hs₂ : s₂ = ((({ U with heap := s₂.heap, slotsUsed := s₂.slotsUsed } : State).setVm s₂.vm).setTop g).pushFrame (.throwing q) := by
    refine e3.trans ?_
    rw [State.setTop_of_frames _ hr']
    show _ = ((({ U with heap := s₂.heap, slotsUsed := s₂.slotsUsed } : State).setVm s₂.vm).setFrames (.java g :: r)).setFrames (.throwing q :: ((({ U with heap := s₂.heap, slotsUsed := s₂.slotsUsed } : State).setVm s₂.vm).setFrames (.java g :: r)).frames)
    rw [State.setFrames_setFrames, State.frames_setFrames _ (State.cur_lt_of_frames hr'), hend', State.calling_eq h.top, State.setFrames_setFrames, hr]
    rfl
  have hsame : U.sameButNew ({ U with heap := s₂.heap, slotsUsed := s₂.slotsUsed } : State) L mc ms := by
    refine ⟨?_, q2, q3, q4, q5, q6⟩
    obtain ⟨t, ht, -⟩ := State.frames_cons hr
    show ({ U with heap := s₂.heap, slotsUsed := s₂.slotsUsed } : State) = { U.setFrames U.frames with heap := s₂.heap, slotsUsed := s₂.slotsUsed }
    rw [State.setFrames_self ht]
  subst hg
  have hst := X.same.trans (hsame.setVm s.vm)
  refine ⟨q, ce, (({ U with heap := s₂.heap, slotsUsed := s₂.slotsUsed } : State).setVm s₂.vm), L,
    ⟨X.admits, X.cas, X.clock, X.frames, X.room, X.hears, X.method, X.code, (X.here.setHeapUsed s₂.heap s₂.slotsUsed).setVm hW'.alike, X.tail, State.WarmedH.trans X.warmed hW', X.limits, X.bytes, hst⟩, hce, hcv, hcl, hW', hL, hsame, hB, ?_⟩
  rw [← hs₂]
  exact hsteps
theorem tx_old {U V : State} {L : List Loc} {A : Nat → Prop} {mc ms : Nat} (hL : ∀ x ∈ L, A x.base) (h : U.sameButNew V L mc ms) : U.heap.size ≤ V.heap.size ∧ ∀ i : Nat, i < U.heap.size → ¬ A i → V.heap[i]? = U.heap[i]? := by
  obtain ⟨-, h2, -, -, -, h6⟩ := h
  refine ⟨h2, fun i hi hA => ?_⟩
  obtain ⟨c9, e1, e2, e3, e4⟩ := h6 i _ (Array.getElem?_eq_getElem hi)
  have hs : c9.slots = (U.heap[i]).slots := Array.ext_getElem? fun k => e4 k (fun hm => hA (hL _ hm))
  rw [hs] at e2
  rw [e1, e2, Array.getElem?_eq_getElem hi]
/-- the frame g, with q thrown over it -/
def tx_W (p : Program) (l : Launch) (e : Env) (R : Room) (s : State) (m : MethodId) (args : Array Value) (below : List Frame) (meth : Method) (c : Code) (H : Heap) (locs : List Loc) (cells slots : Nat) (Q : State → Prop) (g : JFrame) (q : Addr) : Prop :=
  ∀ T : State, T.heap = H → Stand p l e R s m args below meth c T locs cells slots → ∃ t, Steps p.tables e below ((T.setTop g).pushFrame (.throwing q)) t ∧ Q t
theorem tx_callV {p : Program} {l : Launch} {e : Env} {R : Room} {s : State} {m : MethodId} {args : Array Value} {below : List Frame} {meth : Method} {c : Code} {H : Heap} {locs : List Loc} {cells slots : Nat} {Q : State → Prop} {pc : Nat} {ls : Array Slot} {cc : ByteArray} {nL : Nat} {Ts : List Cond} {own : String} {y : MethodName} {ws : List Cond} {rm : Room} {bytes : ByteArray} {maxL n index mc ms : Nat} {ret : Option FieldType} {C E : String} {A : Nat → Prop} {B : Heap → Prop} {Pc : Array Value → State → Prop} {b : Addr} {As rest : List Value}
    (S : CallFix p m c cc nL s args Ts own) (hM : tx_Met l y ws rm Pc E mc ms A B) (hbl : FrameBlind Pc) (hPc : ∀ U : State, U.heap = H → s.WarmedH U.vm → Pc (Value.ref b :: As).toArray U) (cw : CallW R s args own C index y bytes maxL ret ws rm mc ms n) (hrecv : ∃ cell : Cell, H[b]? = some cell ∧ cell.vm.isStatics = false ∧ s.vm.findClass C = some cell.cls)
    (hn : As.length = n) (hl : ls.size = nL) {st : List Value} (hst : st = As.reverse ++ .ref b :: rest) (hW : (rest.map fun v => v.category).sum ≤ 8) (hdg : decode cc pc = .ok (.invokevirtual index, 3)) (hcs : cells + mc ≤ R.cells ∧ slots + ms ≤ R.slots)
    (kx : ∀ (q : Addr) (ce : Cell) (H1 : Heap) (L : List Loc), H1[q]? = some ce → ce.vm = .none → s.vm.findClass E = some ce.cls → H.size ≤ H1.size → (∀ i : Nat, i < H.size → ¬ A i → H1[i]? = H[i]?) → (∀ x ∈ L, A x.base) → B H1 → tx_W p l e R s m args below meth c H1 (locs ++ L) (cells + mc) (slots + ms) Q (F0 m pc ls rest) q) : W p l e R s m args below meth c H locs cells slots Q (F0 m pc ls st) := by
  subst hst
  intro T hT X
  obtain ⟨⟨hrc, hrs, hfr, hlo, hws, hcw, hcode, hini, hy, hlen, hlk⟩, hin, hse⟩ := cw
  obtain ⟨hx, hb, hml, ho, -⟩ := S
  obtain ⟨cellB, hcB, hoB, hclB⟩ := hrecv
  obtain ⟨mk, methM, hnamed, hmethM, hstM, habM⟩ := Cond.instanceMethod_spec hin
  obtain ⟨methM', cM, hmethM', -, -, -, -, -, -, hsigM⟩ := Cond.code_spec hnamed hcode
  cases hmethM.symm.trans hmethM'
  obtain ⟨c2, r2, m2, q1, q2, q3, q4, kP, hkP, hkPi⟩ := Cond.selects_spec hse
  cases hclB.symm.trans q1
  cases (State.methodFound?_of_named hnamed hy).symm.trans q2
  cases hnamed.symm.trans q3
  have hselP : selectMethod e.platform s.vm cellB.cls mk = .method mk := by rw [Launch.admits_selectMethod X.admits]; exact q4
  obtain ⟨vm₁, X₁, hstep₁⟩ := X.invokevirtual hx ho hlk hnamed hmethM hstM hkP hkPi hy (a := b) (cell := cellB) (by rw [hT]; exact hcB)
    (fun z h => by rw [h] at hoB; cases hoB) hselP hmethM habM hkP hkPi (g := F0 m pc ls (As.reverse ++ .ref b :: rest)) rfl (argsL := As) (rest := rest) (hn.trans (hlen _ hsigM)) rfl (by rw [hb]; exact hdg)
  obtain ⟨q, ce, T', L, X', h1, h2, h3, h4, hL, h5, hB, st⟩ := tx_back (a := (Value.ref b :: As).toArray) hM hbl hrc hrs hfr hlo hws hcw (fun a' U hW => word_at hW (Or.inl (by first | rfl | simp [Cond.onTables, Cond.keeps, Cond.steady])) hini) X₁ (g := F0 m pc ls rest) (ig := .invokevirtual index) (len := 3) rfl (hl.trans hml.symm) (by rw [hb]; exact hdg) (lv_room hW) (X₁.named hnamed) (hPc _ hT X₁.warmed) hcs
  obtain ⟨o1, o2⟩ := tx_old hL h5
  have hcE : s.vm.findClass E = some ce.cls := by
    have h9 : (T.setVm vm₁).vm.findClass E = some ce.cls := h3
    rw [X₁.warmed.alike.findClass] at h9
    exact h9
  have o1' : H.size ≤ T'.heap.size := by rw [← hT]; exact o1
  obtain ⟨t, a1, b1⟩ := kx q ce T'.heap L h1 h2 hcE o1' (fun i hi hA => by rw [← hT] at hi ⊢; exact o2 i hi hA) hL hB T' rfl X'
  exact ⟨t, hstep₁ _ fun acts => by rw [doInvoke_state]; exact st.trans a1, b1⟩
/-! what a throwing method's walk ends in; its contract out of the walk -/
def tx_E (below : List Frame) (Qc : Array Value → State → Outcome → State → Prop) (a : Array Value) (s : State) : State → Prop := fun t => ∃ o, t.status = .running ∧ Ended t below o ∧ Qc a s o t
theorem tx_ofW {l : Launch} {y : MethodName} {ws ws' : List Cond} {rm : Room} {Pc : Array Value → State → Prop} {Qc : Array Value → State → Outcome → State → Prop} {cc : ByteArray} {maxL : Nat} {ret : Option FieldType}
    (hy : plainName y.cls = true) (hw : ws = Cond.code y cc maxL ret :: ws')
    (body : ∀ p e s m args below meth c s₁, BodyLoose p l y (headSpec ws rm) cc maxL ret e s m args below meth c s₁ → c.maxLocals = maxL → Pc args s →
      W p l e (headSpec ws rm).room s m args below meth c s.heap [] 0 0 (tx_E below Qc args s) (entryFrame m args maxL)) : MetFree l y (headSpec ws rm) Pc (fun _ _ _ _ _ => True) Qc := by
  refine MetFree.of_bodyS (code := cc) (maxLocals := maxL) (ret := ret) hy ?_ ?_
  · intro args s m h hn
    obtain ⟨meth, c, h1, h2, h3, h4, h5, h6, -, -⟩ := Cond.code_spec hn (atoms_spec (ws := ws) h _ (by rw [hw]; exact List.mem_cons_self))
    exact ⟨meth, c, h1, h2, h3, h4, h5, h6⟩
  · intro p e s m args below meth c s₁ B hml hP _
    have hh0 : s₁.heap = s.heap := by rw [B.state]; rfl
    obtain ⟨t, a1, o, b1, b2, b3⟩ := body p e s m args below meth c s₁ B hml hP s₁ hh0 (Stand.of_body B)
    exact ⟨t, o, a1, b1, b2, b3⟩
/-! words on statics, and string constants, carried from a state Z whose cells are still there -/
def xB (Z : State) (V : Vm) (H : Heap) : Prop := Z.WarmedH V ∧ ∀ q : Nat, q < Z.heap.size → H[q]? = Z.heap[q]?
theorem xs_lays {Z U : State} {A0 A1 : Array Value} {o n d : String} (hB : xB Z U.vm U.heap) (h : (Cond.laysStatic o n d).before A0 Z = true) : (Cond.laysStatic o n d).before A1 U = true := by
  obtain ⟨c, k, i, f, a, cell, hc, hi, hst, ha, hcell, hs, hcls, hlt, hty⟩ := Cond.laysStatic_spec h
  obtain ⟨k', hi', hek⟩ := State.fieldFound?_setVm hB.1.alike hi
  have hcell' : U.heap[a]? = some cell := by rw [hB.2 a (Array.getElem?_eq_some_iff.mp hcell).1]; exact hcell
  have hi2 : U.fieldFound? o n d = some (c, k', i, f) := hi'
  exact Cond.laysStatic_of (by rw [hB.1.alike.findClass]; exact hc) hi2 hst (by rw [hek]; exact ha) hcell' hs hcls hlt (by rw [hek]; exact hty)
theorem xs_eval {Z U : State} {A0 A1 : Array Value} {o n d : String} {v : Value} (hB : xB Z U.vm U.heap) (hv : (Term.static o n d).eval A0 Z none [] Z = some v) : (Term.static o n d).eval A1 U none [] U = some v := by
  cases hi : Z.fieldFound? o n d with
  | none => simp [Term.eval, State.fieldNamed?, hi] at hv
  | some w =>
    obtain ⟨c, k, i, f⟩ := w
    obtain ⟨hst, a, cell, ha, hcell, -, hslot⟩ := Term.static_spec hi hv
    have hs : cell.vm.isStatics = true := by
      simp only [Term.eval, State.fieldNamed?, hi, Option.bind_eq_bind, Option.bind_some, hst, beq_self_eq_true, if_true, Option.pure_def, ha, hcell] at hv
      by_cases h' : cell.vm.isStatics = true
      · exact h'
      · simp [h'] at hv
    obtain ⟨k', hi', hek⟩ := State.fieldFound?_setVm hB.1.alike hi
    have hi2 : U.fieldFound? o n d = some (c, k', i, f) := hi'
    exact Term.static_eval hi2 hst (by rw [hek]; exact ha) (by rw [hB.2 a (Array.getElem?_eq_some_iff.mp hcell).1]; exact hcell) hs hslot
theorem xs_ref {Z U : State} {A0 A1 : Array Value} {o n d : String} (hB : xB Z U.vm U.heap) (h : (Cond.isRef (.static o n d)).before A0 Z = true) : (Cond.isRef (.static o n d)).before A1 U = true := by
  simp only [Cond.before, Cond.holds, Cond.value] at h ⊢
  cases hv : (Term.static o n d).eval A0 Z none [] Z with
  | none => simp [hv] at h
  | some v =>
    rw [xs_eval (A1 := A1) hB hv]
    rw [hv] at h
    exact h
/-- the words of a throw that speak of the heap -/
def xws : List Cond := [.laysStatic Bundle.tN "UNASSIGNED_STACK" Bundle.steD, .laysStatic Bundle.tN "SUPPRESSED_SENTINEL" Bundle.listD, .isRef (.static Bundle.tN "UNASSIGNED_STACK" Bundle.steD), .isRef (.static Bundle.tN "SUPPRESSED_SENTINEL" Bundle.listD), .declares (Bundle.initS "java/lang/RuntimeException"), .declares (Bundle.initS "java/lang/Exception"), .declares (Bundle.initS Bundle.tN)]
theorem xs_word {Z U : State} {A0 A1 : Array Value} (hB : xB Z U.vm U.heap) (h : ∀ w ∈ xws, w.before A0 Z = true) : ∀ w ∈ xws, w.before A1 U = true := by
  intro w hw
  have h1 := h w hw
  simp only [xws, List.mem_cons, List.not_mem_nil, or_false] at hw
  rcases hw with rfl | rfl | rfl | rfl | rfl | rfl | rfl
  · exact xs_lays hB h1
  · exact xs_lays hB h1
  · exact xs_ref hB h1
  · exact xs_ref hB h1
  · exact va_Nw.use rfl (va_Nw.warmD hB.1 (va_Nw.of rfl h1))
  · exact va_Nw.use rfl (va_Nw.warmD hB.1 (va_Nw.of rfl h1))
  · exact va_Nw.use rfl (va_Nw.warmD hB.1 (va_Nw.of rfl h1))
theorem xs_cast {U : State} {A : Array Value} {E : String} {n : Nat} (h : (Cond.instantiable E n).before A U = true) : (Cond.castable E E).before A U = true := by
  obtain ⟨cC, kC, hfc, -⟩ := Cond.instantiable_spec h
  simp [Cond.before, Cond.holds, Cond.value, hfc, va_asg]
/-- a String constant that is resolved has an address -/
theorem xs_str {own tx : String} {k : Nat} {A : Array Value} {Z : State} (h : (Cond.stringRef own k tx).before A Z = true) : ∃ q, vk_R own k tx q Z := by
  have h0 : (Cond.stringRef own k tx).before #[] Z = true := h
  have h1 := h
  simp only [Cond.before, Cond.holds, Cond.value] at h1
  cases hc : Z.vm.findClass own with
  | none => simp [hc] at h1
  | some cur =>
    obtain ⟨k9, cf, i, a, -, -, -, -, -, hev⟩ := Cond.stringRef_spec hc h0
    exact ⟨a, h0, hev⟩
/-! the walk's base moved to where it stands -/
theorem hears_like {s T : State} (h : s.vm.Alike T.vm) (m : MethodId) (below : List Frame) : T.hears m below = s.hears m below := by
  cases below with
  | nil => simp only [State.hears, h.method?]
  | cons f r => cases f <;> simp only [State.hears, State.code?_eq, h.method?]
theorem sb_base {T V : State} {fs : List Frame} {L : List Loc} {k n : Nat} (h : (T.setFrames fs).sameButNew V L k n) : T.sameButNew V L k n := by
  obtain ⟨e, h2⟩ := h
  rw [State.setFrames_setFrames] at e
  exact ⟨e, h2⟩
section TXR
variable {p : Program} {l : Launch} {e : Env} {R : Room} {s : State} {m : MethodId} {args : Array Value} {below : List Frame} {meth : Method} {c : Code} {T : State} {locs : List Loc} {cells slots : Nat}
theorem st_rebase (X : Stand p l e R s m args below meth c T locs cells slots) {k n : Nat} (hc : cells + k ≤ R.cells) (hs : slots + n ≤ R.slots) :
    Stand p l e { R with cells := k, slots := n } (T.setFrames (.invoking m args :: below)) m args below meth c T [] 0 0 := by
  obtain ⟨g₀, hfr⟩ := X.frames_eq
  have hcur : T.cur < T.threads.size := State.cur_lt_of_frames hfr
  have hF : (T.setFrames (.invoking m args :: below)).frames = .invoking m args :: below := State.frames_setFrames _ hcur
  have hm : (T.setFrames (.invoking m args :: below)).vm.method? m = some meth := by
    show T.vm.method? m = some meth
    rw [X.warmed.alike.method?]; exact X.method
  obtain ⟨t, ht, -⟩ := State.frames_cons hfr
  obtain ⟨t', ht', -⟩ := State.frames_cons hF
  refine ⟨X.admits, X.cas, X.clock, hF, ?_, ?_, hm, X.code, X.here, X.tail, State.WarmedH.refl (T.setFrames (.invoking m args :: below)), by rw [State.stackLimits_setFrames], by rw [State.stackBytes_setFrames], ?_⟩
  · obtain ⟨r1, r2, r3, r4⟩ := State.hasRoom_stack X.room
    have r5 := State.hasRoom_real X.room
    have h := X.room
    simp only [State.hasRoom, Bool.and_eq_true, decide_eq_true_eq] at h
    rw [State.localsInUse_invoking X.frames X.method X.code] at r3 r4 r5
    rw [X.frames, List.length_cons] at r1 r2
    have hU : (T.setFrames (.invoking m args :: below)).localsInUse = stackWeight below + vmFrameWords + (c.maxLocals + 11) := State.localsInUse_invoking hF hm X.code
    have h5 := X.heapSize
    have h6 := X.used
    simp only [State.hasRoom, Bool.and_eq_true, decide_eq_true_eq, hF, hU, List.length_cons, State.stackLimits_setFrames, State.stackBytes_setFrames, X.limits, X.bytes]
    refine ⟨⟨⟨⟨by omega, by omega, by omega, by omega, by omega, h.1.1.1.2.2.2.2.2⟩, ?_⟩, ?_⟩, X.book⟩
    · have := h.1.1.2
      show T.heap.size + k ≤ e.platform.maxCells
      omega
    · have := h.1.2
      show T.slotsUsed + n ≤ e.platform.maxSlots
      omega
  · have h : (T.setFrames (.invoking m args :: below)).hears m below = s.hears m below := hears_like (T := T.setFrames (.invoking m args :: below)) X.warmed.alike m below
    rw [h]; exact X.hears
  · have h := (State.sameButNew.refl (T.setFrames (.invoking m args :: below)) ht').setFrames T.frames (State.cur_lt_of_frames hF)
    rw [State.setFrames_setFrames, State.setFrames_self ht] at h
    exact h
end TXR
/-! 'new E; dup; ldc text; invokespecial; athrow', nothing of it caught here -/
section TXN
variable {p : Program} {l : Launch} {e : Env} {R : Room} {s : State} {m : MethodId} {args : Array Value} {below : List Frame} {meth : Method} {c : Code} {H : Heap} {locs : List Loc} {cells slots : Nat} {pc : Nat} {ls : Array Slot} {cc : ByteArray}
theorem tx_new {A : Nat → Prop} {Bq : Heap → Prop} {mc ms : Nat} {Z : State} {own E tx : String} {up : List String} {i1 i2 i3 : Nat} (hl : l.stackTraces = false) (hx : p.tables.exec = Jvm.exec) (hb : c.code = cc) (hml : c.maxLocals = ls.size) (hlk : meth.locks = false)
    (hno : ∀ x ∈ c.exceptionTable.toList, covers x (pc + 9) = false) (hown : s.vm.findClass own = some m.cls) (hE : Bundle.fit E = true) (hup : ∀ n ∈ up, Bundle.fit n = true)
    (hW1 : ∀ w ∈ Bundle.ownAtoms own i3 E up, (((w.onTables && w.keeps) = true ∨ ∃ ty, w = Cond.arrayClass ty) ∧ w.before args s = true) ∨ w ∈ xws ∨ w = Cond.castable E E) (hins : (Cond.instantiable E 6).before args s = true) (hcl : (Cond.classLink own i1 E).before args s = true) (hini : (Cond.initialized E).before args s = true)
    (hZw : Z.WarmedH s.vm) (hZ : ∀ w ∈ xws, w.before #[] Z = true) (hstr : (Cond.stringRef own i2 tx).before #[] Z = true) (hZH : ∀ q : Nat, q < Z.heap.size → H[q]? = Z.heap[q]?) (hS : ∀ x ∈ locs, A x.base)
    (hd0 : decode cc pc = .ok (.new i1, 3)) (hd3 : decode cc (pc + 3) = .ok (.dup, 1)) (hd4 : decode cc (pc + 4) = .ok (.ldc i2, 2)) (hd6 : decode cc (pc + 6) = .ok (.invokespecial i3, 3)) (hd9 : decode cc (pc + 9) = .ok (.athrow, 1))
    (hc : cells + 1 ≤ R.cells) (hs : slots + 6 ≤ R.slots) (hf : up.length + 3 < R.frames) (hlo : 1 + (13 * (up.length + 1) + 42) ≤ R.locals) (hmc : cells + 1 = mc) (hms : slots + 6 = ms)
    (hB : ∀ H1 : Heap, H.size ≤ H1.size → (∀ i : Nat, i < H.size → H1[i]? = H[i]?) → Bq H1) :
    W p l e R s m args below meth c H locs cells slots (tx_E below (tx_Q E mc ms A Bq) args s) (F0 m pc ls []) := by
  intro T hT X
  subst hmc; subst hms
  have htr : e.platform.stackTraces = false := by rw [X.admits.platform]; exact hl
  have X' := st_rebase X (k := 1) (n := 6) hc hs
  have hWs : s.WarmedH (T.setFrames (.invoking m args :: below)).vm := X.warmed
  have hxB : xB Z (T.setFrames (.invoking m args :: below)).vm (T.setFrames (.invoking m args :: below)).heap := ⟨State.WarmedH.trans hZw hWs, fun q hq => by show T.heap[q]? = _; rw [hT]; exact hZH q hq⟩
  have hins' : (Cond.instantiable E 6).before args (T.setFrames (.invoking m args :: below)) = true := word_at hWs (Or.inl rfl) hins
  have hat : ∀ w ∈ Bundle.ownAtoms own i3 E up, w.before args (T.setFrames (.invoking m args :: below)) = true := by
    intro w hw
    rcases hW1 w hw with ⟨h1, h2⟩ | h | h
    · exact word_at hWs h1 h2
    · exact xs_word hxB hZ w h
    · rw [h]; exact xs_cast hins'
  have hown' : (T.setFrames (.invoking m args :: below)).vm.findClass own = some m.cls := by rw [hWs.alike.findClass]; exact hown
  obtain ⟨q, hq⟩ := xs_str hstr
  have hq' : vk_R own i2 tx q (T.setFrames (.invoking m args :: below)) := vk_R.warm hxB.1 hq
  have key : W p l e { R with cells := 1, slots := 6 } (T.setFrames (.invoking m args :: below)) m args below meth c T.heap [] 0 0 (tx_E below (tx_Q E (cells + 1) (slots + 6) A Bq) args s) (F0 m pc ls []) := by
    refine W.newc hx hb (C := E) (n := 6) (g := F0 m pc ls []) hown' (word_at hWs (Or.inl rfl) hcl) (hat (.instantiable E 6) (by simp [Bundle.ownAtoms])) (word_at hWs (Or.inl rfl) hini) rfl hd0 (Nat.le_refl _) (Nat.le_refl _) (fun cC kC hfX hkX hord hsz => ?_)
    refine W.eq (g2 := F0 m (pc + 3) ls [.ref T.heap.size]) rfl ?_
    refine lv_dup hx hb hd3 rfl ?_
    refine va_ldcS hx hb hown' hq' hd4 ?_
    intro T3 hT3 X3
    have hcell : T3.heap[T.heap.size]? = some (freshCell cC kC) := by rw [hT3]; exact Array.getElem?_push_size
    obtain ⟨U, hsteps, hrun, hend, hW, hsame, ce, hce, K⟩ := X3.ctorThrowS hx htr (own := own) (cls := E) (names := up) (ic := i3) hown' hE hup hat (fun y hy => absurd hy List.not_mem_nil) hfX hkX hcell (Nat.le_refl _) (msg := .ref q) rfl
      (g := F0 m (pc + 6) ls [.ref q, .ref T.heap.size, .ref T.heap.size]) rfl hml.symm rfl rfl (rest := []) rfl (by rw [hb]; exact hd6) (by rw [hb]; exact hd9) hno hf (by simpa [Value.category, JFrame.monitorRoom] using hlo) hlk
    have hsame' : T.sameButNew ({ U with vm := T.vm } : State) [] 1 6 := sb_base hsame
    obtain ⟨o1, o2⟩ := tx_old (A := fun _ => False) (fun x hx9 => absurd hx9 List.not_mem_nil) hsame'
    refine ⟨U, hsteps, .threw T.heap.size, hrun, hend, T.heap.size, ce, locs, rfl, hce, K.vm, ?_, State.WarmedH.trans X.warmed hW, hS, ?_, ?_⟩
    · have h9 := K.cls
      rw [hWs.alike.findClass] at h9
      exact h9
    · have h9 := X.same.trans (hsame'.setVm s.vm)
      rw [List.append_nil] at h9
      exact h9
    · rw [hT] at o1 o2
      exact hB U.heap o1 (fun i hi => o2 i hi (fun h => h))
  exact key T rfl X'
end TXN
/-! a thrown object caught in the frame that stands there: the table's rows before its own name other classes; each row's class is linked, cold or warm -/
section TXC
variable {e : Env} {f : JFrame} {a : Addr}
theorem cx_link {Q : Handler → Pre} {E : CtlPost} {d : Bool} {acts : List Action} {s : State} {x : ExceptionTableEntry} {t : List ExceptionTableEntry} {c : ClassId} {cell : Cell} (hx : covers x f.pc = true) (h0 : x.catchType ≠ 0)
    (hl : s.vm.ClassLinks e.platform f.method.cls x.catchType c) (hcell : s.heap[a]? = some cell) (hobj : ∀ k, cell.vm ≠ .statics k) (hk : ∃ k, s.vm.classes[cell.cls]? = some k) (hc : ∃ k, s.vm.classes[c]? = some k) :
    wp (findHandler.go f a (x :: t)) Q E e d acts s ↔ if s.vm.assignable cell.cls c = true then Q (.found x.handlerPc) d acts (s.setVm (s.vm.noted f.method.cls x.catchType (.cls c))) else wp (findHandler.go f a t) Q E e d acts (s.setVm (s.vm.noted f.method.cls x.catchType (.cls c))) := by
  simp only [covers] at hx
  obtain ⟨ha, ht⟩ := (resolveClass_links e.toSetting hl).op (op := VmOp.resolveClass f.method.cls x.catchType) rfl
  have hal : s.vm.Alike (s.vm.noted f.method.cls x.catchType (.cls c)) := (Vm.Alike.refl s.vm).noted _ _ _
  obtain ⟨k1, hk1⟩ := hk
  obtain ⟨k2, hk2⟩ := hc
  obtain ⟨k1', hk1', -⟩ := hal.2.2 _ _ hk1
  obtain ⟨k2', hk2', -⟩ := hal.2.2 _ _ hk2
  have hfit' : (s.vm.noted f.method.cls x.catchType (.cls c)).assignable cell.cls c = s.vm.assignable cell.cls c := by rw [hal.assignable]
  cases hfit : s.vm.assignable cell.cls c <;> rw [hfit] at hfit' <;> simp [findHandler.go, hx, h0, ha, ht, hcell, hobj, hk1', hk2', hfit', VmOp.dirties, VmOp.acts]
/-- a row of the table: it covers the place, and names a class that links -/
def cx_R (e : Env) (s : State) (f : JFrame) (cC : ClassId) (fit : Bool) (x : ExceptionTableEntry) : Prop :=
  covers x f.pc = true ∧ x.catchType ≠ 0 ∧ ∃ c, s.vm.ClassLinks e.platform f.method.cls x.catchType c ∧ (∃ k, s.vm.classes[c]? = some k) ∧ s.vm.assignable cC c = fit
theorem cx_search {s U : State} {cell : Cell} (hcell : U.heap[a]? = some cell) (hobj : ∀ k, cell.vm ≠ .statics k) (hk : ∃ k, s.vm.classes[cell.cls]? = some k) :
    ∀ (ps : List ExceptionTableEntry) (x : ExceptionTableEntry) (rest : List ExceptionTableEntry) (vm : Vm), s.WarmedH vm → (∀ y ∈ ps, cx_R e s f cell.cls false y) → cx_R e s f cell.cls true x →
      ∃ vm', s.WarmedH vm' ∧ ∀ (Q : Handler → Pre) (E : CtlPost) (d : Bool) (acts : List Action), wp (findHandler.go f a (ps ++ x :: rest)) Q E e d acts (U.setVm vm) ↔ Q (.found x.handlerPc) d acts (U.setVm vm') := by
  intro ps
  induction ps with
  | nil =>
    intro x rest vm hW _ hx
    obtain ⟨h1, h2, c, hl, ⟨kc, hc⟩, hf⟩ := hx
    obtain ⟨dk, _, _, kt, hd, _, _, _, _, hkt, _, hopen⟩ := hl.here
    obtain ⟨k0, hk0⟩ := hk
    obtain ⟨k0', hk0', -⟩ := hW.alike.2.2 _ _ hk0
    obtain ⟨kc', hc', -⟩ := hW.alike.2.2 _ _ hc
    refine ⟨_, hW.noted hd hopen (State.rightAt_cls hl), fun Q E d acts => ?_⟩
    rw [List.nil_append, cx_link (s := U.setVm vm) h1 h2 (hW.classLinks hl) hcell hobj ⟨k0', hk0'⟩ ⟨kc', hc'⟩, if_pos (show (U.setVm vm).vm.assignable cell.cls c = true from (by show vm.assignable cell.cls c = true; rw [hW.alike.assignable]; exact hf))]
    exact Iff.rfl
  | cons y ys ih =>
    intro x rest vm hW hy hx
    obtain ⟨h1, h2, c, hl, ⟨kc, hc⟩, hf⟩ := hy y List.mem_cons_self
    obtain ⟨dk, _, _, kt, hd, _, _, _, _, hkt, _, hopen⟩ := hl.here
    obtain ⟨k0, hk0⟩ := id hk
    obtain ⟨k0', hk0', -⟩ := hW.alike.2.2 _ _ hk0
    obtain ⟨kc', hc', -⟩ := hW.alike.2.2 _ _ hc
    obtain ⟨vm', hW', hh⟩ := ih x rest _ (hW.noted hd hopen (State.rightAt_cls hl)) (fun z hz => hy z (List.mem_cons_of_mem _ hz)) hx
    refine ⟨vm', hW', fun Q E d acts => ?_⟩
    rw [List.cons_append, cx_link (s := U.setVm vm) h1 h2 (hW.classLinks hl) hcell hobj ⟨k0', hk0'⟩ ⟨kc', hc'⟩, if_neg (show ¬ (U.setVm vm).vm.assignable cell.cls c = true from (by show ¬ vm.assignable cell.cls c = true; rw [hW.alike.assignable, hf]; decide))]
    exact hh Q E d acts
end TXC
section TXD
variable {p : Program} {l : Launch} {e : Env} {R : Room} {s : State} {m : MethodId} {args : Array Value} {below : List Frame} {meth : Method} {c : Code} {H : Heap} {locs : List Loc} {cells slots : Nat} {Q : State → Prop} {pc : Nat} {ls : Array Slot}
theorem cx_here {U target : State} {g : JFrame} {a : Addr} {hpc : Nat} {vm' : Vm} {tb : Tables} (h : At U g.method c below)
    (hfind : ∀ (Q : Handler → Pre) (E : CtlPost) (d : Bool) (acts : List Action), wp (findHandler g a) Q E e d acts ((U.setTop g).pushFrame (.throwing a)) ↔ Q (.found hpc) d acts (((U.setTop g).pushFrame (.throwing a)).setVm vm'))
    (hrest : Steps tb e below ((U.setVm vm').setTop { g with pc := hpc, stack := [.ref a] }) target) : Steps tb e below ((U.setTop g).pushFrame (.throwing a)) target := by
  obtain ⟨hgo, hw⟩ := h.throwing a
  obtain ⟨g₀, hg⟩ := Option.isSome_iff_exists.mp h.top
  obtain ⟨r, hr⟩ := State.topJava?_eq_some.mp hg
  have hstep : (stepThrowing e ((U.setTop g).pushFrame (.throwing a)) a (.java g :: r)).Is ((((U.setTop g).pushFrame (.throwing a)).setVm vm').setFrames (.java { g with pc := hpc, stack := [.ref a] } :: r)) [] := by
    simp only [stepThrowing, searchFrame, vmDo]
    generalize hres : Sem.go _ e false [] ((U.setTop g).pushFrame (.throwing a)) = res
    obtain ⟨as, rfl, ha⟩ := Sem.eq_ok_of hres (a := Handler.found hpc) (s' := ((U.setTop g).pushFrame (.throwing a)).setVm vm') (acts' := []) (by simp [hfind _ _ _ _])
    exact ⟨rfl, ha⟩
  refine Steps.head hgo hw ?_
  have hfr : ((U.setTop g).pushFrame (.throwing a)).frames = .throwing a :: .java g :: r := by rw [frames_entered h.top, hr]; rfl
  rw [stepThread_throwing hfr, hstep.1]
  have hr' : (U.setVm vm').frames = .java g₀ :: r := hr
  rw [State.setTop_of_frames _ hr'] at hrest
  have e1 : (((U.setTop g).pushFrame (.throwing a)).setVm vm').setFrames (.java { g with pc := hpc, stack := [.ref a] } :: r) = (U.setVm vm').setFrames (.java { g with pc := hpc, stack := [.ref a] } :: r) := by
    rw [State.pushFrame, State.setTop_of_frames _ hr]
    show ((((U.setVm vm').setFrames (.java g :: r)).setFrames _).setFrames _) = _
    rw [State.setFrames_setFrames, State.setFrames_setFrames]
  rw [e1]
  exact hrest
theorem tx_catch {cc : ByteArray} {own : String} {q : Addr} {cell : Cell} {rest : List Value} (hown : s.vm.findClass own = some m.cls) (ps : List ExceptionTableEntry) (x : ExceptionTableEntry) (rs : List ExceptionTableEntry) (hsplit : c.exceptionTable.toList = ps ++ x :: rs)
    (hq : H[q]? = some cell) (hv : cell.vm = .none) (hk : ∃ k, s.vm.classes[cell.cls]? = some k) (hps : ∀ y ∈ ps, cx_R e s (F0 m pc ls rest) cell.cls false y) (hx : cx_R e s (F0 m pc ls rest) cell.cls true x)
    (k : W p l e R s m args below meth c H locs cells slots Q (F0 m x.handlerPc ls [.ref q])) : tx_W p l e R s m args below meth c H locs cells slots Q (F0 m pc ls rest) q := by
  intro T hT X
  obtain ⟨vm', hW', hh⟩ := cx_search (U := (T.setTop (F0 m pc ls rest)).pushFrame (.throwing q)) (a := q) (f := F0 m pc ls rest) (cell := cell) (by show T.heap[q]? = some cell; rw [hT]; exact hq) (fun k9 h9 => by rw [hv] at h9; cases h9) hk ps x rs T.vm X.warmed hps hx
  obtain ⟨t, a1, b1⟩ := k (T.setVm vm') hT (X.noted hW')
  refine ⟨t, cx_here (g := F0 m pc ls rest) X.here (fun Q E d acts => ?_) a1, b1⟩
  rw [W.findHandler_eq (meth := meth) (code := c) X.method' X.code, hsplit]
  exact hh Q E d acts
/-- a row's word gives what cx_R asks -/
theorem cx_row {own nm : String} {cell : Cell} {rest : List Value} {fit : Bool} {y : ExceptionTableEntry} (X : l.admits e) (hown : s.vm.findClass own = some m.cls) (hc : covers y pc = true) (h0 : y.catchType ≠ 0)
    (hlink : (Cond.classLink own y.catchType nm).before args s = true) (hfit : ∀ cT, s.vm.findClass nm = some cT → s.vm.assignable cell.cls cT = fit) : cx_R e s (F0 m pc ls rest) cell.cls fit y := by
  have hpl : e.platform.magicAccessors = ({} : Platform).magicAccessors := by rw [X.platform]
  obtain ⟨c', hc', hcl⟩ := Cond.classLink_spec hown hlink e.platform hpl
  exact ⟨hc, h0, c', hcl, Vm.classAt_of_findClass hc', hfit c' hc'⟩
end TXD
/-! a throwing method's contract: its start, and its walk -/
abbrev tx_P (Z : State) (D : va_G) (cl : List vw_C) (tys : List (ClassId × FieldType)) (H : Heap) (av : List Value) : Array Value → State → Prop := va_Pc av (fun U => U.heap = H ∧ va_K D cl tys U ∧ Z.WarmedH U.vm)
theorem tx_blind {Z : State} {D : va_G} {cl : List vw_C} {tys : List (ClassId × FieldType)} {H : Heap} {av : List Value} : FrameBlind (tx_P Z D cl tys H av) := by
  intro a U g mk q
  obtain ⟨q0, q1, q2, q3⟩ := q
  exact ⟨q0, q1, va_K.moved (u := U) (U := U.calling g mk a) (Vm.Alike.refl U.vm) q2, q3⟩
theorem va_old {D : va_G} {cl : List vw_C} {w : va_W} {H H1 : Heap} (h : va_P D cl w H) (hq : ∀ i : Nat, i < H.size → H1[i]? = H[i]?) : va_P D cl w H1 := h.kept (fun k q hk => hq q.1 (h k q hk).lt)
def exn (c : Int32) : String := if c = 1 then "java/lang/IndexOutOfBoundsException" else if c = 2 then "java/lang/IllegalArgumentException" else if c = 3 then "java/lang/UnsupportedOperationException" else "java/lang/IllegalStateException"
theorem exn_1 : exn 1 = "java/lang/IndexOutOfBoundsException" := if_pos rfl
theorem exn_2 : exn 2 = "java/lang/IllegalArgumentException" := (if_neg (by decide)).trans (if_pos rfl)
theorem exn_3 : exn 3 = "java/lang/UnsupportedOperationException" := (if_neg (by decide)).trans ((if_neg (by decide)).trans (if_pos rfl))
theorem exn_4 : exn 4 = "java/lang/IllegalStateException" := (if_neg (by decide)).trans ((if_neg (by decide)).trans (if_neg (by decide)))
abbrev xup : List String := ["java/lang/RuntimeException", "java/lang/Exception"]
theorem tx_met {l : Launch} {y : MethodName} {ws ws' : List Cond} {rm : Room} {D : va_G} {cl : List vw_C} {tys : List (ClassId × FieldType)} {H : Heap} {av : List Value} {cc : ByteArray} {maxL : Nat} {ret : Option FieldType} {w : va_W} {Z : State} {E : String} {mc ms : Nat} {B : Heap → Prop}
    (hy : plainName y.cls = true) (hw : ws = Cond.code y cc maxL ret :: ws') (hn : (lg_sl av).length ≤ maxL) (hP : va_P D cl w H) (hD : va_D (fun _ => True) w)
    (walk : ∀ {p : Program} {e : Env} {s : State} {m : MethodId} {args : Array Value} {below : List Frame} {meth : Method} {c : Code} {Q : State → Prop} {A : Nat → Prop}, A = va_A w H.size → Q = tx_E below (tx_Q E mc ms A B) args s → CallFix p m c cc maxL s args ws y.cls → va_K D cl tys s → Z.WarmedH s.vm → meth.locks = false → (∀ k : Nat, ∀ x ∈ c.exceptionTable.toList, covers x k = false) →
      va_P D cl w H → va_D A w → va_S A H H [] → (∀ q, H.size ≤ q → A q) → ∀ ls : Array Slot, lv_has ls maxL (lv_args 0 av) → W p l e rm s m args below meth c H [] 0 0 Q (F0 m 0 ls [])) :
    tx_Met l y ws rm (tx_P Z D cl tys H av) E mc ms (va_A w H.size) B := by
  refine tx_ofW (cc := cc) (maxL := maxL) (ret := ret) hy hw ?_
  intro p e s m args below meth c s₁ Bd hml hv
  obtain ⟨rfl, hH, hK, hZw⟩ := hv
  subst hH
  have hx := Bd.exec
  have hb := Bd.bytes
  have hts := atoms_spec (ws := ws) Bd.pre
  have hown : s.vm.findClass y.cls = some m.cls := findClass_of_methodNamed Bd.named
  have hlocks := Bd.notSynchronized
  have hcode := hts _ (by rw [hw]; exact List.mem_cons_self)
  have hl := lv_entry av (n := maxL) hn
  rw [lg_entry_eq]
  exact walk rfl rfl ⟨hx, hb, hml, hown, hts⟩ hK hZw hlocks (fun k => covers_of_empty (Bd.noHandlers hcode) k) hP hD.self va_S.rf (fun q h => Or.inr h) _ hl
