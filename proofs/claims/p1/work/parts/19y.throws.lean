/-! a callee that throws an object of class E and changes no old cell: its contract, and what its caller stands at -/
def tx_Q (E : String) (mc ms : Nat) : Array Value → State → Outcome → State → Prop := fun _ st o t =>
  ∃ (q : Addr) (ce : Cell), o = .threw q ∧ t.heap[q]? = some ce ∧ ce.vm = .none ∧ st.vm.findClass E = some ce.cls ∧ st.WarmedH t.vm ∧ st.sameButNew ({ t with vm := st.vm } : State) [] mc ms
def tx_Met (l : Launch) (y : MethodName) (ws : List Cond) (rm : Room) (Pc : Array Value → State → Prop) (E : String) (mc ms : Nat) : Prop :=
  MetFree l y (headSpec ws rm) Pc (fun _ _ _ _ _ => True) (tx_Q E mc ms)
theorem tx_back {l : Launch} {R : Room} {p : Program} {e : Env} {below : List Frame} {s : State} {sargs : Array Value} {y : MethodName} {ws : List Cond} {rm : Room} {Pc : Array Value → State → Prop} {E : String} {mc ms : Nat} {bytes : ByteArray} {maxL : Nat} {ret : Option FieldType}
    (hM : tx_Met l y ws rm Pc E mc ms) (hblind : FrameBlind Pc) (hrc : rm.cells = mc) (hrs : rm.slots = ms) (hframes : rm.frames + 1 ≤ R.frames) (hlocals : 8 + (maxL + 11) + rm.locals ≤ R.locals)
    (hws : ∀ w ∈ ws, ∀ (a' : Array Value) (U : State), s.WarmedH U.vm → w.before a' U = true) (hcode : Cond.code y bytes maxL ret ∈ ws) (hinit : ∀ (a' : Array Value) (U : State), s.WarmedH U.vm → (Cond.initialized y.cls).before a' U = true)
    {m : MethodId} {meth : Method} {c : Code} {U : State} {locs : List Loc} {cells slots : Nat} {g : JFrame} {ig : Instr} {len : Nat} {mk : MethodId} {a : Array Value}
    (X : Stand p l e R s m sargs below meth c U locs cells slots) (hg : g.method = m) (hsize : g.locals.size = c.maxLocals) (hdg : decode c.code g.pc = .ok (ig, len)) (hW : 2 * g.monitorRoom + (g.stack.map fun v => v.category).sum ≤ 8) (hn : U.methodNamed? y = some mk) (hP : Pc a U) (hcs : cells + mc ≤ R.cells ∧ slots + ms ≤ R.slots) :
    ∃ (q : Addr) (ce : Cell) (T' : State), Stand p l e R s m sargs below meth c T' locs (cells + mc) (slots + ms) ∧ T'.heap[q]? = some ce ∧ ce.vm = .none ∧ U.vm.findClass E = some ce.cls ∧ U.WarmedH T'.vm ∧ U.sameButNew ({ U with heap := T'.heap, slotsUsed := T'.slotsUsed } : State) [] mc ms ∧
      Steps p.tables e below (doInvoke e (U.setTop g) [] mk a).1 ((T'.setTop g).pushFrame (.throwing q)) := by
  obtain ⟨methY, cY, hmY, hcY, -, hlY, -, -, -, -⟩ := Cond.code_spec hn (hws _ hcode a U X.warmed)
  obtain ⟨kY, hkY, -⟩ := className_of_methodNamed hn
  have hinitY : kY.init = .initialized := Cond.initialized_spec (findClass_of_methodNamed hn) hkY (hinit a U X.warmed)
  have h : At U g.method c below := by rw [hg]; exact X.here
  have hpre : (headSpec ws rm).pre.before a U = true := atoms_intro fun w hw => hws w hw _ _ X.warmed
  have happ : (headSpec ws rm).appliesLoose y e.platform (U.calling g mk a) = true :=
    Spec.appliesLoose_calling (g := g) h hdg hn hkY hinitY
      (X.room_calling (g := g) (R' := (headSpec ws rm).room) hsize hmY hcY hframes (by rw [hlY]; show _ + (maxL + 11) + rm.locals ≤ R.locals; omega) (by rw [show (headSpec ws rm).room.cells = mc from hrc]; exact hcs.1) (by rw [show (headSpec ws rm).room.slots = ms from hrs]; exact hcs.2)) hpre
  obtain ⟨mid, hmid⟩ := h.above
  have hfr : (U.setTop g).frames = (.java g :: mid) ++ below := by rw [State.frames_setTop' g h.top, hmid]; rfl
  obtain ⟨o, s₂, hsteps, -, hend, hq⟩ := Steps.callFree hM p X.admits X.cas X.clock (acts := []) hfr happ (hblind _ _ _ _ hP) trivial
  have hq' : tx_Q E mc ms a (U.calling g mk a) o s₂ := hq
  obtain ⟨q, ce, rfl, hce, hcv, hcl, hW₂, hsm⟩ := hq'
  obtain ⟨e2, q2, q3, q4, q5, q6⟩ := id hsm
  have hend' : s₂.frames = .throwing q :: (U.setTop g).frames := hend
  rw [State.frames_setTop' g h.top] at hend'
  have e3 : s₂ = ({ (U.calling g mk a).setFrames s₂.frames with heap := s₂.heap, slotsUsed := s₂.slotsUsed } : State).setVm s₂.vm := by
    have e4 : s₂ = ({ s₂ with vm := (U.calling g mk a).vm } : State).setVm s₂.vm := rfl
    rw [e2] at e4
    exact e4
  have hW' : U.WarmedH s₂.vm := hW₂
  obtain ⟨g₀, hg0⟩ := Option.isSome_iff_exists.mp h.top
  obtain ⟨r, hr⟩ := State.topJava?_eq_some.mp hg0
  have hr' : (({ U with heap := s₂.heap, slotsUsed := s₂.slotsUsed } : State).setVm s₂.vm).frames = .java g₀ :: r := hr
  have hs₂ : s₂ = ((({ U with heap := s₂.heap, slotsUsed := s₂.slotsUsed } : State).setVm s₂.vm).setTop g).pushFrame (.throwing q) := by
    refine e3.trans ?_
    rw [State.setTop_of_frames _ hr']
    show _ = ((({ U with heap := s₂.heap, slotsUsed := s₂.slotsUsed } : State).setVm s₂.vm).setFrames (.java g :: r)).setFrames (.throwing q :: ((({ U with heap := s₂.heap, slotsUsed := s₂.slotsUsed } : State).setVm s₂.vm).setFrames (.java g :: r)).frames)
    rw [State.setFrames_setFrames, State.frames_setFrames _ (State.cur_lt_of_frames hr'), hend', State.calling_eq h.top, State.setFrames_setFrames, hr]
    rfl
  have hsame : U.sameButNew ({ U with heap := s₂.heap, slotsUsed := s₂.slotsUsed } : State) [] mc ms := by
    refine ⟨?_, q2, q3, q4, q5, q6⟩
    obtain ⟨t, ht, -⟩ := State.frames_cons hr
    show ({ U with heap := s₂.heap, slotsUsed := s₂.slotsUsed } : State) = { U.setFrames U.frames with heap := s₂.heap, slotsUsed := s₂.slotsUsed }
    rw [State.setFrames_self ht]
  subst hg
  have hst := X.same.trans (hsame.setVm s.vm)
  rw [List.append_nil] at hst
  refine ⟨q, ce, (({ U with heap := s₂.heap, slotsUsed := s₂.slotsUsed } : State).setVm s₂.vm),
    ⟨X.admits, X.cas, X.clock, X.frames, X.room, X.hears, X.method, X.code, (X.here.setHeapUsed s₂.heap s₂.slotsUsed).setVm hW'.alike, X.tail, State.WarmedH.trans X.warmed hW', X.limits, X.bytes, hst⟩, hce, hcv, hcl, hW', hsame, ?_⟩
  rw [← hs₂]
  exact hsteps
theorem tx_old {U V : State} {mc ms : Nat} (h : U.sameButNew V [] mc ms) : U.heap.size ≤ V.heap.size ∧ ∀ i : Nat, i < U.heap.size → V.heap[i]? = U.heap[i]? := by
  obtain ⟨-, h2, -, -, -, h6⟩ := h
  refine ⟨h2, fun i hi => ?_⟩
  obtain ⟨c9, e1, e2, e3, e4⟩ := h6 i _ (Array.getElem?_eq_getElem hi)
  have hs : c9.slots = (U.heap[i]).slots := Array.ext_getElem? fun k => e4 k List.not_mem_nil
  rw [hs] at e2
  rw [e1, e2, Array.getElem?_eq_getElem hi]
/-- the frame g, with q thrown over it -/
def tx_W (p : Program) (l : Launch) (e : Env) (R : Room) (s : State) (m : MethodId) (args : Array Value) (below : List Frame) (meth : Method) (c : Code) (H : Heap) (locs : List Loc) (cells slots : Nat) (Q : State → Prop) (g : JFrame) (q : Addr) : Prop :=
  ∀ T : State, T.heap = H → Stand p l e R s m args below meth c T locs cells slots → ∃ t, Steps p.tables e below ((T.setTop g).pushFrame (.throwing q)) t ∧ Q t
theorem tx_callV {p : Program} {l : Launch} {e : Env} {R : Room} {s : State} {m : MethodId} {args : Array Value} {below : List Frame} {meth : Method} {c : Code} {H : Heap} {locs : List Loc} {cells slots : Nat} {Q : State → Prop} {pc : Nat} {ls : Array Slot} {cc : ByteArray} {nL : Nat} {Ts : List Cond} {own : String} {y : MethodName} {ws : List Cond} {rm : Room} {D : va_G} {cl : List vw_C} {tys : List (ClassId × FieldType)} {bytes : ByteArray} {maxL n index mc ms : Nat} {ret : Option FieldType} {C E : String} {b : Addr} {As rest : List Value}
    (S : CallFix p m c cc nL s args Ts own) (hM : tx_Met l y ws rm (ro_P D cl tys H (.ref b :: As)) E mc ms) (cw : CallW R s args own C index y bytes maxL ret ws rm mc ms n) (hK : va_K D cl tys s) (hrecv : ∃ cell : Cell, H[b]? = some cell ∧ cell.vm.isStatics = false ∧ s.vm.findClass C = some cell.cls)
    (hn : As.length = n) (hl : ls.size = nL) {st : List Value} (hst : st = As.reverse ++ .ref b :: rest) (hW : (rest.map fun v => v.category).sum ≤ 8) (hdg : decode cc pc = .ok (.invokevirtual index, 3)) (hcs : cells + mc ≤ R.cells ∧ slots + ms ≤ R.slots)
    (kx : ∀ (q : Addr) (ce : Cell) (H1 : Heap), H1[q]? = some ce → ce.vm = .none → s.vm.findClass E = some ce.cls → H.size ≤ H1.size → (∀ i : Nat, i < H.size → H1[i]? = H[i]?) → tx_W p l e R s m args below meth c H1 locs (cells + mc) (slots + ms) Q (F0 m pc ls rest) q) : W p l e R s m args below meth c H locs cells slots Q (F0 m pc ls st) := by
  subst hst
  intro T hT X
  obtain ⟨⟨hrc, hrs, hfr, hlo, hws, hcw, hcode, hini, hy, hlen, hlk⟩, hin, hse⟩ := cw
  obtain ⟨hx, hb, hml, ho, -⟩ := S
  obtain ⟨cellB, hcB, hoB, hclB⟩ := hrecv
  obtain ⟨mk, methM, hnamed, hmethM, hstM, habM⟩ := Cond.instanceMethod_spec hin
  obtain ⟨methM', cM, hmethM', -, -, -, -, -, -, hsigM⟩ := Cond.code_spec hnamed hcode
  cases hmethM.symm.trans hmethM'
  obtain ⟨c2, r2, m2, q1, q2, q3, q4, kP, hkP, hkPi⟩ := Cond.selects_spec hse
  cases hclB.symm.trans q1
  cases (State.methodFound?_of_named hnamed hy).symm.trans q2
  cases hnamed.symm.trans q3
  have hselP : selectMethod e.platform s.vm cellB.cls mk = .method mk := by rw [Launch.admits_selectMethod X.admits]; exact q4
  obtain ⟨vm₁, X₁, hstep₁⟩ := X.invokevirtual hx ho hlk hnamed hmethM hstM hkP hkPi hy (a := b) (cell := cellB) (by rw [hT]; exact hcB)
    (fun z h => by rw [h] at hoB; cases hoB) hselP hmethM habM hkP hkPi (g := F0 m pc ls (As.reverse ++ .ref b :: rest)) rfl (argsL := As) (rest := rest) (hn.trans (hlen _ hsigM)) rfl (by rw [hb]; exact hdg)
  obtain ⟨q, ce, T', X', h1, h2, h3, h4, h5, st⟩ := tx_back (a := (Value.ref b :: As).toArray) hM ro_blind hrc hrs hfr hlo hws hcw (fun a' U hW => word_at hW (Or.inl (by first | rfl | simp [Cond.onTables, Cond.keeps, Cond.steady])) hini) X₁ (g := F0 m pc ls rest) (ig := .invokevirtual index) (len := 3) rfl (hl.trans hml.symm) (by rw [hb]; exact hdg) (lv_room hW) (X₁.named hnamed) ⟨rfl, hT, va_K.moved X₁.warmed.alike hK⟩ hcs
  obtain ⟨o1, o2⟩ := tx_old h5
  have hcE : s.vm.findClass E = some ce.cls := by
    have h9 : (T.setVm vm₁).vm.findClass E = some ce.cls := h3
    rw [X₁.warmed.alike.findClass] at h9
    exact h9
  have o1' : H.size ≤ T'.heap.size := by rw [← hT]; exact o1
  obtain ⟨t, a1, b1⟩ := kx q ce T'.heap h1 h2 hcE o1' (fun i hi => by rw [← hT] at hi ⊢; exact o2 i hi) T' rfl X'
  exact ⟨t, hstep₁ _ fun acts => by rw [doInvoke_state]; exact st.trans a1, b1⟩
