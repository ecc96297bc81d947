-- ===== a catch whose class may still have to be resolved =====
theorem fh_cold {E : CtlPost} {e : Env} {d : Bool} {acts : List Action} {s : State} {f : JFrame} {a : Addr} {Q : Handler → Pre} {x : ExceptionTableEntry} {t : List ExceptionTableEntry} {c : ClassId} {vm' : Vm} {cell : Cell} (hx : covers x f.pc = true) (h0 : x.catchType ≠ 0) (hg : (Jvm.resolveClass f.method.cls x.catchType).Gives e.toSetting s.vm (.ok c) vm') (hsz : vm'.classes.size ≤ s.vm.classes.size) (hcell : s.heap[a]? = some cell) (hobj : ∀ k, cell.vm ≠ .statics k) (hk : ∃ k, vm'.classes[cell.cls]? = some k) (hc : ∃ k, vm'.classes[c]? = some k) (hfit : vm'.assignable cell.cls c = true) : wp (findHandler.go f a (x :: t)) Q E e d acts s ↔ Q (.found x.handlerPc) d acts (s.setVm vm') := by
  obtain ⟨ha, ht⟩ := hg.op (op := VmOp.resolveClass f.method.cls x.catchType) rfl
  simp only [covers] at hx
  simp [findHandler.go, hx, h0, ha, ht, hsz, hcell, hobj, hk, hc, hfit, VmOp.dirties, VmOp.acts]
def FindsV (e : Env) (s : State) (f : JFrame) (a : Addr) (h : Handler) (vm' : Vm) : Prop :=
  ∀ (Q : Handler → Pre) (E : CtlPost) (d : Bool) (acts : List Action), wp (findHandler f a) Q E e d acts s ↔ Q h d acts (s.setVm vm')
theorem stepThrowing_catchV {e : Env} {s : State} {a : Addr} {f : JFrame} {r : List Frame} {pc : Nat} {vm' : Vm} (hfind : FindsV e s f a (.found pc) vm') :
    (stepThrowing e s a (.java f :: r)).Is ((s.setVm vm').setFrames (.java { f with pc := pc, stack := [.ref a] } :: r)) [] := by
  simp only [stepThrowing, searchFrame, vmDo]
  generalize hr : Sem.go _ e false [] s = res
  obtain ⟨as, rfl, ha⟩ := Sem.eq_ok_of hr (a := Handler.found pc) (s' := s.setVm vm') (acts' := []) (by simp [hfind _ _ _ _])
  exact ⟨rfl, ha⟩
theorem Steps_caughtV {tb : Tables} {e : Env} {s target : State} {g : JFrame} {c : Code} {below : List Frame} {a : Addr} (h : At s g.method c below) {pc : Nat} {vm' : Vm} (hfind : FindsV e ((s.setTop g).pushFrame (.throwing a)) g a (.found pc) vm')
    (hrest : Steps tb e below ((s.setVm vm').setTop { g with pc := pc, stack := [.ref a] }) target) :
    Steps tb e below ((s.setTop g).pushFrame (.throwing a)) target := by
  obtain ⟨hgo, hw⟩ := h.throwing a
  refine Steps.head hgo hw ?_
  rw [stepThread_throwing (frames_entered h.top _), (stepThrowing_catchV (s := (s.setTop g).pushFrame (.throwing a)) hfind).1]
  obtain ⟨g₀, hg⟩ := Option.isSome_iff_exists.mp h.top
  obtain ⟨r, hr⟩ := State.topJava?_eq_some.mp hg
  have hr2 : (s.setVm vm').frames = .java g₀ :: r := hr
  rw [State.setTop_of_frames _ hr2] at hrest
  rw [State.pushFrame, State.setTop_of_frames _ hr, hr]
  show Steps tb e below ((((s.setVm vm').setFrames _).setFrames _).setFrames _) target
  rw [State.setFrames_setFrames, State.setFrames_setFrames]
  exact hrest
-- ===== a contract of a method that throws its own new exception =====
def qT (_ : Array Value) (st : State) (o : Outcome) (t : State) : Prop := ∃ x : Nat, o = .threw x ∧ st.heap.size ≤ x ∧ (∃ ce : Cell, t.heap[x]? = some ce ∧ st.vm.findClass RJx00060 = some ce.cls ∧ (∀ k, ce.vm ≠ .statics k) ∧ st.vm.assignable ce.cls ce.cls = true) ∧ st.WarmedH t.vm ∧ st.sameButNew ({ t with vm := st.vm } : State) [] 1 6
def MetT (l : Launch) (y : MethodName) (ws : List Cond) (rm : Room) (Pc : Array Value → State → Prop) : Prop := MetFree l y (headSpec ws rm) Pc (fun _ _ _ _ _ => True) qT
theorem MetT.ofW {l : Launch} {y : MethodName} {ws ws' : List Cond} {rm : Room} {Pc : Array Value → State → Prop} {cc : ByteArray} {maxL : Nat} {ret : Option FieldType}
    (hy : plainName y.cls = true) (hw : ws = Cond.code y cc maxL ret :: ws')
    (body : ∀ p e s m args below meth c s₁, BodyLoose p l y (headSpec ws rm) cc maxL ret e s m args below meth c s₁ → c.maxLocals = maxL → Pc args s →
      W p l e (headSpec ws rm).room s m args below meth c s.heap [] 0 0 (fun t => ∃ o, t.status = .running ∧ Ended t below o ∧ qT args s o t) (entryFrame m args maxL)) : MetT l y ws rm Pc := by
  refine MetFree.of_bodyS (code := cc) (maxLocals := maxL) (ret := ret) hy ?_ ?_
  · intro args s m h hn
    obtain ⟨meth, c, h1, h2, h3, h4, h5, h6, -, -⟩ := Cond.code_spec hn (atoms_spec (ws := ws) h _ (by rw [hw]; exact List.mem_cons_self))
    exact ⟨meth, c, h1, h2, h3, h4, h5, h6⟩
  · intro p e s m args below meth c s₁ B hml hP _
    have hh0 : s₁.heap = s.heap := by rw [B.state]; rfl
    obtain ⟨t, a1, o, b1, b2, b3⟩ := body p e s m args below meth c s₁ B hml hP s₁ hh0 (Stand.of_body B)
    exact ⟨t, o, a1, b1, b2, b3⟩
theorem same_cells {s t : State} {k n : Nat} (h : s.sameButNew t [] k n) : s.heap.size ≤ t.heap.size ∧ ∀ q : Nat, q < s.heap.size → t.heap[q]? = s.heap[q]? := by
  refine ⟨h.2.1, fun q hq => ?_⟩
  obtain ⟨cell', h1, h2, h3, h4⟩ := h.2.2.2.2.2 q _ (Array.getElem?_eq_getElem hq)
  rw [h1, Array.getElem?_eq_getElem hq]
  congr 1
  have hs : cell'.slots = s.heap[q].slots := by
    apply Array.ext_getElem?
    intro i
    exact h4 i (by simp)
  rw [h2, hs]
section BT
variable {l : Launch} {R : Room} {p : Program} {e : Env} {below : List Frame} {s : State} {sargs : Array Value} {y : MethodName}
theorem backT {ws : List Cond} {rm : Room} {Pc : Array Value → State → Prop} {bytes : ByteArray} {maxL : Nat} {ret : Option FieldType}
    (hM : MetT l y ws rm Pc) (hblind : FrameBlind Pc) (hrc : rm.cells = 1) (hrs : rm.slots = 6)
    (hframes : rm.frames + 1 ≤ R.frames) (hlocals : 8 + (maxL + 11) + rm.locals ≤ R.locals)
    (hws : ∀ w ∈ ws, ∀ a' U, s.WarmedH U.vm → w.before a' U = true) (hcode : Cond.code y bytes maxL ret ∈ ws) (hinit : ∀ a' U, s.WarmedH U.vm → (Cond.initialized y.cls).before a' U = true)
    {m : MethodId} {meth : Method} {c : Code} {U : State} {Ls : List Loc} {c0 s0 : Nat} {g : JFrame} {ig : Instr} {mk : MethodId} {a : Array Value}
    (X : Stand p l e R s m sargs below meth c U Ls c0 s0) (hg : g.method = m) (hsize : g.locals.size = c.maxLocals) (hdg : decode c.code g.pc = .ok (ig, 3))
    (hW : 2 * g.monitorRoom + (g.stack.map fun v => v.category).sum ≤ 8) (hn : U.methodNamed? y = some mk) (h4 : c0 + 1 ≤ R.cells) (h5 : s0 + 6 ≤ R.slots) (hPc : Pc a U) :
    ∃ (x : Nat) (T₂ : State), Stand p l e R s m sargs below meth c T₂ Ls (c0 + 1) (s0 + 6) ∧ U.heap.size ≤ x ∧ (∃ ce : Cell, T₂.heap[x]? = some ce ∧ U.vm.findClass RJx00060 = some ce.cls ∧ (∀ k, ce.vm ≠ .statics k) ∧ U.vm.assignable ce.cls ce.cls = true) ∧ U.WarmedH T₂.vm ∧
      U.heap.size ≤ T₂.heap.size ∧ (∀ q : Nat, q < U.heap.size → T₂.heap[q]? = U.heap[q]?) ∧
      Steps p.tables e below (doInvoke e (U.setTop g) [] mk a).1 ((T₂.setTop g).pushFrame (.throwing x)) := by
  have h1 : (headSpec ws rm).pre.before a U = true := atoms_intro fun w hw => hws w hw _ _ X.warmed
  have h2 := hws _ hcode a U X.warmed
  have h3 := hinit a U X.warmed
  obtain ⟨methY, cY, hmY, hcY, -, hlY, -⟩ := Cond.code_spec hn h2
  obtain ⟨kY, hkY, -⟩ := className_of_methodNamed hn
  have hinitY : kY.init = .initialized := Cond.initialized_spec (findClass_of_methodNamed hn) hkY h3
  have h : At U g.method c below := by rw [hg]; exact X.here
  have happ : (headSpec ws rm).appliesLoose y e.platform (U.calling g mk a) = true :=
    Spec.appliesLoose_calling (g := g) h hdg hn hkY hinitY
      (X.room_calling (g := g) (R' := (headSpec ws rm).room) hsize hmY hcY hframes (by rw [hlY]; show _ + rm.locals ≤ _; omega) (by show c0 + rm.cells ≤ _; omega) (by show s0 + rm.slots ≤ _; omega)) h1
  obtain ⟨mid, hmid⟩ := h.above
  have hfr : (U.setTop g).frames = (.java g :: mid) ++ below := by rw [State.frames_setTop' g h.top, hmid]; rfl
  obtain ⟨o, s₂, hsteps, hrun, hend, hq⟩ := Steps.callFree hM p X.admits X.cas X.clock (acts := []) hfr happ (hblind a U g mk hPc) trivial
  obtain ⟨x, rfl, hx, ⟨ce, hce, hcc, hcs, hca⟩, hW₂, hsm⟩ := (show qT a (U.calling g mk a) o s₂ from hq)
  have hsc := same_cells hsm
  obtain ⟨e2, q2, q3, q4, q5, q6⟩ := id hsm
  have e3 : s₂ = ({ (U.calling g mk a).setFrames s₂.frames with heap := s₂.heap, slotsUsed := s₂.slotsUsed } : State).setVm s₂.vm := by
    have : s₂ = ({ s₂ with vm := (U.calling g mk a).vm } : State).setVm s₂.vm := rfl
    rw [e2] at this
    exact this
  have hf₂ : s₂.frames = .throwing x :: (U.setTop g).frames := hend
  rw [State.frames_setTop' g h.top] at hf₂
  have hW' : U.WarmedH s₂.vm := hW₂
  obtain ⟨g₀, hg0⟩ := Option.isSome_iff_exists.mp h.top
  obtain ⟨r, hr⟩ := State.topJava?_eq_some.mp hg0
  have hs₂ : s₂ = ((((({ U with heap := s₂.heap, slotsUsed := s₂.slotsUsed } : State).setVm s₂.vm)).setTop g).pushFrame (.throwing x)) := by
    have hr' : (({ U with heap := s₂.heap, slotsUsed := s₂.slotsUsed } : State).setVm s₂.vm).frames = .java g₀ :: r := hr
    refine e3.trans ?_
    rw [hf₂, State.calling_eq h.top, State.setFrames_setFrames, State.pushFrame, State.setTop_of_frames _ hr', hr]
    have hcur : (({ U with heap := s₂.heap, slotsUsed := s₂.slotsUsed } : State).setVm s₂.vm).cur < (({ U with heap := s₂.heap, slotsUsed := s₂.slotsUsed } : State).setVm s₂.vm).threads.size := State.cur_lt_of_frames hr
    rw [State.frames_setFrames _ hcur, State.setFrames_setFrames]
    rfl
  have hsame : U.sameButNew ({ U with heap := s₂.heap, slotsUsed := s₂.slotsUsed } : State) [] 1 6 := by
    refine ⟨?_, q2, q3, q4, q5, q6⟩
    obtain ⟨t, ht, -⟩ := State.frames_cons hr
    show ({ U with heap := s₂.heap, slotsUsed := s₂.slotsUsed } : State) = { U.setFrames U.frames with heap := s₂.heap, slotsUsed := s₂.slotsUsed }
    rw [State.setFrames_self ht]
  have X2 : Stand p l e R s m sargs below meth c (({ U with heap := s₂.heap, slotsUsed := s₂.slotsUsed } : State).setVm s₂.vm) (Ls ++ []) (c0 + 1) (s0 + 6) :=
    ⟨X.admits, X.cas, X.clock, X.frames, X.room, X.hears, X.method, X.code, (X.here.setHeapUsed s₂.heap s₂.slotsUsed).setVm hW'.alike, X.tail, State.WarmedH.trans X.warmed hW', X.limits, X.bytes, X.same.trans (hsame.setVm s.vm)⟩
  rw [List.append_nil] at X2
  refine ⟨x, _, X2, hx, ⟨ce, hce, hcc, hcs, hca⟩, hW', hsc.1, hsc.2, ?_⟩
  rw [← hs₂]
  exact hsteps
end BT
section CT
variable {p : Program} {l : Launch} {e : Env} {R : Room} {s : State} {m : MethodId} {args : Array Value} {below : List Frame} {meth : Method} {c : Code} {H : Heap} {locs : List Loc} {cells slots : Nat} {Q : State → Prop}
/-- a call that ends in a throw of the callee's own, caught in this method by the first row of its table -/
theorem va_callT {y : MethodName} {bytes cc : ByteArray} {maxL nL n index ci hp_ : Nat} {ret : Option FieldType} {ws : List Cond} {rm : Room} {Pc : Array Value → State → Prop} {Ts : List Cond} {own C : String} {b : Addr} {As rest : List Value} {g : JFrame}
    (S : CallFix p m c cc nL s args Ts own) (hM : MetT l y ws rm Pc) (cw : CallW R s args own C index y bytes maxL ret ws rm 1 6 n) (hp : PreV s H C b Pc As)
    (hg : g.method = m) (hn : As.length = n) (hsize : g.locals.size = nL) (hstack : g.stack = As.reverse ++ .ref b :: rest) (hW : 2 * g.monitorRoom + (rest.map fun v => v.category).sum ≤ 8) (hdg : decode cc g.pc = .ok (.invokevirtual index, 3)) (hf : cells + 1 ≤ R.cells ∧ slots + 6 ≤ R.slots)
    {xe : ExceptionTableEntry} {xr : List ExceptionTableEntry} (htab : c.exceptionTable.toList = xe :: xr) (hcov : covers xe g.pc = true) (hct : xe.catchType = ci) (hci : ci ≠ 0) (hhp : xe.handlerPc = hp_) (hclink : (Cond.classLink own ci RJx00060).before args s = true)
    (kk : ∀ (x : Nat) (H1 : Heap), H.size ≤ x → H.size ≤ H1.size → (∀ q : Nat, q < H.size → H1[q]? = H[q]?) → W p l e R s m args below meth c H1 locs (cells + 1) (slots + 6) Q { g with pc := hp_, stack := [.ref x] }) : W p l e R s m args below meth c H locs cells slots Q g := by
  obtain ⟨⟨hrc, hrs, hfr, hlo, hws, hcw, hcode, hini, hy, hlen, hlink⟩, hinst, hsel⟩ := cw
  obtain ⟨hexec, hb, hml, hown, -⟩ := S
  obtain ⟨hbl, ⟨cellB, hcell, hobj, hcls⟩, hPc⟩ := hp
  intro T hT X
  subst hT
  obtain ⟨mk, methM, hnamed, hmethM, hstM, habM⟩ := Cond.instanceMethod_spec hinst
  obtain ⟨methM', cM, hmethM', -, -, -, -, -, -, hsigM⟩ := Cond.code_spec hnamed hcode
  cases hmethM.symm.trans hmethM'
  obtain ⟨c2, r2, m2, q1, q2, q3, q4, kP, hkP, hkPi⟩ := Cond.selects_spec hsel
  cases hcls.symm.trans q1
  cases (State.methodFound?_of_named hnamed hy).symm.trans q2
  cases hnamed.symm.trans q3
  have hselP : selectMethod e.platform s.vm cellB.cls mk = .method mk := by rw [Launch.admits_selectMethod X.admits]; exact q4
  have hdg' : decode c.code g.pc = .ok (.invokevirtual index, 3) := by rw [hb]; exact hdg
  obtain ⟨vm₁, X₁, hstep₁⟩ := X.invokevirtual hexec hown hlink hnamed hmethM hstM hkP hkPi hy (a := b) (cell := cellB) hcell
    (fun z h => by rw [h] at hobj; cases hobj) hselP hmethM habM hkP hkPi (g := g) hg (argsL := As) (rest := rest) (hn.trans (hlen _ hsigM)) hstack hdg'
  obtain ⟨x, T₂, X₂, hx, ⟨ce, hce, hcc, hcs, hca⟩, hW₂, hsz, hkeep, hst⟩ := backT hM hbl hrc hrs hfr hlo hws hcw (fun a' U hW => word_at hW (Or.inl (by first | rfl | simp [Cond.onTables, Cond.keeps, Cond.steady])) hini) (g := { g with stack := rest }) X₁ hg (hsize.trans hml.symm) hdg' hW (X₁.named hnamed) hf.1 hf.2 (hPc (T.setVm vm₁) rfl X₁.warmed)
  have hpl : e.platform.magicAccessors = ({} : Platform).magicAccessors := by rw [X.admits.platform]
  obtain ⟨cT, hcT, hcl⟩ := Cond.classLink_spec hown hclink e.platform hpl
  obtain ⟨dk, _, _, kt, hd, _, _, _, _, hkt, _, hopen⟩ := hcl.here
  have hcl₀ := X₂.warmed.classLinks hcl
  have hW' : s.WarmedH (T₂.vm.noted m.cls ci (.cls cT)) := X₂.warmed.noted hd hopen (State.rightAt_cls hcl)
  obtain ⟨kt', hkt', -⟩ := hW'.alike.2.2 _ _ hkt
  have hf1 : s.vm.findClass RJx00060 = some ce.cls := by
    have h9 : (T.setVm vm₁).vm.findClass RJx00060 = some ce.cls := hcc
    rw [X₁.warmed.alike.findClass] at h9
    exact h9
  have hcc2 : ce.cls = cT := Option.some.inj (hf1.symm.trans hcT)
  have hasg : (T₂.vm.noted m.cls ci (.cls cT)).assignable ce.cls cT = true := by
    rw [hW'.alike.assignable, ← hcc2]
    have h9 : (T.setVm vm₁).vm.assignable ce.cls ce.cls = true := hca
    rw [X₁.warmed.alike.assignable] at h9
    exact h9
  obtain ⟨t, a1, b1⟩ := kk x T₂.heap hx hsz hkeep (T₂.setVm (T₂.vm.noted m.cls ci (.cls cT))) rfl (X₂.noted hW')
  refine ⟨t, hstep₁ _ fun acts => ?_, b1⟩
  rw [doInvoke_state]
  refine hst.trans ?_
  subst hg
  refine Steps_caughtV (g := { g with stack := rest }) X₂.here (pc := hp_) (vm' := T₂.vm.noted g.method.cls ci (.cls cT)) ?_ a1
  intro Q2 E2 d2 acts2
  have hvm : (((T₂.setTop { g with stack := rest }).pushFrame (.throwing x))).vm = T₂.vm := throwing_vm T₂ _ x
  have hhp2 : (((T₂.setTop { g with stack := rest }).pushFrame (.throwing x))).heap = T₂.heap := throwing_heap T₂ _ x
  rw [Jvm.W.findHandler_eq (meth := meth) (code := c) (by rw [hvm]; exact X₂.method') X.code, htab]
  have := fh_cold (e := e) (s := (T₂.setTop { g with stack := rest }).pushFrame (.throwing x)) (f := { g with stack := rest }) (a := x) (Q := Q2) (E := E2) (d := d2) (acts := acts2) (x := xe) (t := xr) (c := cT) (vm' := T₂.vm.noted g.method.cls ci (.cls cT)) (cell := ce) hcov (by rw [hct]; exact hci) (by rw [hvm, hct]; exact resolveClass_links e.toSetting hcl₀) (by rw [hvm, Vm.size_noted]; exact Nat.le_refl _) (by rw [hhp2]; exact hce) hcs ⟨kt', by rw [hcc2]; exact hkt'⟩ ⟨kt', hkt'⟩ hasg
  rw [this, hhp]
end CT
-- ===== a static call of a method that has a table of handlers =====
section CSW
variable {p : Program} {l : Launch} {e : Env} {R : Room} {s : State} {m : MethodId} {args : Array Value} {below : List Frame} {meth : Method} {c : Code} {H : Heap} {locs : List Loc} {cells slots : Nat} {Q : State → Prop}
theorem va_runSW {y : MethodName} {bytes cc : ByteArray} {maxL nL mc ms n index : Nat} {ret : Option FieldType} {hh : List (Nat × Nat × Nat × Nat)} {ws : List Cond} {rm : Room} {Pc : Array Value → State → Prop} {Qc : Array Value → State → Outcome → State → Prop} {free : Addr → Prop} {Ts : List Cond} {own : String} {As rest : List Value} {g : JFrame}
    (S : CallFix p m c cc nL s args Ts own) (hM : Met l y ws rm Pc Qc mc ms free) (hrc : rm.cells = mc) (hrs : rm.slots = ms) (hfr : rm.frames + 1 ≤ R.frames) (hlo : 8 + (maxL + 11) + rm.locals ≤ R.locals) (hws : ∀ w ∈ ws, ∀ (a' : Array Value) (U : State), s.WarmedH U.vm → w.before a' U = true) (hcw : Cond.codeWith y bytes maxL ret hh ∈ ws)
    (hini : (Cond.initialized y.cls).before args s = true) (hy : y.cls ≠ "java/lang/invoke/MethodHandle" ∧ y.cls ≠ "java/lang/invoke/VarHandle" ∧ (parseMethodDescriptor y.desc).map (fun d => d.parameters.length) = some n) (hl : (Cond.methodLink own index y).before args s = true) (hstt : (Cond.static y).before args s = true) (hp : PreS s H Pc As)
    (hg : g.method = m) (hn : As.length = n) (hsize : g.locals.size = nL) (hstack : g.stack = As.reverse ++ rest) (hW : 2 * g.monitorRoom + (rest.map fun v => v.category).sum ≤ 8) (hdg : decode cc g.pc = .ok (.invokestatic index, 3)) (hf : cells + mc ≤ R.cells ∧ slots + ms ≤ R.slots) :
    va_Run p l e R s m args below meth c H locs cells slots mc ms g rest (Qc As.toArray) (free) := by
  have hK : Back l R p e below s args y 3 8 (PreOf R mc ms Pc) (PostOf Qc mc ms free) := va_backW (bytes := bytes) (maxL := maxL) (ret := ret) (hh := hh) hM hp.1 hrc hrs hfr hlo hws hcw (fun a' U hW => word_at hW (Or.inl (by first | rfl | simp [Cond.onTables, Cond.keeps, Cond.steady])) hini)
  obtain ⟨hexec, hb, hml, hown, -⟩ := S
  intro T hT X
  have hcode : (Cond.codeWith y bytes maxL ret hh).before args s = true := hws _ hcw args s (State.WarmedH.refl s)
  obtain ⟨mk, methM, cM, hnamed, hmethM, -, -, -, -, -, -, hsigM⟩ := Cond.codeWith_spec hcode
  have hstatic : methM.isStatic = true := Cond.static_spec hnamed hmethM hstt
  obtain ⟨kP, hkP, -⟩ := className_of_methodNamed hnamed
  have hinitP : kP.init = .initialized := Cond.initialized_spec (findClass_of_methodNamed hnamed) hkP hini
  have hlen : As.length = methM.sig.parameters.length := by
    have h2 := hy.2.2
    rw [hsigM] at h2
    rw [hn]
    exact (Option.some.inj h2).symm
  obtain ⟨vm₁, X₁, hstep₁⟩ := X.invokestatic hexec hown hl hnamed hmethM hstatic hkP hinitP ⟨hy.1, hy.2.1⟩ (g := g) hg (argsL := As) (rest := rest) hlen hstack (by rw [hb]; exact hdg)
  obtain ⟨v, ⟨U', l2, c2, s2⟩, X', ⟨g', mk', t, L, e1, e2, hq, h1, hL, h2, h3⟩, hsteps⟩ := hK m meth c ⟨T.setVm vm₁, locs, cells, slots⟩ { g with stack := rest } (.invokestatic index) mk As.toArray X₁ hg (hsize.trans hml.symm) (by rw [hb]; exact hdg) hW (X₁.named hnamed) ⟨hf.1, hf.2, hp.2 (T.setVm vm₁) hT X₁.warmed⟩
  dsimp only [Pt.U, Pt.locs, Pt.cells, Pt.slots] at X' e1 e2 h1 h2 h3 hsteps
  subst h1; subst h2; subst h3
  exact ⟨v, (T.setVm vm₁).calling g' mk' As.toArray, t, U', L, hT, X', hL, e1, e2, hq, fun target h => hstep₁ _ fun acts => by rw [doInvoke_state]; exact hsteps.trans h⟩
end CSW

-- ===== what a throw of the class's own needs =====
def thN : List String := ["java/lang/IndexOutOfBoundsException", "java/lang/RuntimeException", "java/lang/Exception"]
def thT : String := "java/lang/Throwable"
def thS : String := "[Ljava/lang/StackTraceElement;"
def thL : String := "Ljava/util/List;"
def notRef : Cond → Bool
  | .isRef _ => false
  | _ => true
def thW : List Cond := (Jvm.Bundle.ownAtoms RX6 140 RJx00060 thN).filter notRef
def thB (w : Cond) : Bool := match w with
  | .castable _ _ => true
  | .declares _ => true
  | .laysStatic _ _ _ => true
  | w => goodWord w
theorem thW_ok : thW.all thB = true := by decide +kernel
theorem thW_ref : ∀ w ∈ Jvm.Bundle.ownAtoms RX6 140 RJx00060 thN, notRef w = true ∨ w = .isRef (.static thT "UNASSIGNED_STACK" thS) ∨ w = .isRef (.static thT "SUPPRESSED_SENTINEL" thL) := by decide +kernel
def TH (U : State) : Prop := (∀ w ∈ thW, ∀ A : Array Value, w.before A U = true) ∧ va_Zq thT "UNASSIGNED_STACK" thS (fun _ => False) U U.heap ∧ va_Zq thT "SUPPRESSED_SENTINEL" thL (fun _ => False) U U.heap ∧ ∃ q, vk_R RX6 138 "no such place" q U
theorem castable_warm {a b : String} {s U : State} (hW : s.WarmedH U.vm) {A A' : Array Value} (h : (Cond.castable a b).before A s = true) : (Cond.castable a b).before A' U = true := by
  have h1 : (Cond.castable a b).before A (s.setVm U.vm) = true := Cond.before_shiftedFace (State.Shifted.of_warmed hW) _ rfl h
  exact va_tabs rfl (rfl : (s.setVm U.vm).vm = U.vm) h1
theorem laysS_move {o n d : String} {s U : State} (hW : s.WarmedH U.vm) (hk : ∀ q : Nat, q < s.heap.size → U.heap[q]? = s.heap[q]?) {A A' : Array Value} (h : (Cond.laysStatic o n d).before A s = true) : (Cond.laysStatic o n d).before A' U = true := by
  have h1 : (Cond.laysStatic o n d).before A' (s.setVm U.vm) = true := Cond.laysStatic_setVm hW.alike (h : (Cond.laysStatic o n d).before A' s = true)
  obtain ⟨c, k, i, f, a, cell, hc, hi, hst, ha, hcell, hs, hcls, hlt, hty⟩ := Cond.laysStatic_spec h1
  have hcell' : s.heap[a]? = some cell := hcell
  exact Cond.laysStatic_of (s := U) hc hi hst ha (by rw [hk a (Array.getElem?_eq_some_iff.mp hcell').1]; exact hcell') hs hcls hlt hty
theorem TH.move {s U : State} (hW : s.WarmedH U.vm) (hk : ∀ q : Nat, q < s.heap.size → U.heap[q]? = s.heap[q]?) (h : TH s) : TH U := by
  obtain ⟨h1, h2, h3, q, h4⟩ := h
  refine ⟨fun w hw A => ?_, ?_, ?_, q, h4.warm hW⟩
  · have hb := List.all_eq_true.mp thW_ok w hw
    have hs := h1 w hw #[]
    clear hw
    cases w with
    | castable a b => exact castable_warm hW hs
    | declares y => exact va_Nw.use rfl (va_Nw.warmD hW (va_Nw.of rfl hs))
    | laysStatic o n d => exact laysS_move hW hk hs
    | _ => exact word_at hW (good_of_word hb) hs
  · exact (va_Zq.moved hW.alike h2).kept (fun a ha _ => hk a ha)
  · exact (va_Zq.moved hW.alike h3).kept (fun a ha _ => hk a ha)
theorem Z_isRef {C n d : String} {A : Nat → Prop} {U : State} {args : Array Value} (h : va_Zq C n d A U U.heap) : (Cond.isRef (.static C n d)).before args U = true := by
  rcases h with ⟨cf, kf, fi, f, a, cell, h1, h2, h3, h4, h5, h6, h7, h8⟩ | ⟨t, cf, kf, fi, f, a, cell, h1, h2, h3, h4, h5, h6, h7, h8⟩
  · simp [Cond.before, Cond.holds, Cond.value, Term.eval, State.fieldNamed?, h1, h2, h4, h5, h6, h7]
  · simp [Cond.before, Cond.holds, Cond.value, Term.eval, State.fieldNamed?, h1, h2, h4, h5, h6, h7]
theorem TH.own {U : State} (h : TH U) (A : Array Value) : ∀ w ∈ Jvm.Bundle.ownAtoms RX6 140 RJx00060 thN, w.before A U = true := by
  intro w hw
  rcases thW_ref w hw with c | rfl | rfl
  · exact h.1 w (List.mem_filter.mpr ⟨hw, c⟩) A
  · exact Z_isRef h.2.1
  · exact Z_isRef h.2.2.1
theorem TH.same {u U : State} (e : u.vm = U.vm) (hh : u.heap = U.heap) (h : TH u) : TH U := by
  refine TH.move (s := u) (U := U) ?_ (fun q _ => by rw [hh]) h
  rw [← e]
  exact State.WarmedH.refl u
def pcT (dC : Nat → ClassId) (dI : Nat → Nat → Nat) (cI cJ : ClassId) (sz : Nat) (w : va_W) (U : State) : Prop := pcW dC dI cI cJ sz w U ∧ TH U
theorem pcT_blind {dC : Nat → ClassId} {dI : Nat → Nat → Nat} {cI cJ : ClassId} {sz : Nat} {w : va_W} {av : List Value} : FrameBlind (va_Pc av (pcT dC dI cI cJ sz w)) := fun a U g mk q => by
  obtain ⟨q0, q1, q2⟩ := q
  obtain ⟨r0, r1⟩ := pcW_blind (dC := dC) (dI := dI) (cI := cI) (cJ := cJ) (sz := sz) (w := w) (av := av) a U g mk ⟨q0, q1⟩
  exact ⟨r0, r1, TH.same (u := U) (U := U.calling g mk a) rfl rfl q2⟩
theorem pcT_pre {dC : Nat → ClassId} {dI : Nat → Nat → Nat} {cI cJ : ClassId} {w : va_W} {A : Nat → Prop} {s : State} {H : Heap} {av : List Value} (hP : va_P (dC, dI) vwCl w H) (hK : va_K (dC, dI) vwCl [(cI, .int), (cJ, .long)] s) (hD : va_D A w) (hN : NW s) (hT : TH s) (hk : ∀ q : Nat, q < s.heap.size → H[q]? = s.heap[q]?) : ∀ U : State, U.heap = H → s.WarmedH U.vm → va_Pc av (pcT dC dI cI cJ H.size w) av.toArray U := fun U hU hW =>
  ⟨rfl, (pcW_pre (av := av) hP hK hD hN U hU hW).2, hT.move hW (fun q hq => by rw [hU]; exact hk q hq)⟩
set_option maxHeartbeats 4000000 in
set_option maxRecDepth 100000 in
theorem c_spreadT (l : Launch) (hfl : l.flags = pinnedFlags ++ [noTraceFlag]) (dC : Nat → ClassId) (dI : Nat → Nat → Nat) (cI cJ : ClassId) (aX : Nat) (jX : Nat → Nat) (aS : Nat) (jS : Nat → Nat) (aL aW aR aO : Nat) (sz : Nat) (uX uS : OS) (p1 : Int32) (hbad : p1 < (0 : Int32) ∨ ¬ p1 < (uS.1 1)) : MetT l yX6_spread (wq yX6_spread cX6_spread 2 (some .int)) ({ frames := 7, cells := 1, slots := 6, locals := 95 } : Room) (va_Pc [.ref aX, .int p1] (pcT dC dI cI cJ sz ([wX cI cJ aX jX aL aS aW aR aO uX, wS cI cJ aS jS uS] : List va_W).flatten)) := by
  refine MetT.ofW (cc := cX6_spread) (maxL := 2) (ret := (some .int)) (by decide) rfl ?_
  intro p e s m args below meth c s₁ B hml hv
  obtain ⟨rfl, ⟨hsz, hP, hK, hD0, hN⟩, hTH⟩ := hv
  have hx := B.exec
  have hb := B.bytes
  have hr := B.returns
  have ht : ∀ w ∈ lw_good, w.before _ s = true := fun w h => atoms_spec (ws := wq yX6_spread cX6_spread 2 (some .int)) B.pre w (wq_mem h)
  have hcw : (Cond.code yX6_spread cX6_spread 2 (some .int)).before _ s = true := atoms_spec (ws := wq yX6_spread cX6_spread 2 (some .int)) B.pre _ List.mem_cons_self
  have hown : s.vm.findClass RX6 = some m.cls := findClass_of_methodNamed B.named
  have hlocks := B.notSynchronized
  have hempty : c.exceptionTable.toList = [] := by
    obtain ⟨meth', c', hm', hc', -, -, -, -, hemp, -⟩ := Cond.code_spec B.named hcw
    have e1 : meth = meth' := Option.some.inj (B.method.symm.trans hm')
    subst e1
    have e2 : c = c' := by
      have X := Stand.of_body B
      exact Option.some.inj (X.code.symm.trans hc')
    subst e2
    have h0 : c.exceptionTable.size = 0 := by simpa [Array.isEmpty] using hemp
    exact List.eq_nil_of_length_eq_zero (by simpa using h0)
  have hl := lv_entry ([.ref aX, .int p1]) (n := 2) (Nat.le_of_ble_eq_true rfl)
  rw [lg_entry_eq]
  generalize (lg_sl ([.ref aX, .int p1]) ++ List.replicate (2 - (lg_sl ([.ref aX, .int p1])).length) Slot.unset).toArray = ls at hl ⊢
  have hl : lv_has ls 2 [(0, .ref aX), (1, .int p1)] := hl
  obtain ⟨q, hq⟩ := hTH.2.2.2
  generalize hQ : (fun t => ∃ o, t.status = .running ∧ Ended t below o ∧ qT ([.ref aX, .int p1] : List Value).toArray s o t) = Q
  have key : W p l e ({ frames := 7, cells := 1, slots := 6, locals := 95 } : Room) s m ([.ref aX, .int p1] : List Value).toArray below meth c s.heap [] 0 0 Q (F0 m 15 ls []) := by
    refine W.newc hx hb hown (ht _ kw_cl136) (ht _ kw_inE) (ht _ kw_iniE) rfl dX6_spread_15 (Nat.le_refl 1) (Nat.le_refl 6) (fun cC kC h1 h2 h3 h4 => ?_)
    refine W.eq (g2 := F0 m 18 ls [.ref s.heap.size]) rfl ?_
    refine lv_dup hx hb dX6_spread_18 rfl ?_
    refine va_ldcS hx hb hown hq dX6_spread_19 ?_
    intro T hT X
    have htr : e.platform.stackTraces = false := Launch.traces_off hfl X.admits
    obtain ⟨U, g1, g2, g3, g4, g5, ce, g6, g7⟩ := X.ctorThrowS hx htr (own := RX6) (cls := RJx00060) (names := thN) (ic := 140) hown (by decide +kernel) (by decide +kernel) (hTH.own _) (fun x hx => by cases hx) (a := s.heap.size) (cX := cC) (kX := kC) h1 h2 (by rw [hT]; simp [freshCell]) (Nat.le_refl _) (msg := .ref q) rfl (g := F0 m 21 ls [.ref q, .ref s.heap.size, .ref s.heap.size]) rfl (by rw [hml]; exact hl.1) rfl rfl (rest := []) rfl (by rw [hb]; exact dX6_spread_21) (by rw [hb]; exact dX6_spread_24) (fun x hx => by rw [hempty] at hx; cases hx) (by show thN.length + 3 < 7; decide) (by show 2 * 0 + 1 + (13 * (thN.length + 1) + 42) ≤ 95; decide)
    rw [← hQ]
    exact ⟨U, g1, .threw s.heap.size, g2, g3, s.heap.size, rfl, Nat.le_refl _, ⟨ce, g6, g7.cls, (fun k ek => by rw [g7.vm] at ek; cases ek), g7.self⟩, g4, g5⟩
  show W p l e ({ frames := 7, cells := 1, slots := 6, locals := 95 } : Room) s m ([.ref aX, .int p1] : List Value).toArray below meth c s.heap [] 0 0 Q (F0 m 0 ls [])
  refine lv_iload_n hx hb dX6_spread_0 rfl (lv_at hl 1 rfl) ?_
  refine lv_if_lt (tgt := 15) hx hb dX6_spread_1 (by decide) (fun c1 => key) (fun c1 => ?_)
  refine lv_iload_n hx hb dX6_spread_4 rfl (lv_at hl 1 rfl) ?_
  refine lv_aload_n hx hb dX6_spread_5 rfl (lv_at hl 0 rfl) ?_
  refine va_get (D := (dC, dI)) (ci := 7) (v := .ref aS) (C := RX6) (T := TX6) (N := 10) hx hb ht inX6 hown hK hP 0 rfl rfl 1 (by decide) (ht _ kw_x630) (fun _ h9 => h9) rfl dX6_spread_6 ?_
  refine va_getN (D := (dC, dI)) (ci := 5) (v := .int (uS.1 1)) (C := RX4) (T := TX4) (N := 11) hx hb ht inX4 hown hK hP 3 rfl rfl 1 (by decide) (va_Nw.use rfl (hN _ kn_108)) (fun _ h9 => h9) rfl dX6_spread_9 ?_
  refine lv_icmp_lt (tgt := 25) hx hb dX6_spread_12 (by decide) (fun c2 => ?_) (fun c2 => key)
  exact absurd hbad (fun h => h.elim c1 (fun h2 => h2 c2))
