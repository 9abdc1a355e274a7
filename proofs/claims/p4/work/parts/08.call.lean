/-! a call of a method that may throw, and its catching -/
section XCALL
variable {p : Program} {l : Launch} {e : Env} {R : Room} {s : State} {m : MethodId} {args : Array Value} {below : List Frame} {meth : Method} {c : Code} {locs : List Loc} {cells slots : Nat} {Q : State → Prop} {H : Heap}
theorem x_call0 {y : MethodName} {ws : List Cond} {rm : Room} {Pc : Array Value → State → Prop} {Qc : Array Value → State → Outcome → State → Prop} {XC : String → State → State → Prop} {mc ms n index maxL : Nat} {free : Addr → Prop} {own : String} {bytes : ByteArray} {ret : Option FieldType}
    (hM : xMet l y ws rm Pc Qc XC mc ms free) (cb : CallB R s args own index y bytes maxL ret ws rm mc ms n) (hbl : FrameBlind Pc)
    {U : State} (X : Stand p l e R s m args below meth c U locs cells slots) {g : JFrame} {ig : Instr} (hg : g.method = m) (hsize : g.locals.size = c.maxLocals) (hdg : decode c.code g.pc = .ok (ig, 3))
    (hW8 : 2 * g.monitorRoom + (g.stack.map fun v => v.category).sum ≤ 8) {mk : MethodId} {a : Array Value} (hn : U.methodNamed? y = some mk) (hPc : Pc a U) (hf : cells + mc ≤ R.cells ∧ slots + ms ≤ R.slots) :
    ∃ (T' t : State) (L : List Loc), Stand p l e R s m args below meth c T' (locs ++ L) (cells + mc) (slots + ms) ∧ T'.heap = t.heap ∧ (∀ q ∈ L, free q.base) ∧ U.WarmedH t.vm ∧
      ((∃ v, Qc a (U.calling g mk a) (.returned v) t ∧ Steps p.tables e below (doInvoke e (U.setTop g) [] mk a).1 (T'.setTop { g with pc := g.pc + 3, stack := v.toList ++ g.stack })) ∨
       ∃ q E ce, XC E (U.calling g mk a) t ∧ t.heap[q]? = some ce ∧ ce.vm = .none ∧ U.vm.findClass E = some ce.cls ∧ Steps p.tables e below (doInvoke e (U.setTop g) [] mk a).1 ((T'.setTop g).pushFrame (.throwing q))) := by
  obtain ⟨hrc, hrs, hfr, hlo, hws, hcw, -, hini, -, -, -⟩ := cb
  have hA : At U g.method c below := by rw [hg]; exact X.here
  have h2 : (Cond.code y bytes maxL ret).before a U = true := hws _ hcw _ _ X.warmed
  have h3 : (Cond.initialized y.cls).before a U = true := word_at X.warmed (Or.inl (by first | rfl | simp [Cond.onTables, Cond.keeps, Cond.steady])) hini
  obtain ⟨methY, cY, hmY, hcY, -, hlY, -, -, -, -⟩ := Cond.code_spec hn h2
  obtain ⟨kY, hkY, -⟩ := className_of_methodNamed hn
  have hinitY : kY.init = .initialized := Cond.initialized_spec (findClass_of_methodNamed hn) hkY h3
  have hlo' : 8 + (maxL + 11) + (headSpec ws rm).room.locals ≤ R.locals := hlo
  have happ : (headSpec ws rm).appliesLoose y e.platform (U.calling g mk a) = true :=
    Spec.appliesLoose_calling (g := g) hA hdg hn hkY hinitY
      (X.room_calling (g := g) (R' := (headSpec ws rm).room) hsize hmY hcY hfr (by rw [hlY]; omega) (by rw [show (headSpec ws rm).room.cells = mc from hrc]; exact hf.1) (by rw [show (headSpec ws rm).room.slots = ms from hrs]; exact hf.2)) (atoms_intro fun w hw => hws w hw _ _ X.warmed)
  obtain ⟨mid, hmid⟩ := hA.above
  have hfr2 : (U.setTop g).frames = (.java g :: mid) ++ below := by rw [State.frames_setTop' g hA.top, hmid]; rfl
  obtain ⟨o, s₂, hsteps, -, hend, hq⟩ := Steps.callFree hM p X.admits X.cas X.clock (acts := []) hfr2 happ (hbl _ _ _ _ hPc) trivial
  have hq' : xQ Qc XC mc ms free a (U.calling g mk a) o s₂ := hq
  rw [State.frames_setTop' g hA.top] at hend
  obtain ⟨g₀, hg0⟩ := Option.isSome_iff_exists.mp hA.top
  obtain ⟨r, hr⟩ := State.topJava?_eq_some.mp hg0
  obtain ⟨t0, ht0, -⟩ := State.frames_cons hr
  have key : ∀ L : List Loc, (U.calling g mk a).WarmedH s₂.vm → (U.calling g mk a).sameButNew ({ s₂ with vm := (U.calling g mk a).vm } : State) L mc ms →
      s₂ = (({ U with heap := s₂.heap, slotsUsed := s₂.slotsUsed } : State).setVm s₂.vm).setFrames s₂.frames ∧ Stand p l e R s m args below meth c (({ U with heap := s₂.heap, slotsUsed := s₂.slotsUsed } : State).setVm s₂.vm) (locs ++ L) (cells + mc) (slots + ms) := by
    intro L hW₂ hsm
    obtain ⟨e2, q2, q3, q4, q5, q6⟩ := hsm
    have hW' : U.WarmedH s₂.vm := hW₂
    refine ⟨?_, ?_⟩
    · have e3 : s₂ = ({ s₂ with vm := (U.calling g mk a).vm } : State).setVm s₂.vm := rfl
      rw [e2] at e3
      rw [State.calling_eq hA.top, State.setFrames_setFrames] at e3
      exact e3
    · have hsame : U.sameButNew ({ U with heap := s₂.heap, slotsUsed := s₂.slotsUsed } : State) L mc ms := by
        refine ⟨?_, q2, q3, q4, q5, q6⟩
        show ({ U with heap := s₂.heap, slotsUsed := s₂.slotsUsed } : State) = { U.setFrames U.frames with heap := s₂.heap, slotsUsed := s₂.slotsUsed }
        rw [State.setFrames_self ht0]
      exact ⟨X.admits, X.cas, X.clock, X.frames, X.room, X.hears, X.method, X.code, (X.here.setHeapUsed s₂.heap s₂.slotsUsed).setVm hW'.alike, X.tail, State.WarmedH.trans X.warmed hW', X.limits, X.bytes, X.same.trans (hsame.setVm s.vm)⟩
  have hr' : (({ U with heap := s₂.heap, slotsUsed := s₂.slotsUsed } : State).setVm s₂.vm).frames = .java g₀ :: r := hr
  rcases hq' with ⟨hqc, L, hfe, hL⟩ | ⟨q, E, ce, L, rfl, hx, hce, hcv, hcl, hW₂, hsm, hL⟩
  · obtain ⟨⟨v, rfl⟩, hW₂, hsm⟩ := hfe
    obtain ⟨e3, X'⟩ := key L hW₂ hsm
    obtain ⟨c₂, i₂, len₂, hc₂, hd₂, hf₂⟩ := hend
    have hW' : U.WarmedH s₂.vm := hW₂
    have hcc : c₂ = c := by
      have h1 : s₂.code? g.method = U.code? g.method := by rw [State.code?_eq, State.code?_eq, hW'.alike.method?]
      exact Option.some.inj (hc₂.symm.trans (h1.trans hA.code))
    subst hcc
    have hlen : len₂ = 3 := by rw [hdg] at hd₂; cases hd₂; rfl
    subst hlen
    refine ⟨_, s₂, L, X', rfl, hL, hW', Or.inl ⟨v, hqc, ?_⟩⟩
    have e4 : s₂ = (({ U with heap := s₂.heap, slotsUsed := s₂.slotsUsed } : State).setVm s₂.vm).setTop { g with pc := g.pc + 3, stack := v.toList ++ g.stack } := by
      rw [State.setTop_of_frames _ hr']
      refine e3.trans ?_
      rw [hf₂, hr]
      rfl
    rw [← e4]
    exact hsteps
  · obtain ⟨e3, X'⟩ := key L hW₂ hsm
    have hf₂ : s₂.frames = .throwing q :: .java g :: U.frames.tail := hend
    refine ⟨_, s₂, L, X', rfl, hL, hW₂, Or.inr ⟨q, E, ce, hx, hce, hcv, hcl, ?_⟩⟩
    have e4 : s₂ = ((({ U with heap := s₂.heap, slotsUsed := s₂.slotsUsed } : State).setVm s₂.vm).setTop g).pushFrame (.throwing q) := by
      rw [State.pushFrame, State.frames_setTop _ hr', State.setTop_of_frames _ hr', State.setFrames_setFrames]
      refine e3.trans ?_
      rw [hf₂, hr]
      rfl
    rw [← e4]
    exact hsteps
/-- invokevirtual of such a method -/
theorem x_callV {y : MethodName} {bytes cc : ByteArray} {maxL nL mc ms n index : Nat} {ret : Option FieldType} {ws : List Cond} {rm : Room} {Pc : Array Value → State → Prop} {Qc : Array Value → State → Outcome → State → Prop} {XC : String → State → State → Prop} {free : Addr → Prop} {Ts : List Cond} {own C : String} {b : Addr} {As rest : List Value} {g : JFrame}
    (S : CallFix p m c cc nL s args Ts own) (hM : xMet l y ws rm Pc Qc XC mc ms free) (cw : CallW R s args own C index y bytes maxL ret ws rm mc ms n) (hp : PreV s H C b Pc As)
    (hg : g.method = m) (hn : As.length = n) (hsize : g.locals.size = nL) (hstack : g.stack = As.reverse ++ .ref b :: rest) (hW8 : 2 * g.monitorRoom + (rest.map fun v => v.category).sum ≤ 8) (hdg : decode cc g.pc = .ok (.invokevirtual index, 3)) (hf : cells + mc ≤ R.cells ∧ slots + ms ≤ R.slots)
    (kR : ∀ (v : Option Value) (st t T' : State) (L : List Loc), st.heap = H → s.vm.Alike t.vm → T'.heap = t.heap → Stand p l e R s m args below meth c T' (locs ++ L) (cells + mc) (slots + ms) → (∀ q ∈ L, free q.base) → Qc (Value.ref b :: As).toArray st (.returned v) t → ∃ z, Steps p.tables e below (T'.setTop { g with pc := g.pc + 3, stack := v.toList ++ rest }) z ∧ Q z)
    (kX : ∀ (q : Addr) (E : String) (ce : Cell) (st t T' : State) (L : List Loc), st.heap = H → s.vm.Alike t.vm → T'.heap = t.heap → Stand p l e R s m args below meth c T' (locs ++ L) (cells + mc) (slots + ms) → (∀ z ∈ L, free z.base) → XC E st t → t.heap[q]? = some ce → ce.vm = .none → s.vm.findClass E = some ce.cls → ∃ z, Steps p.tables e below ((T'.setTop { g with stack := rest }).pushFrame (.throwing q)) z ∧ Q z) :
    W p l e R s m args below meth c H locs cells slots Q g := by
  intro T hT X
  have cw1 := cw.1
  obtain ⟨⟨-, -, -, -, -, -, hcode, hini, hy, hlen, hl⟩, hin, hse⟩ := cw
  obtain ⟨hx, hb, hml, ho, -⟩ := S
  obtain ⟨hbl, ⟨cellB, hcB, hoB, hclB⟩, hPc⟩ := hp
  obtain ⟨mk, methM, hnamed, hmethM, hstM, habM⟩ := Cond.instanceMethod_spec hin
  obtain ⟨methM', cM, hmethM', -, -, -, -, -, -, hsigM⟩ := Cond.code_spec hnamed hcode
  cases hmethM.symm.trans hmethM'
  obtain ⟨c2, r2, m2, q1, q2, q3, q4, kP, hkP, hkPi⟩ := Cond.selects_spec hse
  cases hclB.symm.trans q1
  cases (State.methodFound?_of_named hnamed hy).symm.trans q2
  cases hnamed.symm.trans q3
  have hselP : selectMethod e.platform s.vm cellB.cls mk = .method mk := by rw [Launch.admits_selectMethod X.admits]; exact q4
  obtain ⟨vm₁, X₁, hstep₁⟩ := X.invokevirtual hx ho hl hnamed hmethM hstM hkP hkPi hy (a := b) (cell := cellB) (by rw [hT]; exact hcB)
    (fun z h => by rw [h] at hoB; cases hoB) hselP hmethM habM hkP hkPi (g := g) hg (argsL := As) (rest := rest) (hn.trans (hlen _ hsigM)) hstack (by rw [hb]; exact hdg)
  obtain ⟨T', t, L, X', hh, hL, hWt, hor⟩ := x_call0 hM cw1 hbl X₁ (g := { g with stack := rest }) (ig := .invokevirtual index) hg (hsize.trans hml.symm) (by rw [hb]; exact hdg) hW8 (X₁.named hnamed) (hPc (T.setVm vm₁) hT X₁.warmed) hf
  have hal : s.vm.Alike t.vm := X₁.warmed.alike.trans hWt.alike
  rcases hor with ⟨v, hq, hst⟩ | ⟨q, E, ce, hx9, hce, hcv, hcl, hst⟩
  · obtain ⟨z, hz, hQ⟩ := kR v ((T.setVm vm₁).calling { g with stack := rest } mk (Value.ref b :: As).toArray) t T' L hT hal hh X' hL hq
    exact ⟨z, hstep₁ _ fun acts => by rw [doInvoke_state]; exact hst.trans hz, hQ⟩
  · have hcl' : s.vm.findClass E = some ce.cls := by
      have h9 : (T.setVm vm₁).vm.findClass E = some ce.cls := hcl
      rw [X₁.warmed.alike.findClass] at h9
      exact h9
    obtain ⟨z, hz, hQ⟩ := kX q E ce ((T.setVm vm₁).calling { g with stack := rest } mk (Value.ref b :: As).toArray) t T' L hT hal hh X' hL hx9 hce hcv hcl'
    exact ⟨z, hstep₁ _ fun acts => by rw [doInvoke_state]; exact hst.trans hz, hQ⟩
end XCALL
section XCATCH
/-- one entry of the table that covers the place, its class linked, cold or warm -/
theorem x_go {Q : Handler → Pre} {E : CtlPost} {e : Env} {d : Bool} {acts : List Action} {S0 : State} {f : JFrame} {a : Addr} {x : ExceptionTableEntry} {t : List ExceptionTableEntry} {cx : ClassId} {cell : Cell} (hx : covers x f.pc = true) (h0 : x.catchType ≠ 0)
    (hl : S0.vm.ClassLinks e.platform f.method.cls x.catchType cx) (hcell : S0.heap[a]? = some cell) (hobj : ∀ k, cell.vm ≠ .statics k) (hk : ∃ k, S0.vm.classes[cell.cls]? = some k) (hc : ∃ k, S0.vm.classes[cx]? = some k) :
    wp (findHandler.go f a (x :: t)) Q E e d acts S0 ↔ if S0.vm.assignable cell.cls cx = true then Q (.found x.handlerPc) d acts (S0.setVm (S0.vm.noted f.method.cls x.catchType (.cls cx))) else wp (findHandler.go f a t) Q E e d acts (S0.setVm (S0.vm.noted f.method.cls x.catchType (.cls cx))) := by
  simp only [covers] at hx
  obtain ⟨ha, ht⟩ := (resolveClass_links e.toSetting hl).op (op := VmOp.resolveClass f.method.cls x.catchType) rfl
  have hal : S0.vm.Alike (S0.vm.noted f.method.cls x.catchType (.cls cx)) := (Vm.Alike.refl S0.vm).noted _ _ _
  obtain ⟨k1, hk1⟩ := hk
  obtain ⟨k2, hk2⟩ := hc
  obtain ⟨k1', hk1', -⟩ := hal.2.2 _ _ hk1
  obtain ⟨k2', hk2', -⟩ := hal.2.2 _ _ hk2
  cases hfit : S0.vm.assignable cell.cls cx with
  | true =>
    have hfit' : (S0.vm.noted f.method.cls x.catchType (.cls cx)).assignable cell.cls cx = true := by rw [hal.assignable]; exact hfit
    simp [findHandler.go, hx, h0, ha, ht, hcell, hobj, hk1', hk2', hfit', VmOp.dirties, VmOp.acts]
  | false =>
    have hfit' : (S0.vm.noted f.method.cls x.catchType (.cls cx)).assignable cell.cls cx = false := by rw [hal.assignable]; exact hfit
    simp [findHandler.go, hx, h0, ha, ht, hcell, hobj, hk1', hk2', hfit', VmOp.dirties, VmOp.acts]
variable {p : Program} {l : Launch} {e : Env} {R : Room} {s : State} {m : MethodId} {args : Array Value} {below : List Frame} {meth : Method} {c : Code} {locs : List Loc} {cells slots : Nat} {Q : State → Prop}
def xPass (s : State) (args : Array Value) (own E : String) (pc : Nat) (z : ExceptionTableEntry) : Prop := covers z pc = false ∨ (covers z pc = true ∧ z.catchType ≠ 0 ∧ ∃ nm : String, (Cond.classLink own z.catchType nm).before args s = true ∧ va_Nc E nm s)
theorem x_find {own name E : String} {ce : Cell} {q : Addr} {g : JFrame} (hpl : e.platform.magicAccessors = ({} : Platform).magicAccessors) (hg : g.method = m) (hown : s.vm.findClass own = some m.cls) (hv : ce.vm = .none) (hcl : s.vm.findClass E = some ce.cls)
    (x : ExceptionTableEntry) (suf : List ExceptionTableEntry) (hx : covers x g.pc = true) (h0 : x.catchType ≠ 0) (hlink : (Cond.classLink own x.catchType name).before args s = true) (hcast : (Cond.castable E name).before args s = true) :
    ∀ (pre : List ExceptionTableEntry) (S0 : State), s.WarmedH S0.vm → S0.heap[q]? = some ce → (∀ z ∈ pre, xPass s args own E g.pc z) →
      ∃ vm', s.WarmedH vm' ∧ ∀ (Q : Handler → Pre) (EE : CtlPost) (d : Bool) (acts : List Action), wp (findHandler.go g q (pre ++ x :: suf)) Q EE e d acts S0 ↔ Q (.found x.handlerPc) d acts (S0.setVm vm') := by
  have hobj : ∀ k, ce.vm ≠ .statics k := fun k h => by rw [hv] at h; cases h
  intro pre
  induction pre with
  | nil =>
    intro S0 hW hcell _
    obtain ⟨c', hc', hcll⟩ := Cond.classLink_spec hown hlink e.platform hpl
    obtain ⟨dk, _, _, kt, hd, _, _, _, _, hkt, _, hopen⟩ := hcll.here
    have hcl0 := hW.classLinks hcll
    have hW' : s.WarmedH (S0.vm.noted m.cls x.catchType (.cls c')) := hW.noted hd hopen (State.rightAt_cls hcll)
    obtain ⟨kt', hkt', -⟩ := hW.alike.2.2 _ _ hkt
    obtain ⟨c3, c4, hc3, hc4, hasg⟩ := Cond.castable_spec hcast
    cases Option.some.inj (hc3.symm.trans hcl)
    cases Option.some.inj (hc4.symm.trans hc')
    have hfit : S0.vm.assignable ce.cls c' = true := by rw [hW.alike.assignable]; exact hasg
    refine ⟨_, hW', fun Q EE d acts => ?_⟩
    rw [List.nil_append, x_go (cx := c') (cell := ce) hx h0 (by rw [hg]; exact hcl0) hcell hobj (Vm.classAt_of_assignable hfit ⟨kt', hkt'⟩) ⟨kt', hkt'⟩, if_pos hfit, hg]
  | cons z zs ih =>
    intro S0 hW hcell hp
    rcases hp z List.mem_cons_self with hsk | ⟨hzc, hz0, nm, hlz, cE, cZ, hcE, hcZ, hna⟩
    · obtain ⟨vm', hW', hall⟩ := ih S0 hW hcell (fun y hy => hp y (List.mem_cons_of_mem _ hy))
      refine ⟨vm', hW', fun Q EE d acts => ?_⟩
      rw [List.cons_append, Jvm.W.findHandler_go_skip hsk]
      exact hall Q EE d acts
    · obtain ⟨c', hc', hcll⟩ := Cond.classLink_spec hown hlz e.platform hpl
      obtain ⟨dk, _, _, kt, hd, _, _, _, _, hkt, _, hopen⟩ := hcll.here
      have hcl0 := hW.classLinks hcll
      have hW1 : s.WarmedH (S0.vm.noted m.cls z.catchType (.cls c')) := hW.noted hd hopen (State.rightAt_cls hcll)
      obtain ⟨kt', hkt', -⟩ := hW.alike.2.2 _ _ hkt
      rw [Option.some.inj (hcE.symm.trans hcl), Option.some.inj (hcZ.symm.trans hc')] at hna
      have hfit : ¬ S0.vm.assignable ce.cls c' = true := by rw [hW.alike.assignable, hna]; decide
      obtain ⟨kE, hE1⟩ := Vm.classAt_of_findClass hcl
      obtain ⟨kE', hE1', -⟩ := hW.alike.2.2 _ _ hE1
      obtain ⟨vm', hW', hall⟩ := ih (S0.setVm (S0.vm.noted m.cls z.catchType (.cls c'))) hW1 hcell (fun y hy => hp y (List.mem_cons_of_mem _ hy))
      refine ⟨vm', hW', fun Q EE d acts => ?_⟩
      rw [List.cons_append, x_go (cx := c') (cell := ce) hzc hz0 (by rw [hg]; exact hcl0) hcell hobj ⟨kE', hE1'⟩ ⟨kt', hkt'⟩, if_neg hfit, hg]
      exact hall Q EE d acts
/-- the exception is caught in the method that stands there -/
theorem x_catch {T : State} (X : Stand p l e R s m args below meth c T locs cells slots) {own name E : String} {ce : Cell} {q : Addr} {g : JFrame} (hg : g.method = m) (hown : s.vm.findClass own = some m.cls) (pre : List ExceptionTableEntry) (x : ExceptionTableEntry) (suf : List ExceptionTableEntry) (hsplit : c.exceptionTable.toList = pre ++ x :: suf)
    (hpass : ∀ z ∈ pre, xPass s args own E g.pc z) (hx : covers x g.pc = true) (h0 : x.catchType ≠ 0) (hlink : (Cond.classLink own x.catchType name).before args s = true) (hcast : (Cond.castable E name).before args s = true)
    (hcell : T.heap[q]? = some ce) (hv : ce.vm = .none) (hcl : s.vm.findClass E = some ce.cls)
    (kk : W p l e R s m args below meth c T.heap locs cells slots Q { g with pc := x.handlerPc, stack := [.ref q] }) : ∃ z, Steps p.tables e below ((T.setTop g).pushFrame (.throwing q)) z ∧ Q z := by
  have hpl : e.platform.magicAccessors = ({} : Platform).magicAccessors := by rw [X.admits.platform]
  have hvm : ((T.setTop g).pushFrame (.throwing q)).vm = T.vm := Stand.throwing_vm T g q
  have hhp : ((T.setTop g).pushFrame (.throwing q)).heap = T.heap := Stand.throwing_heap T g q
  obtain ⟨vm', hW', hall⟩ := x_find (e := e) hpl hg hown hv hcl x suf hx h0 hlink hcast pre ((T.setTop g).pushFrame (.throwing q)) (by rw [hvm]; exact X.warmed) (by rw [hhp]; exact hcell) hpass
  obtain ⟨z, hz, hQ⟩ := kk (T.setVm vm') rfl (X.noted hW')
  refine ⟨z, ?_, hQ⟩
  have hA : At T g.method c below := by rw [hg]; exact X.here
  have hm9 : ((T.setTop g).pushFrame (.throwing q)).vm.method? g.method = some meth := by
    rw [hvm, hg, X.warmed.alike.method?]; exact X.method
  have hf : ∀ (Q : Handler → Pre) (EE : CtlPost) (d : Bool) (acts : List Action), wp (findHandler g q) Q EE e d acts ((T.setTop g).pushFrame (.throwing q)) ↔ Q (.found x.handlerPc) d acts (((T.setTop g).pushFrame (.throwing q)).setVm vm') := fun Q EE d acts => by
    rw [Jvm.W.findHandler_eq hm9 X.code, hsplit]; exact hall Q EE d acts
  have hstep : (stepThrowing e ((T.setTop g).pushFrame (.throwing q)) q (.java g :: T.frames.tail)).Is ((((T.setTop g).pushFrame (.throwing q)).setVm vm').setFrames (.java { g with pc := x.handlerPc, stack := [.ref q] } :: T.frames.tail)) [] := by
    simp only [stepThrowing, searchFrame, vmDo]
    generalize hr : Sem.go _ e false [] ((T.setTop g).pushFrame (.throwing q)) = res
    obtain ⟨as, rfl, ha⟩ := Sem.eq_ok_of hr (a := Handler.found x.handlerPc) (s' := ((T.setTop g).pushFrame (.throwing q)).setVm vm') (acts' := []) (by simp [hf])
    exact ⟨rfl, ha⟩
  obtain ⟨hgo, hw⟩ := hA.throwing q
  refine Steps.head hgo hw ?_
  rw [stepThread_throwing (frames_entered hA.top _), hstep.1]
  obtain ⟨g₀, hg0⟩ := Option.isSome_iff_exists.mp hA.top
  obtain ⟨r, hr⟩ := State.topJava?_eq_some.mp hg0
  have hr' : (T.setVm vm').frames = .java g₀ :: r := hr
  rw [State.setTop_of_frames _ hr'] at hz
  have e9 : (((T.setTop g).pushFrame (.throwing q)).setVm vm').setFrames (.java { g with pc := x.handlerPc, stack := [.ref q] } :: T.frames.tail) = (T.setVm vm').setFrames (.java { g with pc := x.handlerPc, stack := [.ref q] } :: r) := by
    have hsf : ∀ (u : State) (F G : List Frame), ((u.setFrames F).setVm vm').setFrames G = (u.setVm vm').setFrames G := fun u F G => by
      have h1 : (u.setFrames F).setVm vm' = (u.setVm vm').setFrames F := rfl
      rw [h1, State.setFrames_setFrames]
    rw [State.pushFrame, hsf, State.setTop_of_frames _ hr, hsf, hr]
    rfl
  rw [e9]
  exact hz
end XCATCH
