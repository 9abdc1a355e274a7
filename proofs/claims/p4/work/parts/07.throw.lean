/-! exceptions that leave a method, and their catching by the caller: over the library's Stand.ctorThrowS (launches without stack traces), Steps.callFree and the handler search -/
def xQ (Qc : Array Value → State → Outcome → State → Prop) (XC : String → State → State → Prop) (mc ms : Nat) (free : Addr → Prop) (a : Array Value) (st : State) (o : Outcome) (t : State) : Prop :=
  (Qc a st o t ∧ ∃ L, FrameEnd st o t L mc ms ∧ ∀ q ∈ L, free q.base) ∨
  ∃ (q : Addr) (E : String) (ce : Cell) (L : List Loc), o = .threw q ∧ XC E st t ∧ t.heap[q]? = some ce ∧ ce.vm = .none ∧ st.vm.findClass E = some ce.cls ∧ st.WarmedH t.vm ∧ st.sameButNew ({ t with vm := st.vm } : State) L mc ms ∧ ∀ z ∈ L, free z.base
def xMet (l : Launch) (y : MethodName) (ws : List Cond) (rm : Room) (Pc : Array Value → State → Prop) (Qc : Array Value → State → Outcome → State → Prop) (XC : String → State → State → Prop) (mc ms : Nat) (free : Addr → Prop) : Prop :=
  MetFree l y (headSpec ws rm) Pc (fun _ _ _ _ _ => True) (xQ Qc XC mc ms free)
def xMQ (below : List Frame) (Qc : Array Value → State → Outcome → State → Prop) (XC : String → State → State → Prop) (a : Array Value) (s : State) (mc ms : Nat) (free : Addr → Prop) : State → Prop := fun t =>
  ∃ o, t.status = .running ∧ Ended t below o ∧ xQ Qc XC mc ms free a s o t
section XW
variable {p : Program} {l : Launch} {e : Env} {R : Room} {s : State} {m : MethodId} {args : Array Value} {below : List Frame} {meth : Method} {c : Code} {H : Heap} {locs : List Loc} {cells slots : Nat} {Q : State → Prop}
theorem x_ret {Qc : Array Value → State → Outcome → State → Prop} {XC : String → State → State → Prop} {mc ms : Nat} {free : Addr → Prop} {g : JFrame} (k : W p l e R s m args below meth c H locs cells slots (MQ below Qc args s mc ms free) g) : W p l e R s m args below meth c H locs cells slots (xMQ below Qc XC args s mc ms free) g := fun T hT X => by
  obtain ⟨t, a, o, b1, b2, b3⟩ := k T hT X
  exact ⟨t, a, o, b1, b2, Or.inl b3⟩
theorem xMet.ofW {y : MethodName} {ws ws' : List Cond} {rm : Room} {Pc : Array Value → State → Prop} {Qc : Array Value → State → Outcome → State → Prop} {XC : String → State → State → Prop} {mc ms : Nat} {free : Addr → Prop} {cc : ByteArray} {maxL : Nat} {ret : Option FieldType}
    (hy : plainName y.cls = true) (hw : ws = Cond.code y cc maxL ret :: ws')
    (body : ∀ p e s m args below meth c s₁, BodyLoose p l y (headSpec ws rm) cc maxL ret e s m args below meth c s₁ → c.maxLocals = maxL → (∀ x ∈ c.exceptionTable.toList, False) → Pc args s →
      W p l e (headSpec ws rm).room s m args below meth c s.heap [] 0 0 (xMQ below Qc XC args s mc ms free) (entryFrame m args maxL)) : xMet l y ws rm Pc Qc XC mc ms free := by
  refine MetFree.of_bodyS (code := cc) (maxLocals := maxL) (ret := ret) hy ?_ ?_
  · intro args s m h hn
    obtain ⟨meth, c, h1, h2, h3, h4, h5, h6, -, -⟩ := Cond.code_spec hn (atoms_spec (ws := ws) h _ (by rw [hw]; exact List.mem_cons_self))
    exact ⟨meth, c, h1, h2, h3, h4, h5, h6⟩
  · intro p e s m args below meth c s₁ B hml hP _
    have hh0 : s₁.heap = s.heap := by rw [B.state]; rfl
    have X0 := Stand.of_body B
    have hno : ∀ x ∈ c.exceptionTable.toList, False := by
      obtain ⟨meth', c', h1, h2, -, -, -, -, h7, -⟩ := Cond.code_spec B.named (atoms_spec (ws := ws) B.pre _ (by rw [hw]; exact List.mem_cons_self))
      cases Option.some.inj (B.method.symm.trans h1)
      cases Option.some.inj (X0.code.symm.trans h2)
      intro x hx
      have h8 : c.exceptionTable = #[] := by simpa using h7
      rw [h8] at hx
      simp at hx
    obtain ⟨t, a1, o, b1, b2, b3⟩ := body p e s m args below meth c s₁ B hml hno hP s₁ hh0 X0
    exact ⟨t, o, a1, b1, b2, b3⟩
/-- the walk taken anew from where it stands: nothing written yet -/
theorem x_rebase {T : State} (X : Stand p l e R s m args below meth c T locs cells slots) {k n : Nat} (hc : cells + k ≤ R.cells) (hs : slots + n ≤ R.slots) :
    Stand p l e { R with cells := k, slots := n } ((T.setVm s.vm).setFrames (.invoking m args :: below)) m args below meth c T [] 0 0 := by
  obtain ⟨g0, hfr⟩ := X.frames_eq
  have hcur : T.cur < T.threads.size := State.cur_lt_of_frames hfr
  obtain ⟨t, ht, htf⟩ := State.frames_cons hfr
  have hF : ((T.setVm s.vm).setFrames (.invoking m args :: below)).frames = .invoking m args :: below := State.frames_setFrames _ hcur
  have hLo : ((T.setVm s.vm).setFrames (.invoking m args :: below)).localsInUse = s.localsInUse := by
    rw [State.localsInUse_invoking hF X.method X.code, State.localsInUse_invoking X.frames X.method X.code]
  have hli : e.platform.stackLimits ((T.setVm s.vm).setFrames (.invoking m args :: below)).me = e.platform.stackLimits s.me := by
    rw [State.stackLimits_setFrames]; exact X.limits
  have hby : ((T.setVm s.vm).setFrames (.invoking m args :: below)).me.stackBytes = s.me.stackBytes := by
    rw [State.stackBytes_setFrames]; exact X.bytes
  refine ⟨X.admits, X.cas, X.clock, hF, ?_, X.hears, X.method, X.code, X.here, X.tail, X.warmed, (X.limits.trans hli.symm), (X.bytes.trans hby.symm), ?_⟩
  · have h := X.room
    simp only [State.hasRoom, Bool.and_eq_true, decide_eq_true_eq] at h ⊢
    obtain ⟨⟨⟨⟨r1, r2⟩, r3⟩, r4⟩, r5⟩ := h
    refine ⟨⟨⟨⟨?_, ?_⟩, X.cellsAbove hc⟩, X.slotsAbove hs⟩, X.book⟩
    · rw [hLo]; exact r1
    · rw [hLo, hli, hby, hF]
      rw [X.frames] at r2
      exact r2
  · have h9 : ((T.setVm s.vm).setFrames (.invoking m args :: below)).cur < ((T.setVm s.vm).setFrames (.invoking m args :: below)).threads.size := State.cur_lt_of_frames hF
    obtain ⟨t9, ht9, -⟩ := State.frames_cons hF
    have h := (State.sameButNew.refl ((T.setVm s.vm).setFrames (.invoking m args :: below)) ht9).setFrames T.frames h9
    rw [State.setFrames_setFrames] at h
    have e1 : (T.setVm s.vm).setFrames T.frames = T.setVm s.vm := State.setFrames_self (s := T.setVm s.vm) (t := t) ht
    rw [e1] at h
    exact h
/-- 'throw new E("text")', from the instruction 'new' on -/
theorem x_throw {Qc : Array Value → State → Outcome → State → Prop} {XC : String → State → State → Prop} {mc ms : Nat} {free : Addr → Prop} {cc : ByteArray} {pc : Nat} {ls : Array Slot} {rest : List Value} (hexec : p.tables.exec = Jvm.exec) (hb : c.code = cc) (hl : l.stackTraces = false) {own cls text : String} {names : List String} {ik is ic sa : Nat}
    (hown : s.vm.findClass own = some m.cls) (hcls : Bundle.fit cls = true) (hnames : ∀ n ∈ names, Bundle.fit n = true)
    (hk : (Cond.classLink own ik cls).before args s = true) (hini : (Cond.initialized cls).before args s = true) (hstr : vk_R own is text sa s) (hat : ∀ s9 : State, s9.vm = s.vm → s9.heap = H → ∀ w ∈ Bundle.ownAtoms own ic cls names, w.before args s9 = true)
    (hsize : ls.size = c.maxLocals)
    (d0 : decode cc pc = .ok (.new ik, 3)) (d3 : decode cc (pc + 3) = .ok (.dup, 1)) (d4 : decode cc (pc + 4) = .ok (.ldc is, 2)) (d6 : decode cc (pc + 6) = .ok (.invokespecial ic, 3)) (d9 : decode cc (pc + 9) = .ok (.athrow, 1))
    (hout : ∀ x ∈ c.exceptionTable.toList, False)
    (hRframes : names.length + 3 < R.frames) (hRlocals : (rest.map fun v => v.category).sum + (13 * (names.length + 1) + 43) ≤ R.locals) (hRcells : cells + 1 ≤ R.cells) (hRslots : slots + 6 ≤ R.slots) (hlocks : meth.locks = false)
    (hx : ∀ t : State, s.vm.Alike t.vm → H.size ≤ t.heap.size → (∀ q : Nat, q < H.size → t.heap[q]? = H[q]?) → XC cls s t)
    (hf : ∀ z ∈ locs, free z.base) (hc : cells + 1 ≤ mc) (hs : slots + 6 ≤ ms) :
    W p l e R s m args below meth c H locs cells slots (xMQ below Qc XC args s mc ms free) (F0 m pc ls rest) := by
  intro T0 hT0 X0
  have X1 := x_rebase X0 (k := 1) (n := 6) hRcells hRslots
  generalize hs9 : (T0.setVm s.vm).setFrames (.invoking m args :: below) = s9 at X1
  have hvm : s9.vm = s.vm := by rw [← hs9]; rfl
  have hhp : s9.heap = H := by rw [← hs9]; exact hT0
  have hat9 := hat s9 hvm hhp
  have hk9 : (Cond.classLink own ik cls).before args s9 = true := va_tabs rfl hvm.symm hk
  have hini9 : (Cond.initialized cls).before args s9 = true := va_tabs rfl hvm.symm hini
  have hown9 : s9.vm.findClass own = some m.cls := by rw [hvm]; exact hown
  have hstr9 : vk_R own is text sa s9 := hstr.same hvm
  have hins : (Cond.instantiable cls 6).before args s9 = true := hat9 _ (by simp [Bundle.ownAtoms])
  have key : W p l e { R with cells := 1, slots := 6 } s9 m args below meth c H [] 0 0 (fun U => U.status = .running ∧ Ended U below (.threw H.size) ∧ s9.WarmedH U.vm ∧ s9.sameButNew ({ U with vm := s9.vm } : State) [] 1 6 ∧ ∃ ce, U.heap[H.size]? = some ce ∧ ce.vm = .none ∧ s9.vm.findClass cls = some ce.cls) (F0 m pc ls rest) := by
    refine W.newc hexec hb hown9 hk9 hins hini9 rfl d0 (Nat.le_refl _) (Nat.le_refl _) (fun cC kC h1 h2 h3 h4 => ?_)
    refine W.eq (g2 := F0 m (pc + 3) ls (.ref H.size :: rest)) rfl ?_
    refine lv_dup hexec hb d3 rfl ?_
    refine va_ldcS hexec hb hown9 hstr9 d4 ?_
    intro T hT X
    have htr : e.platform.stackTraces = false := (show e.platform.stackTraces = l.stackTraces by rw [X.admits.platform]).trans hl
    have hcell : T.heap[H.size]? = some (freshCell cC kC) := by rw [hT]; simp [freshCell]
    have hcat : (Value.ref H.size).category = 1 := rfl
    have h0 : (F0 m (pc + 6) ls (Value.ref sa :: Value.ref H.size :: Value.ref H.size :: rest)).monitorRoom = 0 := rfl
    obtain ⟨U, hsteps, hrun, hend, hW, hsame, ce, hce, hO⟩ := X.ctorThrowS hexec htr (own := own) (cls := cls) (names := names) (ic := ic) hown9 hcls hnames hat9 (fun x h9 => nomatch h9) h1 h2 hcell (by rw [hhp]; exact Nat.le_refl _) (msg := .ref sa) rfl
      (g := F0 m (pc + 6) ls (.ref sa :: .ref H.size :: .ref H.size :: rest)) rfl hsize rfl rfl (rest := rest) rfl (by rw [hb]; exact d6) (by rw [hb]; exact d9) (fun x h9 => (hout x h9).elim) hRframes
      (by rw [h0]; simp only [List.map_cons, List.sum_cons, hcat]; show _ ≤ R.locals; omega) hlocks
    exact ⟨U, hsteps, hrun, hend, hW, hsame, ce, hce, hO.vm, hO.cls⟩
  obtain ⟨U, hsteps, hrun, hend, hW, hsame, ce, hce, hcv, hcl⟩ := key T0 hT0 X1
  have hWs : s.WarmedH U.vm := by
    have h9 : s.WarmedH s9.vm := by rw [hvm]; exact State.WarmedH.refl s
    exact State.WarmedH.trans h9 hW
  have hall : s.sameButNew ({ U with vm := s.vm } : State) locs mc ms := by
    subst hs9
    obtain ⟨e1, e2⟩ := hsame
    rw [State.setFrames_setFrames] at e1
    have h2 : (T0.setVm s.vm).sameButNew ({ U with vm := s.vm } : State) [] 1 6 := ⟨e1, e2⟩
    have h3 := X0.same.trans h2
    rw [List.append_nil] at h3
    exact h3.mono hc hs
  have hold : ∀ q : Nat, q < H.size → U.heap[q]? = H[q]? := fun q hq => by
    obtain ⟨-, -, -, -, -, h6⟩ := hsame
    rw [hhp] at h6
    have hc9 : H[q]? = some H[q] := Array.getElem?_eq_getElem hq
    obtain ⟨c', k1, k2, k3, k4⟩ := h6 q _ hc9
    have k1' : U.heap[q]? = some c' := k1
    have k5 : c'.slots = H[q].slots := Array.ext_getElem? fun i => k4 i (fun h => nomatch h)
    rw [k1', hc9, k2, k5]
  have hsz9 : H.size ≤ U.heap.size := by
    have h6 := hsame.2.1
    rw [hhp] at h6
    exact h6
  exact ⟨U, hsteps, .threw H.size, hrun, hend, Or.inr ⟨H.size, cls, ce, locs, rfl, hx U hWs.alike hsz9 hold, hce, hcv, by rw [← hvm]; exact hcl, hWs, hall, hf⟩⟩
end XW
