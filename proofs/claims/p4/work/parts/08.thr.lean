/-! the state in which the law began: what of it still holds later -/
def Og (s0 U : State) : Prop := s0.WarmedH U.vm ∧ s0.heap.size ≤ U.heap.size ∧ ∀ q : Nat, q < s0.heap.size → U.heap[q]? = s0.heap[q]?
abbrev PreX_ (s0 : State) (dC : Nat → ClassId) (dI : Nat → Nat → Nat) (sz : Nat) (av : List Value) (ws : va_W) (tys : List (ClassId × FieldType)) : Array Value → State → Prop := va_Pc av (fun U => U.heap.size = sz ∧ va_P (dC, dI) classes ws U.heap ∧ va_K (dC, dI) classes tys U ∧ va_D (fun _ => True) ws ∧ nwd U ∧ Og s0 U ∧ ∀ q ∈ ws, s0.heap.size ≤ q.1)
theorem fbx_ {s0 : State} {dC : Nat → ClassId} {dI : Nat → Nat → Nat} {sz : Nat} {av : List Value} {ws : va_W} {tys : List (ClassId × FieldType)} : FrameBlind (PreX_ s0 dC dI sz av ws tys) := fun a U g mk q => by
  obtain ⟨q0, q1, qP, qK, qD, qN, qO, qL⟩ := q
  exact ⟨q0, q1, qP, va_K.moved (u := U) (U := U.calling g mk a) (Vm.Alike.refl U.vm) qK, qD, nwd_same (u := U) rfl qN, qO, qL⟩
theorem prex_ {s0 : State} {dC : Nat → ClassId} {dI : Nat → Nat → Nat} {av : List Value} {ws : va_W} {tys : List (ClassId × FieldType)} {s : State} {H : Heap} {A : Nat → Prop} (hP : va_P (dC, dI) classes ws H) (hK : va_K (dC, dI) classes tys s) (hD : va_D A ws) (hN : nwd s) (hW0 : s0.WarmedH s.vm) (hz : s0.heap.size ≤ H.size) (hk : ∀ q : Nat, q < s0.heap.size → H[q]? = s0.heap[q]?) (hlo : ∀ q ∈ ws, s0.heap.size ≤ q.1) : ∀ U : State, U.heap = H → s.WarmedH U.vm → PreX_ s0 dC dI H.size av ws tys av.toArray U := fun U hU hW =>
  ⟨rfl, by rw [hU], by rw [hU]; exact hP, va_K.moved hW.alike hK, hD.weaken (fun _ _ _ _ => trivial), nwd_warm hW hN, ⟨State.WarmedH.trans hW0 hW, by rw [hU]; exact hz, fun q hq => by rw [hU]; exact hk q hq⟩, hlo⟩
/-- the law's own old cells lie still, whatever a method writes of its own world -/
theorem og_keep {s0 s : State} {ws : va_W} {A : Nat → Prop} {H : Heap} {locs : List Loc} (hO : Og s0 s) (hlo : ∀ q ∈ ws, s0.heap.size ≤ q.1) (hAe : va_A ws s.heap.size = A) (hS : va_S A s.heap H locs) : s0.heap.size ≤ H.size ∧ ∀ q : Nat, q < s0.heap.size → H[q]? = s0.heap[q]? := by
  refine ⟨Nat.le_trans hO.2.1 hS.1, fun q hq => ?_⟩
  have hq2 : q < s.heap.size := Nat.lt_of_lt_of_le hq hO.2.1
  have hnA : ¬ A q := by
    rw [← hAe]
    rintro (⟨k, e, h⟩ | h)
    · have := hlo (q, e) (List.mem_of_getElem? h)
      have h9 : s0.heap.size ≤ q := this
      omega
    · omega
  rw [hS.2.1 q hq2 hnA]
  exact hO.2.2 q hq
theorem ls_move {s0 U : State} {args A' : Array Value} {C n d : String} (hO : Og s0 U) (h : (Cond.laysStatic C n d).before args s0 = true) : (Cond.laysStatic C n d).before A' U = true := by
  obtain ⟨c, k, i, f, a, cell, hc, hi, hst, ha, hcell, hs, hcls, hlt, hty⟩ := Cond.laysStatic_spec h
  obtain ⟨k', hi', hek⟩ := State.fieldFound?_setVm hO.1.alike hi
  exact Cond.laysStatic_of (s := U) (by rw [hO.1.alike.findClass]; exact hc) hi' hst (by rw [hek]; exact ha) (by rw [hO.2.2 a (Array.getElem?_eq_some_iff.mp hcell).1]; exact hcell) hs hcls hlt (by rw [hek]; exact hty)
theorem ir_move {s0 U : State} {args A' : Array Value} {C n d : String} (hO : Og s0 U) (hl : (Cond.laysStatic C n d).before args s0 = true) (h : (Cond.isRef (.static C n d)).before args s0 = true) : (Cond.isRef (.static C n d)).before A' U = true := by
  obtain ⟨c, k, i, f, a, cell, hc, hi, hst, ha, hcell, hs, hcls, hlt, hty⟩ := Cond.laysStatic_spec hl
  obtain ⟨k', hi', hek⟩ := State.fieldFound?_setVm hO.1.alike hi
  obtain ⟨u, hu⟩ := Cond.staticRefV hi hst ha hcell hs h
  have hcell' : U.heap[a]? = some cell := by rw [hO.2.2 a (Array.getElem?_eq_some_iff.mp hcell).1]; exact hcell
  have ha' : k'.statics = some a := by rw [hek]; exact ha
  have hi2 : U.fieldFound? C n d = some (c, k', i, f) := hi'
  have he : (Term.static C n d).eval A' U none [] U = some u.v := by
    simp [Term.eval, State.fieldNamed?, hi2, hst, ha', hcell', hs, hu]
  obtain ⟨v0, hr⟩ := u
  simp only [Cond.before, Cond.holds, Cond.value, he]
  cases v0 <;> first | rfl | (exfalso; cases hr)
def okK : Cond → Bool
  | .castable _ _ => true
  | .declares _ => true
  | .laysStatic _ _ _ => true
  | w => goodWord w
theorem mv_ok {w : Cond} {s0 U : State} {args : Array Value} (hk : okK w = true) (hO : Og s0 U) (h : w.before #[] s0 = true) : w.before args U = true := by
  unfold okK at hk
  split at hk
  · exact va_tabs rfl rfl (va_Nw.warmC hO.1 h)
  · exact va_tabs rfl rfl (va_Nw.warmD hO.1 h)
  · exact ls_move hO h
  · exact word_at hO.1 (good_of_word hk) h
def irU : Cond := .isRef (.static Bundle.tN "UNASSIGNED_STACK" Bundle.steD)
def irN : Cond := .isRef (.static Bundle.tN "SUPPRESSED_SENTINEL" Bundle.listD)
def okX (w : Cond) : Bool := okK w || decide (w = irU) || decide (w = irN)
theorem own_move {L : List Cond} {s0 U : State} {args : Array Value} (hL : L.all okX = true) (hO : Og s0 U) (hlU : (Cond.laysStatic Bundle.tN "UNASSIGNED_STACK" Bundle.steD).before #[] s0 = true) (hlN : (Cond.laysStatic Bundle.tN "SUPPRESSED_SENTINEL" Bundle.listD).before #[] s0 = true) (h : ∀ w ∈ L, w.before #[] s0 = true) : ∀ w ∈ L, w.before args U = true := fun w hw => by
  have h1 := List.all_eq_true.mp hL w hw
  simp only [okX, Bool.or_eq_true, decide_eq_true_eq] at h1
  rcases h1 with (h1 | rfl) | rfl
  · exact mv_ok h1 hO (h w hw)
  · exact ir_move hO hlU (h _ hw)
  · exact ir_move hO hlN (h _ hw)
def strL : List (String × Nat × String) := [("PlanarSketch", 57, "no such node"), ("PlanarSketch", 68, "the node is there"), ("PlanarSketch", 82, "a node is not there"), ("PlanarSketch", 87, "the nodes are the same"), ("PlanarSketch", 97, "no line can come"), ("PlanarSketch", 111, "the line is not there"), ("PlanarSketch", 113, "the node is not there"), ("PlanarSketch", 118, "a line has the ends 0 and 1"), ("PlanarSketch", 129, "the network is drawable"), ("PlanarSketch", 131, "no such corner"), ("PlanarSketch", 139, "the network is not drawable"), ("PlanarSketch", 144, "no line can be asked for there"), ("PlanarSketch", 175, "no such place"), ("PlanarSketch", 184, "no such node or axis"), ("PlanarSketch", 192, "a line is not there"), ("PlanarSketch", 194, "the lines are the same")]
/-- where the class throws: the words of each exception's making -/
def thrL : List (List Cond) := [Bundle.ownAtoms R_PS 59 "java/lang/IndexOutOfBoundsException" ["java/lang/RuntimeException", "java/lang/Exception"], Bundle.ownAtoms R_PS 70 "java/lang/IllegalStateException" ["java/lang/RuntimeException", "java/lang/Exception"], nsAtoms R_PS 84 "java/util/NoSuchElementException", Bundle.ownAtoms R_PS 89 "java/lang/IllegalArgumentException" ["java/lang/RuntimeException", "java/lang/Exception"]]
def T0 (s0 : State) : Prop := (∀ q ∈ thrL, ∀ w ∈ q, w.before #[] s0 = true) ∧ ∀ q ∈ strL, ∃ a, vk_R q.1 q.2.1 q.2.2 a s0
theorem thr_ok : ∀ q ∈ thrL, q.all okX = true := by decide +kernel
theorem thr_lays : ∀ q ∈ thrL, (Cond.laysStatic Bundle.tN "UNASSIGNED_STACK" Bundle.steD ∈ q) ∧ (Cond.laysStatic Bundle.tN "SUPPRESSED_SENTINEL" Bundle.listD ∈ q) := by decide +kernel
theorem thr_at {s0 U : State} {args : Array Value} (h0 : T0 s0) (hO : Og s0 U) (q : List Cond) (hq : q ∈ thrL) : ∀ w ∈ q, w.before args U = true :=
  own_move (thr_ok q hq) hO (h0.1 q hq _ (thr_lays q hq).1) (h0.1 q hq _ (thr_lays q hq).2) (h0.1 q hq)
theorem thr_P {D : va_G} {cl : List vw_C} {ws : va_W} {H H1 : Heap} (hP : va_P D cl ws H) (hk : ∀ q : Nat, q < H.size → H1[q]? = H[q]?) : va_P D cl ws H1 := hP.kept (fun k q hq => hk q.1 (hP k q hq).lt)
theorem thr_F {A : Nat → Prop} {s t : State} {H : Heap} {locs : List Loc} (hS : va_S A s.heap H locs) (hz : H.size ≤ t.heap.size) (hk : ∀ q : Nat, q < H.size → t.heap[q]? = H[q]?) : va_F A s t := ⟨Nat.le_trans hS.1 hz, fun q hq hn => by rw [hk q (Nat.lt_of_lt_of_le hq hS.1)]; exact hS.2.1 q hq hn⟩
def xX {S : Type} (B : String → S → State → Prop) (A : Nat → Prop) : String → State → State → Prop := fun E st t => ∃ u : S, B E u t ∧ va_F A st t
section XI
variable {p : Program} {l : Launch} {e : Env} {R : Room} {s : State} {m : MethodId} {args : Array Value} {below : List Frame} {meth : Method} {c : Code} {locs : List Loc} {cells slots : Nat} {Q : State → Prop} {H H0 : Heap} {A0 : Nat → Prop}
theorem x_S {A1 free : Nat → Prop} {st t : State} {L : List Loc} (hst : st.heap = H) (hS : va_S A0 H0 H locs) (hA : ∀ q, q < H.size → A1 q → A0 q) (hf : ∀ q, free q → A0 q) (hL : ∀ q ∈ L, free q.base) (hF : va_F A1 st t) : H.size ≤ t.heap.size ∧ (∀ q : Nat, q < H.size → ¬ A1 q → t.heap[q]? = H[q]?) ∧ va_S A0 H0 t.heap (locs ++ L) := by
  obtain ⟨f1, f2⟩ := hF
  rw [hst] at f1 f2
  refine ⟨f1, f2, Nat.le_trans hS.1 f1, fun q hq hn => ?_, fun l9 h9 => ?_⟩
  · have hq2 := Nat.lt_of_lt_of_le hq hS.1
    rw [f2 q hq2 (fun h => hn (hA q hq2 h))]
    exact hS.2.1 q hq hn
  · rcases List.mem_append.mp h9 with h | h
    · exact hS.2.2 l9 h
    · exact hf _ (hL l9 h)
/-- invokevirtual of a method that returns an int or throws -/
theorem x_calli {y : MethodName} {bytes cc : ByteArray} {maxL nL mc ms n index : Nat} {ret : Option FieldType} {ws : List Cond} {rm : Room} {Pc : Array Value → State → Prop} {free A1 AX : Nat → Prop} {Ts : List Cond} {own C : String} {b : Addr} {As rest st0 : List Value} {S SX : Type} {post : Int32 → S → Prop} {B : S → State → Prop} {BX : String → SX → State → Prop} {pc : Nat} {ls : Array Slot}
    (SF : CallFix p m c cc nL s args Ts own) (hM : xMet l y ws rm Pc (va_Qi post B A1) (xX BX AX) mc ms free) (cw : CallW R s args own C index y bytes maxL ret ws rm mc ms n) (hp : PreV s H C b Pc As)
    (hn : As.length = n) (hsize : ls.size = nL) (hstack : st0 = As.reverse ++ .ref b :: rest) (hW8 : 2 * (F0 m pc ls rest).monitorRoom + (rest.map fun v => v.category).sum ≤ 8) (hdg : decode cc pc = .ok (.invokevirtual index, 3)) (hf : cells + mc ≤ R.cells ∧ slots + ms ≤ R.slots)
    (hS : va_S A0 H0 H locs) (hA : ∀ q, q < H.size → A1 q → A0 q) (hfr : ∀ q, free q → A0 q) (hAX : ∀ q, q < H.size → AX q → A0 q)
    (kx : ∀ (E : String) (ce : Cell) (q9 : Addr) (u : SX) (t T' : State) (locs1 : List Loc), s.vm.Alike t.vm → BX E u t → T'.heap = t.heap → H.size ≤ t.heap.size → (∀ q : Nat, q < H.size → ¬ AX q → t.heap[q]? = H[q]?) → va_S A0 H0 t.heap locs1 → t.heap[q9]? = some ce → ce.vm = .none → s.vm.findClass E = some ce.cls →
      Stand p l e R s m args below meth c T' locs1 (cells + mc) (slots + ms) → ∃ z, Steps p.tables e below ((T'.setTop (F0 m pc ls rest)).pushFrame (.throwing q9)) z ∧ Q z)
    (kk : ∀ (r : Int32) (u : S) (t : State) (H1 : Heap) (locs1 : List Loc), t.heap = H1 → s.vm.Alike t.vm → post r u → B u t → H.size ≤ H1.size → (∀ q : Nat, q < H.size → ¬ A1 q → H1[q]? = H[q]?) → va_S A0 H0 H1 locs1 → W p l e R s m args below meth c H1 locs1 (cells + mc) (slots + ms) Q (F0 m (pc + 3) ls (.int r :: rest))) :
    W p l e R s m args below meth c H locs cells slots Q (F0 m pc ls st0) := by
  refine x_callV (g := F0 m pc ls st0) SF hM cw hp rfl hn hsize hstack hW8 hdg hf ?_ ?_
  · intro v st t T' L hst hal hh X' hL hq
    obtain ⟨⟨r, u, hv, hpo, hB⟩, hF⟩ := hq
    cases hv
    obtain ⟨g1, g2, g3⟩ := x_S hst hS hA hfr hL hF
    exact kk r u t t.heap _ rfl hal hpo hB g1 g2 g3 T' hh X'
  · intro q E ce st t T' L hst hal hh X' hL hx hce hcv hcl
    obtain ⟨u, hB, hF⟩ := hx
    obtain ⟨g1, g2, g3⟩ := x_S hst hS hAX hfr hL hF
    exact kx E ce q u t T' _ hal hB hh g1 g2 g3 hce hcv hcl X'
end XI
