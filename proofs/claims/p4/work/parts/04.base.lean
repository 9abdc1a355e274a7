/-! my base: worlds as preconditions and ends; counters; the words of private methods of nest mates -/
def nw_q (U : State) (q : String × Nat × MethodName × String) : Prop := va_Nw (.methodLinkNest q.1 q.2.1 q.2.2.1 q.2.2.2) U
def nwd (U : State) : Prop := ∀ q ∈ nestL, nw_q U q
theorem nwd_warm {s U : State} (hW : s.WarmedH U.vm) (h : nwd s) : nwd U := fun q hq => va_Nw.warmM hW (h q hq)
theorem nwd_same {u U : State} (hv : U.vm = u.vm) (h : nwd u) : nwd U := fun q hq => va_tabs (c := .methodLinkNest q.1 q.2.1 q.2.2.1 q.2.2.2) rfl hv.symm (h q hq)
abbrev Pre_ (dC : Nat → ClassId) (dI : Nat → Nat → Nat) (sz : Nat) (av : List Value) (ws : va_W) (tys : List (ClassId × FieldType)) : Array Value → State → Prop := va_Pc av (fun U => U.heap.size = sz ∧ va_P (dC, dI) classes ws U.heap ∧ va_K (dC, dI) classes tys U ∧ va_D (fun _ => True) ws ∧ nwd U)
abbrev End_ (dC : Nat → ClassId) (dI : Nat → Nat → Nat) (A : Nat → Prop) (tys : List (ClassId × FieldType)) (ws : va_W) (t : State) : Prop := va_P (dC, dI) classes ws t.heap ∧ va_K (dC, dI) classes tys t ∧ va_D A ws
theorem fb_ {dC : Nat → ClassId} {dI : Nat → Nat → Nat} {sz : Nat} {av : List Value} {ws : va_W} {tys : List (ClassId × FieldType)} : FrameBlind (Pre_ dC dI sz av ws tys) := fun a U g mk q => by
  obtain ⟨q0, q1, qP, qK, qD, qN⟩ := q
  exact ⟨q0, q1, qP, va_K.moved (u := U) (U := U.calling g mk a) (Vm.Alike.refl U.vm) qK, qD, nwd_same (u := U) rfl qN⟩
theorem pre_ {dC : Nat → ClassId} {dI : Nat → Nat → Nat} {av : List Value} {ws : va_W} {tys : List (ClassId × FieldType)} {s : State} {H : Heap} {A : Nat → Prop} (hP : va_P (dC, dI) classes ws H) (hK : va_K (dC, dI) classes tys s) (hD : va_D A ws) (hN : nwd s) : ∀ U : State, U.heap = H → s.WarmedH U.vm → Pre_ dC dI H.size av ws tys av.toArray U := fun U hU hW =>
  ⟨rfl, by rw [hU], by rw [hU]; exact hP, va_K.moved hW.alike hK, hD.weaken (fun _ _ _ _ => trivial), nwd_warm hW hN⟩
theorem z_keep0 {D : va_G} {cl : List vw_C} {ws : va_W} {H H1 : Heap} (hP : va_P D cl ws H) (hk : ∀ q : Nat, q < H.size → ¬ va_A [] H.size q → H1[q]? = H[q]?) : va_P D cl ws H1 := hP.kept (fun k q hq => hk q.1 (hP k q hq).lt (fun h => by
  rcases h with ⟨k9, e9, h⟩ | h
  · simp at h
  · have := (hP k q hq).lt
    omega))
theorem z_inc (k : Nat) : nI k + Int32.ofInt 1 = nI (k + 1) := (nI_succ k).symm
theorem z_inc1 (x : Int32) : x + Int32.ofInt 1 = x + 1 := rfl
theorem z_dec1 (x : Int32) : x + Int32.ofInt (-1) = x + (-1) := rfl
theorem z_exit {k E : Nat} {c : Int32} (hc : c = nI E) (h : k + 0 = E) : c ≤ nI k := by
  subst hc
  rw [show k = E from h, Int32.le_iff_toInt_le]
  omega
theorem z_stay {k n E : Nat} {c : Int32} (hc : c = nI E) (h : k + (n + 1) = E) (hE : E < 2 ^ 31) : ¬ c ≤ nI k := by
  subst hc
  exact nI_ge (by omega) hE
