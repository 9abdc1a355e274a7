def R_law : String := "PlanarSketchLaw"
def lw_P (b : Addr) (xs : List Int32) (args : Array Value) (s : State) : Prop := args = #[.ref b] ∧ s.IntsAt b xs ∧ xs.length ≤ 2048 ∧ (Jvm.Cond.and given_1 narrow_1).before args s = true
def lw_Q (_ : Array Value) (s : State) (o : Outcome) (t : State) : Prop := o = .returned (some (.int 1)) ∧ Framed s o t [] 618386 7240947
def lw_Z (below : List Frame) (a : Array Value) (s : State) : State → Prop := fun t => ∃ o, t.status = .running ∧ Ended t below o ∧ lw_Q a s o t
/-- the law's own end, with 1 on the stack, nothing written that was there before, its room as the claim has it -/
theorem lw_ret {p : Program} {l : Launch} {e : Env} {s : State} {m : MethodId} {below : List Frame} {meth : Method} {c : Code} {b : Nat} (hx : p.tables.exec = Jvm.exec) (hb : c.code = code) (hr : meth.sig.returnType = ret) (hlocks : meth.locks = false) {pc : Nat} {H : Heap} {ls : Array Slot} (hdg : decode code pc = .ok (.ireturn, 1)) : W p l e room_1 s m #[Value.ref b] below meth c H [] 618386 7240947 (lw_Z below #[Value.ref b] s) (F0 m pc ls [.int 1]) := by
  intro T hT X
  obtain ⟨fs, hret, hrun, hended, hW, hframe⟩ := X.leave (v := some (.int 1)) (hlocks := hlocks) (fun h => by rw [hr] at h; cases h)
  have hmeth' : T.vm.method? m = some meth := X.method'
  refine ⟨T.setFrames fs, ?_, .returned (some (.int 1)), hrun, hended, rfl, ⟨_, rfl⟩, hW, hframe⟩
  jvm_step X.here [X.here.top, hx, hb, hdg, hmeth', hr, ret, narrow_b1]
  (try refine ⟨rfl, ?_⟩); (try refine ⟨rfl, ?_⟩)
  first | (intro acts; rw [hret _ acts rfl rfl rfl]) | rw [hret _ _ rfl rfl rfl]
  exact Steps.refl _
/-- what holds at the law's entry: the machine, the code, the tables' words (any of lw_tbl by 'hts w (by decide +kernel)'), the script of L ints xs at the cell b, what the Statement gives of the start (any of its parts by flat_of_before) -/
def lw_At (p : Program) (s : State) (m : MethodId) (meth : Method) (c : Code) (b L : Nat) (xs : Nat → Int32) : Prop :=
  p.tables.exec = Jvm.exec ∧ c.code = code ∧ meth.sig.returnType = ret ∧ c.maxLocals = 7 ∧ s.vm.findClass R_law = some m.cls ∧ (∀ w ∈ lw_tbl, w.before #[Value.ref b] s = true) ∧ va_X b L xs s s.heap ∧ b < s.heap.size ∧ meth.locks = false ∧ (Jvm.Cond.and given_1 narrow_1).before #[Value.ref b] s = true

/-! what the law has at its entry -/
theorem lts {b : Nat} {s : State} (h : ∀ w ∈ lw_tbl, w.before #[Value.ref b] s = true) : ∀ w ∈ (Cond.initialized R_Law :: lw_g), w.before #[Value.ref b] s = true := fun w hw => h w (List.mem_filter.mp ((List.mem_cons.mp hw).elim (fun e => by rw [e]; exact mw_1_0) id)).1
theorem nest_in : ∀ q ∈ nestL, Cond.methodLinkNest q.1 q.2.1 q.2.2.1 q.2.2.2 ∈ lw_tbl := by decide +kernel
theorem ln_ {b : Nat} {s : State} (h : ∀ w ∈ lw_tbl, w.before #[Value.ref b] s = true) : nwd s := fun q hq => va_Nw.of rfl (h _ (nest_in q hq))
theorem og_refl (s : State) : Og s s := ⟨State.WarmedH.refl s, Nat.le_refl _, fun _ _ => rfl⟩
theorem arg_ok {w : Cond} {s : State} {args A' : Array Value} (hk : okK w = true) (h : w.before args s = true) : w.before A' s = true := by
  unfold okK at hk
  split at hk
  · exact va_tabs rfl rfl h
  · exact va_tabs rfl rfl h
  · exact ls_move (og_refl s) h
  · exact word_at (State.WarmedH.refl s) (good_of_word hk) h
def inT (w : Cond) : Bool := decide (w ∈ lw_tbl) || decide (w = irU) || decide (w = irN)
theorem own_in : ∀ q ∈ thrL, q.all inT = true := by decide +kernel
theorem irU_in : irU ∈ flatC (Jvm.Cond.and given_1 narrow_1) := by decide +kernel
theorem irN_in : irN ∈ flatC (Jvm.Cond.and given_1 narrow_1) := by decide +kernel
theorem str_in : ∀ q ∈ strL, Cond.stringRef q.1 q.2.1 q.2.2 ∈ lw_tbl := by decide +kernel
theorem str_ex : ∀ q ∈ strL, Cond.exactly (.string q.1 q.2.1) "java/lang/String" ∈ flatC (Jvm.Cond.and given_1 narrow_1) := by decide +kernel
theorem lsU_in : Cond.laysStatic Bundle.tN "UNASSIGNED_STACK" Bundle.steD ∈ lw_tbl := by decide +kernel
theorem lsN_in : Cond.laysStatic Bundle.tN "SUPPRESSED_SENTINEL" Bundle.listD ∈ lw_tbl := by decide +kernel
theorem ex_ref {t : Term} {cls : String} {args : Array Value} {s : State} (h : (Cond.exactly t cls).before args s = true) : ∃ a, t.eval args s none [] s = some (.ref a) := by
  cases hv : t.eval args s none [] s with
  | none => simp [Cond.before, Cond.holds, Cond.value, hv] at h
  | some w =>
    cases w with
    | ref a => exact ⟨a, rfl⟩
    | _ => (simp only [Cond.before, Cond.holds, Cond.value, hv] at h; cases hf : s.vm.findClass cls <;> simp [hf] at h)
theorem lT0 {b : Nat} {s : State} (h : ∀ w ∈ lw_tbl, w.before #[Value.ref b] s = true) (hg : (Jvm.Cond.and given_1 narrow_1).before #[Value.ref b] s = true) : T0 s := by
  have hfl := flat_of_before _ hg
  refine ⟨fun q hq w hw => ?_, fun q hq => ?_⟩
  · have h1 := List.all_eq_true.mp (thr_ok q hq) w hw
    have h2 := List.all_eq_true.mp (own_in q hq) w hw
    simp only [okX, inT, Bool.or_eq_true, decide_eq_true_eq] at h1 h2
    by_cases eU : w = irU
    · rw [eU]; exact ir_move (og_refl s) (h _ lsU_in) (hfl _ irU_in)
    · by_cases eN : w = irN
      · rw [eN]; exact ir_move (og_refl s) (h _ lsN_in) (hfl _ irN_in)
      · have k1 : okK w = true := by
          rcases h1 with (h1 | h1) | h1
          · exact h1
          · exact absurd h1 eU
          · exact absurd h1 eN
        have k2 : w ∈ lw_tbl := by
          rcases h2 with (h2 | h2) | h2
          · exact h2
          · exact absurd h2 eU
          · exact absurd h2 eN
        exact arg_ok k1 (h w k2)
  · obtain ⟨a, ha⟩ := ex_ref (hfl _ (str_ex q hq))
    exact ⟨a, vk_R.of (h _ (str_in q hq)) ha⟩
theorem nc_in : ∀ a ∈ exL, ∀ b ∈ exL, a ≠ b → Cond.not (.castable a b) ∈ flatC (Jvm.Cond.and given_1 narrow_1) := by decide +kernel
theorem lNC {b : Nat} {s : State} (hg : (Jvm.Cond.and given_1 narrow_1).before #[Value.ref b] s = true) : NC s := fun x hx y hy hxy => va_Nc.of (flat_of_before _ hg _ (nc_in x hx y hy hxy))
theorem lK {b : Nat} {s : State} (h : ∀ w ∈ lw_tbl, w.before #[Value.ref b] s = true) : ∃ (dC : Nat → ClassId) (dI : Nat → Nat → Nat), va_K (dC, dI) classes [] s := by
  have hts := lts h
  obtain ⟨c0, i0, k0⟩ := u_known (C := R_PS) (T := F_PS) (N := 8) (n := 8) hts (fun w h => List.mem_cons_of_mem _ (in_PS w h)) (hts _ (List.mem_cons_of_mem _ mw_1_18))
  obtain ⟨c1, i1, k1⟩ := u_known (C := R_Web) (T := F_Web) (N := 1) (n := 1) hts (fun w h => List.mem_cons_of_mem _ (in_Web w h)) (hts _ (List.mem_cons_of_mem _ mw_1_26))
  obtain ⟨c2, i2, k2⟩ := u_known (C := R_PT) (T := F_PT) (N := 8) (n := 8) hts (fun w h => List.mem_cons_of_mem _ (in_PT w h)) (hts _ (List.mem_cons_of_mem _ mw_1_37))
  obtain ⟨c3, i3, k3⟩ := u_known (C := R_Pal) (T := F_Pal) (N := 3) (n := 3) hts (fun w h => List.mem_cons_of_mem _ (in_Pal w h)) (hts _ (List.mem_cons_of_mem _ mw_1_68))
  obtain ⟨c4, i4, k4⟩ := u_known (C := R_Desk) (T := F_Desk) (N := 2) (n := 2) hts (fun w h => List.mem_cons_of_mem _ (in_Desk w h)) (hts _ (List.mem_cons_of_mem _ mw_1_84))
  obtain ⟨c5, i5, k5⟩ := u_known (C := R_Mod) (T := F_Mod) (N := 21) (n := 21) hts (fun w h => List.mem_cons_of_mem _ (in_Mod w h)) (hts _ (List.mem_cons_of_mem _ mw_3_151))
  refine ⟨fun k => match k with | 0 => c0 | 1 => c1 | 2 => c2 | 3 => c3 | 4 => c4 | _ => c5, fun k => match k with | 0 => i0 | 1 => i1 | 2 => i2 | 3 => i3 | 4 => i4 | _ => i5, fun cc q hq => ?_, fun k q hq => by simp at hq⟩
  rcases cc with _ | _ | _ | _ | _ | _ | cc
  · cases hq; exact k0
  · cases hq; exact k1
  · cases hq; exact k2
  · cases hq; exact k3
  · cases hq; exact k4
  · cases hq; exact k5
  · simp at hq
theorem lgc {x y : Int64} (h : x = y) : lg_cmp x y = 0 := by
  subst h
  unfold lg_cmp
  rw [if_neg (by rw [gt_iff_lt, Int64.lt_iff_toInt_lt]; omega), if_pos rfl]
theorem nb_all : ∀ j : Nat, j < 10 → f_bc ((0 : Int32) ||| ((1 : Int32) <<< (nI j &&& 31))) = 1 := by decide +kernel
theorem node_bc {i : Int32} (h : ¬ f_isNN i = 0) : Int32.toInt64 (f_bc ((0 : Int32) ||| ((1 : Int32) <<< (i &&& 31)))) = Int32.toInt64 1 := by
  obtain ⟨j, hj, e⟩ := vp_in_of (isNN_in h) (by decide)
  rw [e, nb_all j hj]
theorem lL4 : ∀ L : Nat, L < 5 → ¬ (Int32.ofNat L - 4 < 0) → L = 4 := by decide +kernel
theorem nI_add_ (a b : Nat) : nI a + Int32.ofNat b = nI (a + b) := (Int32.ofNat_add a b).symm
theorem nI_add_lit1 (a : Nat) : nI a + 1 = nI (a + 1) := nI_add_ a 1
theorem nI_add_lit2 (a : Nat) : nI a + 2 = nI (a + 2) := nI_add_ a 2
theorem nI_add_lit3 (a : Nat) : nI a + 3 = nI (a + 3) := nI_add_ a 3
theorem z_inc4 (k : Nat) : nI (4 * k) + Int32.ofInt 4 = nI (4 * (k + 1)) := by
  rw [Nat.mul_add, Nat.mul_one]; exact nI_add_ (4 * k) 4
theorem lawN {L k : Nat} (hL : L ≤ 2048) (hk : k ≤ 513) (h : ¬ (Int32.ofNat L - 4 < nI (4 * k))) : 4 * k + 4 ≤ L := by
  by_cases h4 : 4 ≤ L
  · obtain ⟨d, rfl⟩ := Nat.exists_eq_add_of_le h4
    have e : Int32.ofNat (4 + d) - 4 = nI d := by
      rw [Nat.add_comm, Int32.ofNat_add]
      exact Int32.add_sub_cancel _ _
    rw [e, Int32.lt_iff_toInt_lt, nI_toInt (by omega), nI_toInt (by omega)] at h
    omega
  · exfalso
    apply h
    rw [Int32.lt_iff_toInt_lt, nI_toInt (by omega)]
    have : ∀ L : Nat, L < 4 → (Int32.ofNat L - 4).toInt < 0 := by decide
    have := this L (by omega)
    omega
theorem mx_node : (.codeWith y_Law_node b_Law_node 4 (some .int) [(0, 9, 12, 13), (0, 9, 15, 15)] : Cond) ∈ lw_g := mw_of (tb2 (List.mem_of_getElem? (i := 114) (by decide +kernel))) (by decide +kernel)
theorem mx_line : (.codeWith y_Law_line b_Law_line 5 (some .int) [(0, 10, 13, 21), (0, 10, 17, 23), (0, 10, 21, 15)] : Cond) ∈ lw_g := mw_of (tb2 (List.mem_of_getElem? (i := 211) (by decide +kernel))) (by decide +kernel)
theorem mx_cut : (.codeWith y_Law_cut b_Law_cut 4 (some .int) [(0, 9, 12, 21)] : Cond) ∈ lw_g := mw_of (tb3 (List.mem_of_getElem? (i := 23) (by decide +kernel))) (by decide +kernel)
theorem mx_drop : (.codeWith y_Law_drop b_Law_drop 4 (some .int) [(0, 9, 12, 21)] : Cond) ∈ lw_g := mw_of (tb3 (List.mem_of_getElem? (i := 35) (by decide +kernel))) (by decide +kernel)
theorem mx_end : (.codeWith y_Law_end b_Law_end 5 (some .int) [(0, 10, 13, 21), (0, 10, 17, 13)] : Cond) ∈ lw_g := mw_of (tb3 (List.mem_of_getElem? (i := 43) (by decide +kernel))) (by decide +kernel)
theorem mx_corner : (.codeWith y_Law_corner b_Law_corner 4 (some .int) [(0, 9, 12, 15), (0, 9, 15, 13)] : Cond) ∈ lw_g := mw_of (tb3 (List.mem_of_getElem? (i := 51) (by decide +kernel))) (by decide +kernel)
theorem mx_faces : (.codeWith y_Law_faces b_Law_faces 3 (some .int) [(0, 8, 11, 15)] : Cond) ∈ lw_g := mw_of (tb3 (List.mem_of_getElem? (i := 67) (by decide +kernel))) (by decide +kernel)
theorem mx_could : (.codeWith y_Law_could b_Law_could 5 (some .int) [(0, 17, 20, 21), (0, 17, 24, 23)] : Cond) ∈ lw_g := mw_of (tb3 (List.mem_of_getElem? (i := 75) (by decide +kernel))) (by decide +kernel)
theorem mx_around : (.codeWith y_Law_around b_Law_around 4 (some .int) [(0, 16, 19, 21)] : Cond) ∈ lw_g := mw_of (tb3 (List.mem_of_getElem? (i := 83) (by decide +kernel))) (by decide +kernel)
theorem mx_bridge : (.codeWith y_Law_bridge b_Law_bridge 4 (some .int) [(0, 16, 19, 21)] : Cond) ∈ lw_g := mw_of (tb3 (List.mem_of_getElem? (i := 90) (by decide +kernel))) (by decide +kernel)
theorem mx_hinge : (.codeWith y_Law_hinge b_Law_hinge 4 (some .int) [(0, 16, 19, 21)] : Cond) ∈ lw_g := mw_of (tb3 (List.mem_of_getElem? (i := 97) (by decide +kernel))) (by decide +kernel)
theorem mx_colour : (.codeWith y_Law_colour b_Law_colour 4 (some .int) [(0, 9, 12, 21)] : Cond) ∈ lw_g := mw_of (tb3 (List.mem_of_getElem? (i := 104) (by decide +kernel))) (by decide +kernel)
theorem mx_place : (.codeWith y_Law_place b_Law_place 6 (some .int) [(0, 12, 15, 13), (0, 12, 19, 23)] : Cond) ∈ lw_g := mw_of (tb3 (List.mem_of_getElem? (i := 115) (by decide +kernel))) (by decide +kernel)
theorem mx_at : (.codeWith y_Law_at b_Law_at 5 (some .int) [(0, 10, 13, 13)] : Cond) ∈ lw_g := mw_of (tb3 (List.mem_of_getElem? (i := 127) (by decide +kernel))) (by decide +kernel)
theorem mx_meets : (.codeWith y_Law_meets b_Law_meets 5 (some .int) [(0, 17, 20, 21), (0, 17, 24, 23)] : Cond) ∈ lw_g := mw_of (tb3 (List.mem_of_getElem? (i := 143) (by decide +kernel))) (by decide +kernel)
