set_option maxHeartbeats 4000000 in
set_option maxRecDepth 100000 in
theorem c_thrownM (l : Launch) (dC : Nat → ClassId) (dI : Nat → Nat → Nat) (sz : Nat) (am am_there am_ones am_others am_xs am_ys am_a am_b am_from am_to am_way am_depth am_above am_pile am_next am_leader am_turned am_piece am_numbers am_row : Nat) (zm_thrown : Int32) (zm_many : Int32) (R : Int32) (hR : F_thrownM zm_thrown = some R) : Met l y_Mod_thrown w_Mod_thrown ({ frames := 0, cells := 0, slots := 0, locals := 0 }) (Pre_ dC dI sz [.ref am] [(am, .inr (5, [.int zm_thrown, .ref am_there, .ref am_ones, .ref am_others, .ref am_xs, .ref am_ys, .int zm_many, .ref am_a, .ref am_b, .ref am_from, .ref am_to, .ref am_way, .ref am_depth, .ref am_above, .ref am_pile, .ref am_next, .ref am_leader, .ref am_turned, .ref am_piece, .ref am_numbers, .ref am_row]))] []) (va_Qi (fun (r : Int32) (u : Unit) => r = R) (fun u t => End_ dC dI (va_A [(am, .inr (5, [.int zm_thrown, .ref am_there, .ref am_ones, .ref am_others, .ref am_xs, .ref am_ys, .int zm_many, .ref am_a, .ref am_b, .ref am_from, .ref am_to, .ref am_way, .ref am_depth, .ref am_above, .ref am_pile, .ref am_next, .ref am_leader, .ref am_turned, .ref am_piece, .ref am_numbers, .ref am_row]))] sz) [] [(am, .inr (5, [.int zm_thrown, .ref am_there, .ref am_ones, .ref am_others, .ref am_xs, .ref am_ys, .int zm_many, .ref am_a, .ref am_b, .ref am_from, .ref am_to, .ref am_way, .ref am_depth, .ref am_above, .ref am_pile, .ref am_next, .ref am_leader, .ref am_turned, .ref am_piece, .ref am_numbers, .ref am_row]))] t) (va_A [(am, .inr (5, [.int zm_thrown, .ref am_there, .ref am_ones, .ref am_others, .ref am_xs, .ref am_ys, .int zm_many, .ref am_a, .ref am_b, .ref am_from, .ref am_to, .ref am_way, .ref am_depth, .ref am_above, .ref am_pile, .ref am_next, .ref am_leader, .ref am_turned, .ref am_piece, .ref am_numbers, .ref am_row]))] sz)) 0 0 (va_A [(am, .inr (5, [.int zm_thrown, .ref am_there, .ref am_ones, .ref am_others, .ref am_xs, .ref am_ys, .int zm_many, .ref am_a, .ref am_b, .ref am_from, .ref am_to, .ref am_way, .ref am_depth, .ref am_above, .ref am_pile, .ref am_next, .ref am_leader, .ref am_turned, .ref am_piece, .ref am_numbers, .ref am_row]))] sz) := by
  refine Met.ofW (cc := b_Mod_thrown) (maxL := 1) (ret := (some .int)) (by decide) rfl ?_
  intro p e s m args below meth c s₁ B hml hv
  obtain ⟨hargs, hsz, hP, hK, hD0, hN⟩ := hv
  have hx := B.exec
  have hb := B.bytes
  have hr := B.returns
  have hts := atoms_spec (ws := w_Mod_thrown) B.pre
  have hown : s.vm.findClass R_Mod = some m.cls := findClass_of_methodNamed B.named
  have hlocks := B.notSynchronized
  subst hsz
  have hD := hD0.self (sz := s.heap.size)
  generalize hAe : va_A [(am, .inr (5, [.int zm_thrown, .ref am_there, .ref am_ones, .ref am_others, .ref am_xs, .ref am_ys, .int zm_many, .ref am_a, .ref am_b, .ref am_from, .ref am_to, .ref am_way, .ref am_depth, .ref am_above, .ref am_pile, .ref am_next, .ref am_leader, .ref am_turned, .ref am_piece, .ref am_numbers, .ref am_row]))] s.heap.size = A at hD ⊢
  have hA : ∀ q : Nat, s.heap.size ≤ q → A q := fun q h => by rw [← hAe]; exact Or.inr h
  have hS : va_S A s.heap s.heap [] := va_S.rf
  have hl := lv_entry ([.ref am]) (n := 1) (Nat.le_of_ble_eq_true rfl)
  refine W.eq (congrArg (fun a => entryFrame m a 1) hargs) ?_
  rw [lg_entry_eq]
  generalize (lg_sl ([.ref am]) ++ List.replicate (1 - (lg_sl ([.ref am])).length) Slot.unset).toArray = ls at hl ⊢
  have hl : lv_has ls 1 [(0, .ref am)] := hl
  generalize hH0 : ([] : List Loc) = locs at hS ⊢
  have hI := hR.symm
  rw [F_thrownM] at hI
  refine lv_aload_n hx hb d_Mod_thrown_0 rfl (lv_at hl 0 rfl) ?_
  refine va_get (D := (dC, dI)) (ci := 5) (v := .int zm_thrown) (C := R_Mod) (T := F_Mod) (N := 21) hx hb hts (fun w h => List.mem_cons_of_mem _ (in_Mod w h)) hown hK hP 0 rfl rfl 0 (by decide) (hts _ (List.mem_cons_of_mem _ mw_3_156)) (fun _ h9 => h9) rfl d_Mod_thrown_1 ?_
  exact W.iret (v := zm_thrown) hx hb hr (fun t ht hW => ⟨⟨zm_thrown, (), rfl, (Option.some.inj hI).symm, by rw [ht]; exact hP, va_K.moved hW.alike hK, hD⟩, hS.F ht⟩) hS.2.2 d_Mod_thrown_4
set_option maxHeartbeats 4000000 in
set_option maxRecDepth 100000 in
theorem c_refusedM (l : Launch) (dC : Nat → ClassId) (dI : Nat → Nat → Nat) (sz : Nat) (am am_there am_ones am_others am_xs am_ys am_a am_b am_from am_to am_way am_depth am_above am_pile am_next am_leader am_turned am_piece am_numbers am_row : Nat) (zm_thrown : Int32) (zm_many : Int32) (v1 v2 v3 : Int32) (R : Int32 × Int32) (hR : F_refusedM v1 v2 v3 = some R) : Met l y_Mod_refused w_Mod_refused ({ frames := 0, cells := 0, slots := 0, locals := 0 }) (Pre_ dC dI sz [.ref am, .int v1, .int v2, .int v3] [(am, .inr (5, [.int zm_thrown, .ref am_there, .ref am_ones, .ref am_others, .ref am_xs, .ref am_ys, .int zm_many, .ref am_a, .ref am_b, .ref am_from, .ref am_to, .ref am_way, .ref am_depth, .ref am_above, .ref am_pile, .ref am_next, .ref am_leader, .ref am_turned, .ref am_piece, .ref am_numbers, .ref am_row]))] []) (va_Qi (fun (r : Int32) (u : Int32) => ((r, u) = R) ∧ z01 r) (fun u t => End_ dC dI (va_A [(am, .inr (5, [.int zm_thrown, .ref am_there, .ref am_ones, .ref am_others, .ref am_xs, .ref am_ys, .int zm_many, .ref am_a, .ref am_b, .ref am_from, .ref am_to, .ref am_way, .ref am_depth, .ref am_above, .ref am_pile, .ref am_next, .ref am_leader, .ref am_turned, .ref am_piece, .ref am_numbers, .ref am_row]))] sz) [] [(am, .inr (5, [.int u, .ref am_there, .ref am_ones, .ref am_others, .ref am_xs, .ref am_ys, .int zm_many, .ref am_a, .ref am_b, .ref am_from, .ref am_to, .ref am_way, .ref am_depth, .ref am_above, .ref am_pile, .ref am_next, .ref am_leader, .ref am_turned, .ref am_piece, .ref am_numbers, .ref am_row]))] t) (va_A [(am, .inr (5, [.int zm_thrown, .ref am_there, .ref am_ones, .ref am_others, .ref am_xs, .ref am_ys, .int zm_many, .ref am_a, .ref am_b, .ref am_from, .ref am_to, .ref am_way, .ref am_depth, .ref am_above, .ref am_pile, .ref am_next, .ref am_leader, .ref am_turned, .ref am_piece, .ref am_numbers, .ref am_row]))] sz)) 0 0 (va_A [(am, .inr (5, [.int zm_thrown, .ref am_there, .ref am_ones, .ref am_others, .ref am_xs, .ref am_ys, .int zm_many, .ref am_a, .ref am_b, .ref am_from, .ref am_to, .ref am_way, .ref am_depth, .ref am_above, .ref am_pile, .ref am_next, .ref am_leader, .ref am_turned, .ref am_piece, .ref am_numbers, .ref am_row]))] sz) := by
  refine Met.ofW (cc := b_Mod_refused) (maxL := 4) (ret := (some .boolean)) (by decide) rfl ?_
  intro p e s m args below meth c s₁ B hml hv
  obtain ⟨hargs, hsz, hP, hK, hD0, hN⟩ := hv
  have hx := B.exec
  have hb := B.bytes
  have hr := B.returns
  have hts := atoms_spec (ws := w_Mod_refused) B.pre
  have hown : s.vm.findClass R_Mod = some m.cls := findClass_of_methodNamed B.named
  have hlocks := B.notSynchronized
  subst hsz
  have hD := hD0.self (sz := s.heap.size)
  generalize hAe : va_A [(am, .inr (5, [.int zm_thrown, .ref am_there, .ref am_ones, .ref am_others, .ref am_xs, .ref am_ys, .int zm_many, .ref am_a, .ref am_b, .ref am_from, .ref am_to, .ref am_way, .ref am_depth, .ref am_above, .ref am_pile, .ref am_next, .ref am_leader, .ref am_turned, .ref am_piece, .ref am_numbers, .ref am_row]))] s.heap.size = A at hD ⊢
  have hA : ∀ q : Nat, s.heap.size ≤ q → A q := fun q h => by rw [← hAe]; exact Or.inr h
  have hS : va_S A s.heap s.heap [] := va_S.rf
  have hl := lv_entry ([.ref am, .int v1, .int v2, .int v3]) (n := 4) (Nat.le_of_ble_eq_true rfl)
  refine W.eq (congrArg (fun a => entryFrame m a 4) hargs) ?_
  rw [lg_entry_eq]
  generalize (lg_sl ([.ref am, .int v1, .int v2, .int v3]) ++ List.replicate (4 - (lg_sl ([.ref am, .int v1, .int v2, .int v3])).length) Slot.unset).toArray = ls at hl ⊢
  have hl : lv_has ls 4 [(0, .ref am), (1, .int v1), (2, .int v2), (3, .int v3)] := hl
  generalize hH0 : ([] : List Loc) = locs at hS ⊢
  have hI := hR.symm
  rw [F_refusedM] at hI
  refine lv_aload_n hx hb d_Mod_refused_0 rfl (lv_at hl 0 rfl) ?_
  refine lv_iload_n hx hb d_Mod_refused_1 rfl (lv_at hl 1 rfl) ?_
  obtain ⟨K_j26_2, hK_j26_2⟩ : ∃ K : Int32 → Option (Int32 × Int32), K = (fun (j_26_2 : Int32) => (if j_26_2 ≤ 0 then some ((0 : Int32), j_26_2) else some ((1 : Int32), j_26_2))) := ⟨_, rfl⟩
  have J_26_2 : ∀ (s0_26_2 : Int32) (H : Heap) (locs : List Loc) (ls : Array Slot), some R = (K_j26_2 s0_26_2) → va_P (dC, dI) classes [(am, .inr (5, [.int zm_thrown, .ref am_there, .ref am_ones, .ref am_others, .ref am_xs, .ref am_ys, .int zm_many, .ref am_a, .ref am_b, .ref am_from, .ref am_to, .ref am_way, .ref am_depth, .ref am_above, .ref am_pile, .ref am_next, .ref am_leader, .ref am_turned, .ref am_piece, .ref am_numbers, .ref am_row]))] H → va_D A [(am, .inr (5, [.int zm_thrown, .ref am_there, .ref am_ones, .ref am_others, .ref am_xs, .ref am_ys, .int zm_many, .ref am_a, .ref am_b, .ref am_from, .ref am_to, .ref am_way, .ref am_depth, .ref am_above, .ref am_pile, .ref am_next, .ref am_leader, .ref am_turned, .ref am_piece, .ref am_numbers, .ref am_row]))] → va_S A s.heap H locs → lv_has ls 4 [(0, .ref am), (1, .int v1), (2, .int v2), (3, .int v3)] → W p l e (headSpec w_Mod_refused ({ frames := 0, cells := 0, slots := 0, locals := 0 })).room s m args below meth c H locs 0 0 (MQ below (va_Qi (fun (r : Int32) (u : Int32) => ((r, u) = R) ∧ z01 r) (fun u t => End_ dC dI A [] [(am, .inr (5, [.int u, .ref am_there, .ref am_ones, .ref am_others, .ref am_xs, .ref am_ys, .int zm_many, .ref am_a, .ref am_b, .ref am_from, .ref am_to, .ref am_way, .ref am_depth, .ref am_above, .ref am_pile, .ref am_next, .ref am_leader, .ref am_turned, .ref am_piece, .ref am_numbers, .ref am_row]))] t) A) args s 0 0 A) (F0 m 26 ls [.int s0_26_2, .ref am]) := by
    intro s0_26_2 H locs ls hI hP hD hS hl
    rw [hK_j26_2] at hI
    refine va_put (D := (dC, dI)) (ci := 5) (v := .int s0_26_2) (ty := .int) (C := R_Mod) (T := F_Mod) (N := 21) hx hb hts (fun w h => List.mem_cons_of_mem _ (in_Mod w h)) t_Mod t_Mod_ok n_Mod hown hK hP hD hS 0 rfl rfl 0 (by decide) (hts _ (List.mem_cons_of_mem _ mw_3_156)) (fun _ h9 => h9) rfl (by decide +kernel) rfl rfl (Nat.le_of_ble_eq_true rfl) d_Mod_refused_26 (fun H locs hP hD hS => ?_)
    have hP : va_P (dC, dI) classes [(am, .inr (5, [.int s0_26_2, .ref am_there, .ref am_ones, .ref am_others, .ref am_xs, .ref am_ys, .int zm_many, .ref am_a, .ref am_b, .ref am_from, .ref am_to, .ref am_way, .ref am_depth, .ref am_above, .ref am_pile, .ref am_next, .ref am_leader, .ref am_turned, .ref am_piece, .ref am_numbers, .ref am_row]))] H := hP
    have hD : va_D A [(am, .inr (5, [.int s0_26_2, .ref am_there, .ref am_ones, .ref am_others, .ref am_xs, .ref am_ys, .int zm_many, .ref am_a, .ref am_b, .ref am_from, .ref am_to, .ref am_way, .ref am_depth, .ref am_above, .ref am_pile, .ref am_next, .ref am_leader, .ref am_turned, .ref am_piece, .ref am_numbers, .ref am_row]))] := hD
    refine lv_aload_n hx hb d_Mod_refused_29 rfl (lv_at hl 0 rfl) ?_
    refine va_get (D := (dC, dI)) (ci := 5) (v := .int s0_26_2) (C := R_Mod) (T := F_Mod) (N := 21) hx hb hts (fun w h => List.mem_cons_of_mem _ (in_Mod w h)) hown hK hP 0 rfl rfl 0 (by decide) (hts _ (List.mem_cons_of_mem _ mw_3_156)) (fun _ h9 => h9) rfl d_Mod_refused_30 ?_
    refine lv_if_le (tgt := 40) hx hb d_Mod_refused_33 rfl (fun hc_33 => ?_) (fun hc_33 => ?_)
    · skip
      have hI := hI.trans (if_pos hc_33)
      refine lv_iconst (v := 0) hx hb d_Mod_refused_40 (by decide) ?_
      exact W.zret (v := 0) (ty := .boolean) hx hb hr (nr01 (Or.inl rfl)) (fun t ht hW => ⟨⟨0, (s0_26_2), rfl, ⟨(Option.some.inj hI).symm, (Or.inl rfl)⟩, by rw [ht]; exact hP, va_K.moved hW.alike hK, hD⟩, hS.F ht⟩) hS.2.2 d_Mod_refused_41
    · skip
      have hI := hI.trans (if_neg hc_33)
      refine lv_iconst (v := 1) hx hb d_Mod_refused_36 (by decide) ?_
      refine lv_goto (tgt := 41) hx hb d_Mod_refused_37 rfl ?_
      exact W.zret (v := 1) (ty := .boolean) hx hb hr (nr01 (Or.inr rfl)) (fun t ht hW => ⟨⟨1, (s0_26_2), rfl, ⟨(Option.some.inj hI).symm, (Or.inr rfl)⟩, by rw [ht]; exact hP, va_K.moved hW.alike hK, hD⟩, hS.F ht⟩) hS.2.2 d_Mod_refused_41
  have hI : some R = (K_j26_2 (if v1 = 0 then (if v2 = 0 then (if v3 = 0 then ((0 : Int32)) else ((3 : Int32))) else ((2 : Int32))) else ((1 : Int32)))) := by rw [hK_j26_2]; exact hI
  refine lv_if_eq (tgt := 9) hx hb d_Mod_refused_2 rfl (fun hc_2 => ?_) (fun hc_2 => ?_)
  · skip
    have hI := ob_ifC (C := fun y_ => K_j26_2 y_) hc_2 hI
    refine lv_iload_n hx hb d_Mod_refused_9 rfl (lv_at hl 2 rfl) ?_
    refine lv_if_eq (tgt := 17) hx hb d_Mod_refused_10 rfl (fun hc_10 => ?_) (fun hc_10 => ?_)
    · skip
      have hI := ob_ifC (C := fun y_ => K_j26_2 y_) hc_10 hI
      refine lv_iload_n hx hb d_Mod_refused_17 rfl (lv_at hl 3 rfl) ?_
      refine lv_if_eq (tgt := 25) hx hb d_Mod_refused_18 rfl (fun hc_18 => ?_) (fun hc_18 => ?_)
      · skip
        have hI := ob_ifC (C := fun y_ => K_j26_2 y_) hc_18 hI
        refine lv_iconst (v := 0) hx hb d_Mod_refused_25 (by decide) ?_
        have hl := lv_sub hl [0, 1, 2, 3] rfl
        exact J_26_2 _ _ _ _ hI hP hD hS hl
      · skip
        have hI := ob_elC (C := fun y_ => K_j26_2 y_) hc_18 hI
        refine lv_iconst (v := 3) hx hb d_Mod_refused_21 (by decide) ?_
        refine lv_goto (tgt := 26) hx hb d_Mod_refused_22 rfl ?_
        have hl := lv_sub hl [0, 1, 2, 3] rfl
        exact J_26_2 _ _ _ _ hI hP hD hS hl
    · skip
      have hI := ob_elC (C := fun y_ => K_j26_2 y_) hc_10 hI
      refine lv_iconst (v := 2) hx hb d_Mod_refused_13 (by decide) ?_
      refine lv_goto (tgt := 26) hx hb d_Mod_refused_14 rfl ?_
      have hl := lv_sub hl [0, 1, 2, 3] rfl
      exact J_26_2 _ _ _ _ hI hP hD hS hl
  · skip
    have hI := ob_elC (C := fun y_ => K_j26_2 y_) hc_2 hI
    refine lv_iconst (v := 1) hx hb d_Mod_refused_5 (by decide) ?_
    refine lv_goto (tgt := 26) hx hb d_Mod_refused_6 rfl ?_
    have hl := lv_sub hl [0, 1, 2, 3] rfl
    exact J_26_2 _ _ _ _ hI hP hD hS hl
set_option maxHeartbeats 4000000 in
set_option maxRecDepth 100000 in
theorem c_isThereM (l : Launch) (dC : Nat → ClassId) (dI : Nat → Nat → Nat) (sz : Nat) (am am_there am_ones am_others am_xs am_ys am_a am_b am_from am_to am_way am_depth am_above am_pile am_next am_leader am_turned am_piece am_numbers am_row : Nat) (km_there : ClassId) (zm_thrown : Int32) (zm_many : Int32) (zm_there : Nat → Int32) (v1 : Int32) (R : Int32) (hR : F_isThereM zm_there v1 = some R) : Met l y_Mod_isThere w_Mod_isThere ({ frames := 1, cells := 0, slots := 0, locals := 20 }) (Pre_ dC dI sz [.ref am, .int v1] [(am, .inr (5, [.int zm_thrown, .ref am_there, .ref am_ones, .ref am_others, .ref am_xs, .ref am_ys, .int zm_many, .ref am_a, .ref am_b, .ref am_from, .ref am_to, .ref am_way, .ref am_depth, .ref am_above, .ref am_pile, .ref am_next, .ref am_leader, .ref am_turned, .ref am_piece, .ref am_numbers, .ref am_row])), (am_there, .inl (km_there, 10, .inl zm_there))] [(km_there, .boolean)]) (va_Qi (fun (r : Int32) (u : Unit) => (r = R) ∧ z01 r) (fun u t => End_ dC dI (va_A [(am, .inr (5, [.int zm_thrown, .ref am_there, .ref am_ones, .ref am_others, .ref am_xs, .ref am_ys, .int zm_many, .ref am_a, .ref am_b, .ref am_from, .ref am_to, .ref am_way, .ref am_depth, .ref am_above, .ref am_pile, .ref am_next, .ref am_leader, .ref am_turned, .ref am_piece, .ref am_numbers, .ref am_row])), (am_there, .inl (km_there, 10, .inl zm_there))] sz) [(km_there, .boolean)] [(am, .inr (5, [.int zm_thrown, .ref am_there, .ref am_ones, .ref am_others, .ref am_xs, .ref am_ys, .int zm_many, .ref am_a, .ref am_b, .ref am_from, .ref am_to, .ref am_way, .ref am_depth, .ref am_above, .ref am_pile, .ref am_next, .ref am_leader, .ref am_turned, .ref am_piece, .ref am_numbers, .ref am_row])), (am_there, .inl (km_there, 10, .inl zm_there))] t) (va_A [(am, .inr (5, [.int zm_thrown, .ref am_there, .ref am_ones, .ref am_others, .ref am_xs, .ref am_ys, .int zm_many, .ref am_a, .ref am_b, .ref am_from, .ref am_to, .ref am_way, .ref am_depth, .ref am_above, .ref am_pile, .ref am_next, .ref am_leader, .ref am_turned, .ref am_piece, .ref am_numbers, .ref am_row])), (am_there, .inl (km_there, 10, .inl zm_there))] sz)) 0 0 (va_A [(am, .inr (5, [.int zm_thrown, .ref am_there, .ref am_ones, .ref am_others, .ref am_xs, .ref am_ys, .int zm_many, .ref am_a, .ref am_b, .ref am_from, .ref am_to, .ref am_way, .ref am_depth, .ref am_above, .ref am_pile, .ref am_next, .ref am_leader, .ref am_turned, .ref am_piece, .ref am_numbers, .ref am_row])), (am_there, .inl (km_there, 10, .inl zm_there))] sz) := by
  refine Met.ofW (cc := b_Mod_isThere) (maxL := 2) (ret := (some .boolean)) (by decide) rfl ?_
  intro p e s m args below meth c s₁ B hml hv
  obtain ⟨hargs, hsz, hP, hK, hD0, hN⟩ := hv
  have hx := B.exec
  have hb := B.bytes
  have hr := B.returns
  have hts := atoms_spec (ws := w_Mod_isThere) B.pre
  have hown : s.vm.findClass R_Mod = some m.cls := findClass_of_methodNamed B.named
  have hlocks := B.notSynchronized
  subst hsz
  have hD := hD0.self (sz := s.heap.size)
  generalize hAe : va_A [(am, .inr (5, [.int zm_thrown, .ref am_there, .ref am_ones, .ref am_others, .ref am_xs, .ref am_ys, .int zm_many, .ref am_a, .ref am_b, .ref am_from, .ref am_to, .ref am_way, .ref am_depth, .ref am_above, .ref am_pile, .ref am_next, .ref am_leader, .ref am_turned, .ref am_piece, .ref am_numbers, .ref am_row])), (am_there, .inl (km_there, 10, .inl zm_there))] s.heap.size = A at hD ⊢
  have hA : ∀ q : Nat, s.heap.size ≤ q → A q := fun q h => by rw [← hAe]; exact Or.inr h
  have hS : va_S A s.heap s.heap [] := va_S.rf
  have hl := lv_entry ([.ref am, .int v1]) (n := 2) (Nat.le_of_ble_eq_true rfl)
  refine W.eq (congrArg (fun a => entryFrame m a 2) hargs) ?_
  rw [lg_entry_eq]
  generalize (lg_sl ([.ref am, .int v1]) ++ List.replicate (2 - (lg_sl ([.ref am, .int v1])).length) Slot.unset).toArray = ls at hl ⊢
  have hl : lv_has ls 2 [(0, .ref am), (1, .int v1)] := hl
  generalize hH0 : ([] : List Loc) = locs at hS ⊢
  have hI := hR.symm
  rw [F_isThereM] at hI
  refine lv_iload_n hx hb d_Mod_isThere_0 rfl (lv_at hl 1 rfl) ?_
  have hPc := hP.sub (ws' := []) [] rfl
  have hDc := hD.sub (ws' := []) [] (by decide) rfl
  have hKc := hK.sub (tys' := []) [] rfl
  have hFc := va_free (wc := []) hD hS hA [] rfl
  refine va_calli (va_runS (As := [.int v1]) (rest := []) ⟨hx, hb, hml, hown, hts⟩ (c_isNode l dC dI s.heap.size v1) (cwS 1 hts (gi3 mw_3_229 mw_3_230 mw_1_6 mw_3_231) rfl rfl rfl (by decide +kernel) ⟨Nat.le_of_ble_eq_true rfl, Nat.le_of_ble_eq_true rfl⟩) ⟨fb_, pre_ hPc hKc hDc hN⟩ rfl rfl hl.1 rfl (lv_room (Nat.le_of_ble_eq_true rfl)) d_Mod_isThere_1 ⟨Nat.le_of_ble_eq_true rfl, Nat.le_of_ble_eq_true rfl⟩) hS (fun q _ h => hFc q h) hFc (fun r_1 u t H locs ht hvm hp_1 hB hz1 hk1 hS => ?_)
  obtain ⟨hP1, -, hD1⟩ := hB
  rw [ht] at hP1
  obtain ⟨hP, hD⟩ := va_join (wr := [(am, .inr (5, [.int zm_thrown, .ref am_there, .ref am_ones, .ref am_others, .ref am_xs, .ref am_ys, .int zm_many, .ref am_a, .ref am_b, .ref am_from, .ref am_to, .ref am_way, .ref am_depth, .ref am_above, .ref am_pile, .ref am_next, .ref am_leader, .ref am_turned, .ref am_piece, .ref am_numbers, .ref am_row])), (am_there, .inl (km_there, 10, .inl zm_there))]) (w1 := []) hP hD [] [0, 1] rfl rfl (by decide) (by decide) hk1 hFc hP1 hD1
  have hp_1 : r_1 = f_isNN v1 := hp_1
  subst hp_1
  have hP : va_P (dC, dI) classes [(am, .inr (5, [.int zm_thrown, .ref am_there, .ref am_ones, .ref am_others, .ref am_xs, .ref am_ys, .int zm_many, .ref am_a, .ref am_b, .ref am_from, .ref am_to, .ref am_way, .ref am_depth, .ref am_above, .ref am_pile, .ref am_next, .ref am_leader, .ref am_turned, .ref am_piece, .ref am_numbers, .ref am_row])), (am_there, .inl (km_there, 10, .inl zm_there))] H := hP
  have hD : va_D A [(am, .inr (5, [.int zm_thrown, .ref am_there, .ref am_ones, .ref am_others, .ref am_xs, .ref am_ys, .int zm_many, .ref am_a, .ref am_b, .ref am_from, .ref am_to, .ref am_way, .ref am_depth, .ref am_above, .ref am_pile, .ref am_next, .ref am_leader, .ref am_turned, .ref am_piece, .ref am_numbers, .ref am_row])), (am_there, .inl (km_there, 10, .inl zm_there))] := hD
  refine lv_if_eq (tgt := 20) hx hb d_Mod_isThere_4 rfl (fun hc_4 => ?_) (fun hc_4 => ?_)
  · skip
    have hI := hI.trans (if_pos hc_4)
    refine lv_iconst (v := 0) hx hb d_Mod_isThere_20 (by decide) ?_
    exact W.zret (v := 0) (ty := .boolean) hx hb hr (nr01 (Or.inl rfl)) (fun t ht hW => ⟨⟨0, (), rfl, ⟨(Option.some.inj hI).symm, (Or.inl rfl)⟩, by rw [ht]; exact hP, va_K.moved hW.alike hK, hD⟩, hS.F ht⟩) hS.2.2 d_Mod_isThere_21
  · skip
    have hI := hI.trans (if_neg hc_4)
    refine lv_aload_n hx hb d_Mod_isThere_7 rfl (lv_at hl 0 rfl) ?_
    refine va_get (D := (dC, dI)) (ci := 5) (v := .ref am_there) (C := R_Mod) (T := F_Mod) (N := 21) hx hb hts (fun w h => List.mem_cons_of_mem _ (in_Mod w h)) hown hK hP 0 rfl rfl 1 (by decide) (hts _ (List.mem_cons_of_mem _ mw_3_157)) (fun _ h9 => h9) rfl d_Mod_isThere_8 ?_
    refine lv_iload_n hx hb d_Mod_isThere_11 rfl (lv_at hl 1 rfl) ?_
    have hi_12 := ob_in hI
    have hI := ob_th hI
    refine va_zald (D := (dC, dI)) hx hb hK hP 1 0 rfl rfl hi_12 d_Mod_isThere_12 ?_
    refine lv_if_eq (tgt := 20) hx hb d_Mod_isThere_13 rfl (fun hc_13 => ?_) (fun hc_13 => ?_)
    · skip
      have hI := hI.trans (if_pos hc_13)
      refine lv_iconst (v := 0) hx hb d_Mod_isThere_20 (by decide) ?_
      exact W.zret (v := 0) (ty := .boolean) hx hb hr (nr01 (Or.inl rfl)) (fun t ht hW => ⟨⟨0, (), rfl, ⟨(Option.some.inj hI).symm, (Or.inl rfl)⟩, by rw [ht]; exact hP, va_K.moved hW.alike hK, hD⟩, hS.F ht⟩) hS.2.2 d_Mod_isThere_21
    · skip
      have hI := hI.trans (if_neg hc_13)
      refine lv_iconst (v := 1) hx hb d_Mod_isThere_16 (by decide) ?_
      refine lv_goto (tgt := 21) hx hb d_Mod_isThere_17 rfl ?_
      exact W.zret (v := 1) (ty := .boolean) hx hb hr (nr01 (Or.inr rfl)) (fun t ht hW => ⟨⟨1, (), rfl, ⟨(Option.some.inj hI).symm, (Or.inr rfl)⟩, by rw [ht]; exact hP, va_K.moved hW.alike hK, hD⟩, hS.F ht⟩) hS.2.2 d_Mod_isThere_21
set_option maxHeartbeats 4000000 in
set_option maxRecDepth 100000 in
theorem c_isLineM (l : Launch) (dC : Nat → ClassId) (dI : Nat → Nat → Nat) (sz : Nat) (am am_there am_ones am_others am_xs am_ys am_a am_b am_from am_to am_way am_depth am_above am_pile am_next am_leader am_turned am_piece am_numbers am_row : Nat) (km_ones : ClassId) (zm_thrown : Int32) (zm_many : Int32) (zm_ones : Nat → Int32) (v1 : Int32) (R : Int32) (hR : F_isLineM zm_ones v1 = some R) : Met l y_Mod_isLine w_Mod_isLine ({ frames := 0, cells := 0, slots := 0, locals := 0 }) (Pre_ dC dI sz [.ref am, .int v1] [(am, .inr (5, [.int zm_thrown, .ref am_there, .ref am_ones, .ref am_others, .ref am_xs, .ref am_ys, .int zm_many, .ref am_a, .ref am_b, .ref am_from, .ref am_to, .ref am_way, .ref am_depth, .ref am_above, .ref am_pile, .ref am_next, .ref am_leader, .ref am_turned, .ref am_piece, .ref am_numbers, .ref am_row])), (am_ones, .inl (km_ones, 24, .inl zm_ones))] [(km_ones, .int)]) (va_Qi (fun (r : Int32) (u : Unit) => (r = R) ∧ z01 r) (fun u t => End_ dC dI (va_A [(am, .inr (5, [.int zm_thrown, .ref am_there, .ref am_ones, .ref am_others, .ref am_xs, .ref am_ys, .int zm_many, .ref am_a, .ref am_b, .ref am_from, .ref am_to, .ref am_way, .ref am_depth, .ref am_above, .ref am_pile, .ref am_next, .ref am_leader, .ref am_turned, .ref am_piece, .ref am_numbers, .ref am_row])), (am_ones, .inl (km_ones, 24, .inl zm_ones))] sz) [(km_ones, .int)] [(am, .inr (5, [.int zm_thrown, .ref am_there, .ref am_ones, .ref am_others, .ref am_xs, .ref am_ys, .int zm_many, .ref am_a, .ref am_b, .ref am_from, .ref am_to, .ref am_way, .ref am_depth, .ref am_above, .ref am_pile, .ref am_next, .ref am_leader, .ref am_turned, .ref am_piece, .ref am_numbers, .ref am_row])), (am_ones, .inl (km_ones, 24, .inl zm_ones))] t) (va_A [(am, .inr (5, [.int zm_thrown, .ref am_there, .ref am_ones, .ref am_others, .ref am_xs, .ref am_ys, .int zm_many, .ref am_a, .ref am_b, .ref am_from, .ref am_to, .ref am_way, .ref am_depth, .ref am_above, .ref am_pile, .ref am_next, .ref am_leader, .ref am_turned, .ref am_piece, .ref am_numbers, .ref am_row])), (am_ones, .inl (km_ones, 24, .inl zm_ones))] sz)) 0 0 (va_A [(am, .inr (5, [.int zm_thrown, .ref am_there, .ref am_ones, .ref am_others, .ref am_xs, .ref am_ys, .int zm_many, .ref am_a, .ref am_b, .ref am_from, .ref am_to, .ref am_way, .ref am_depth, .ref am_above, .ref am_pile, .ref am_next, .ref am_leader, .ref am_turned, .ref am_piece, .ref am_numbers, .ref am_row])), (am_ones, .inl (km_ones, 24, .inl zm_ones))] sz) := by
  refine Met.ofW (cc := b_Mod_isLine) (maxL := 2) (ret := (some .boolean)) (by decide) rfl ?_
  intro p e s m args below meth c s₁ B hml hv
  obtain ⟨hargs, hsz, hP, hK, hD0, hN⟩ := hv
  have hx := B.exec
  have hb := B.bytes
  have hr := B.returns
  have hts := atoms_spec (ws := w_Mod_isLine) B.pre
  have hown : s.vm.findClass R_Mod = some m.cls := findClass_of_methodNamed B.named
  have hlocks := B.notSynchronized
  subst hsz
  have hD := hD0.self (sz := s.heap.size)
  generalize hAe : va_A [(am, .inr (5, [.int zm_thrown, .ref am_there, .ref am_ones, .ref am_others, .ref am_xs, .ref am_ys, .int zm_many, .ref am_a, .ref am_b, .ref am_from, .ref am_to, .ref am_way, .ref am_depth, .ref am_above, .ref am_pile, .ref am_next, .ref am_leader, .ref am_turned, .ref am_piece, .ref am_numbers, .ref am_row])), (am_ones, .inl (km_ones, 24, .inl zm_ones))] s.heap.size = A at hD ⊢
  have hA : ∀ q : Nat, s.heap.size ≤ q → A q := fun q h => by rw [← hAe]; exact Or.inr h
  have hS : va_S A s.heap s.heap [] := va_S.rf
  have hl := lv_entry ([.ref am, .int v1]) (n := 2) (Nat.le_of_ble_eq_true rfl)
  refine W.eq (congrArg (fun a => entryFrame m a 2) hargs) ?_
  rw [lg_entry_eq]
  generalize (lg_sl ([.ref am, .int v1]) ++ List.replicate (2 - (lg_sl ([.ref am, .int v1])).length) Slot.unset).toArray = ls at hl ⊢
  have hl : lv_has ls 2 [(0, .ref am), (1, .int v1)] := hl
  generalize hH0 : ([] : List Loc) = locs at hS ⊢
  have hI := hR.symm
  rw [F_isLineM] at hI
  refine lv_iload_n hx hb d_Mod_isLine_0 rfl (lv_at hl 1 rfl) ?_
  refine lv_if_lt (tgt := 23) hx hb d_Mod_isLine_1 rfl (fun hc_1 => ?_) (fun hc_1 => ?_)
  · skip
    have hI := hI.trans (if_pos hc_1)
    refine lv_iconst (v := 0) hx hb d_Mod_isLine_23 (by decide) ?_
    exact W.zret (v := 0) (ty := .boolean) hx hb hr (nr01 (Or.inl rfl)) (fun t ht hW => ⟨⟨0, (), rfl, ⟨(Option.some.inj hI).symm, (Or.inl rfl)⟩, by rw [ht]; exact hP, va_K.moved hW.alike hK, hD⟩, hS.F ht⟩) hS.2.2 d_Mod_isLine_24
  · skip
    have hI := hI.trans (if_neg hc_1)
    refine lv_iload_n hx hb d_Mod_isLine_4 rfl (lv_at hl 1 rfl) ?_
    refine lv_bipush (v := 24) hx hb d_Mod_isLine_5 (by decide) ?_
    refine lv_icmp_ge (tgt := 23) hx hb d_Mod_isLine_7 rfl (fun hc_7 => ?_) (fun hc_7 => ?_)
    · skip
      have hI := hI.trans (if_pos hc_7)
      refine lv_iconst (v := 0) hx hb d_Mod_isLine_23 (by decide) ?_
      exact W.zret (v := 0) (ty := .boolean) hx hb hr (nr01 (Or.inl rfl)) (fun t ht hW => ⟨⟨0, (), rfl, ⟨(Option.some.inj hI).symm, (Or.inl rfl)⟩, by rw [ht]; exact hP, va_K.moved hW.alike hK, hD⟩, hS.F ht⟩) hS.2.2 d_Mod_isLine_24
    · skip
      have hI := hI.trans (if_neg hc_7)
      refine lv_aload_n hx hb d_Mod_isLine_10 rfl (lv_at hl 0 rfl) ?_
      refine va_get (D := (dC, dI)) (ci := 5) (v := .ref am_ones) (C := R_Mod) (T := F_Mod) (N := 21) hx hb hts (fun w h => List.mem_cons_of_mem _ (in_Mod w h)) hown hK hP 0 rfl rfl 2 (by decide) (hts _ (List.mem_cons_of_mem _ mw_3_158)) (fun _ h9 => h9) rfl d_Mod_isLine_11 ?_
      refine lv_iload_n hx hb d_Mod_isLine_14 rfl (lv_at hl 1 rfl) ?_
      have hi_15 := ob_in hI
      have hI := ob_th hI
      refine va_iald (D := (dC, dI)) hx hb hK hP 1 0 rfl rfl hi_15 d_Mod_isLine_15 ?_
      refine lv_if_lt (tgt := 23) hx hb d_Mod_isLine_16 rfl (fun hc_16 => ?_) (fun hc_16 => ?_)
      · skip
        have hI := hI.trans (if_pos hc_16)
        refine lv_iconst (v := 0) hx hb d_Mod_isLine_23 (by decide) ?_
        exact W.zret (v := 0) (ty := .boolean) hx hb hr (nr01 (Or.inl rfl)) (fun t ht hW => ⟨⟨0, (), rfl, ⟨(Option.some.inj hI).symm, (Or.inl rfl)⟩, by rw [ht]; exact hP, va_K.moved hW.alike hK, hD⟩, hS.F ht⟩) hS.2.2 d_Mod_isLine_24
      · skip
        have hI := hI.trans (if_neg hc_16)
        refine lv_iconst (v := 1) hx hb d_Mod_isLine_19 (by decide) ?_
        refine lv_goto (tgt := 24) hx hb d_Mod_isLine_20 rfl ?_
        exact W.zret (v := 1) (ty := .boolean) hx hb hr (nr01 (Or.inr rfl)) (fun t ht hW => ⟨⟨1, (), rfl, ⟨(Option.some.inj hI).symm, (Or.inr rfl)⟩, by rw [ht]; exact hP, va_K.moved hW.alike hK, hD⟩, hS.F ht⟩) hS.2.2 d_Mod_isLine_24
set_option maxHeartbeats 4000000 in
set_option maxRecDepth 100000 in
theorem c_lineBetweenM (l : Launch) (dC : Nat → ClassId) (dI : Nat → Nat → Nat) (sz : Nat) (am am_there am_ones am_others am_xs am_ys am_a am_b am_from am_to am_way am_depth am_above am_pile am_next am_leader am_turned am_piece am_numbers am_row : Nat) (km_ones km_others : ClassId) (zm_thrown : Int32) (zm_many : Int32) (zm_ones : Nat → Int32) (zm_others : Nat → Int32) (v1 v2 : Int32) (R : Int32) (hR : F_lineBetweenM zm_ones zm_others v1 v2 = some R) : Met l y_Mod_lineBetween w_Mod_lineBetween ({ frames := 0, cells := 0, slots := 0, locals := 0 }) (Pre_ dC dI sz [.ref am, .int v1, .int v2] [(am, .inr (5, [.int zm_thrown, .ref am_there, .ref am_ones, .ref am_others, .ref am_xs, .ref am_ys, .int zm_many, .ref am_a, .ref am_b, .ref am_from, .ref am_to, .ref am_way, .ref am_depth, .ref am_above, .ref am_pile, .ref am_next, .ref am_leader, .ref am_turned, .ref am_piece, .ref am_numbers, .ref am_row])), (am_ones, .inl (km_ones, 24, .inl zm_ones)), (am_others, .inl (km_others, 24, .inl zm_others))] [(km_ones, .int), (km_others, .int)]) (va_Qi (fun (r : Int32) (u : Unit) => r = R) (fun u t => End_ dC dI (va_A [(am, .inr (5, [.int zm_thrown, .ref am_there, .ref am_ones, .ref am_others, .ref am_xs, .ref am_ys, .int zm_many, .ref am_a, .ref am_b, .ref am_from, .ref am_to, .ref am_way, .ref am_depth, .ref am_above, .ref am_pile, .ref am_next, .ref am_leader, .ref am_turned, .ref am_piece, .ref am_numbers, .ref am_row])), (am_ones, .inl (km_ones, 24, .inl zm_ones)), (am_others, .inl (km_others, 24, .inl zm_others))] sz) [(km_ones, .int), (km_others, .int)] [(am, .inr (5, [.int zm_thrown, .ref am_there, .ref am_ones, .ref am_others, .ref am_xs, .ref am_ys, .int zm_many, .ref am_a, .ref am_b, .ref am_from, .ref am_to, .ref am_way, .ref am_depth, .ref am_above, .ref am_pile, .ref am_next, .ref am_leader, .ref am_turned, .ref am_piece, .ref am_numbers, .ref am_row])), (am_ones, .inl (km_ones, 24, .inl zm_ones)), (am_others, .inl (km_others, 24, .inl zm_others))] t) (va_A [(am, .inr (5, [.int zm_thrown, .ref am_there, .ref am_ones, .ref am_others, .ref am_xs, .ref am_ys, .int zm_many, .ref am_a, .ref am_b, .ref am_from, .ref am_to, .ref am_way, .ref am_depth, .ref am_above, .ref am_pile, .ref am_next, .ref am_leader, .ref am_turned, .ref am_piece, .ref am_numbers, .ref am_row])), (am_ones, .inl (km_ones, 24, .inl zm_ones)), (am_others, .inl (km_others, 24, .inl zm_others))] sz)) 0 0 (va_A [(am, .inr (5, [.int zm_thrown, .ref am_there, .ref am_ones, .ref am_others, .ref am_xs, .ref am_ys, .int zm_many, .ref am_a, .ref am_b, .ref am_from, .ref am_to, .ref am_way, .ref am_depth, .ref am_above, .ref am_pile, .ref am_next, .ref am_leader, .ref am_turned, .ref am_piece, .ref am_numbers, .ref am_row])), (am_ones, .inl (km_ones, 24, .inl zm_ones)), (am_others, .inl (km_others, 24, .inl zm_others))] sz) := by
  refine Met.ofW (cc := b_Mod_lineBetween) (maxL := 5) (ret := (some .int)) (by decide) rfl ?_
  intro p e s m args below meth c s₁ B hml hv
  obtain ⟨hargs, hsz, hP, hK, hD0, hN⟩ := hv
  have hx := B.exec
  have hb := B.bytes
  have hr := B.returns
  have hts := atoms_spec (ws := w_Mod_lineBetween) B.pre
  have hown : s.vm.findClass R_Mod = some m.cls := findClass_of_methodNamed B.named
  have hlocks := B.notSynchronized
  subst hsz
  have hD := hD0.self (sz := s.heap.size)
  generalize hAe : va_A [(am, .inr (5, [.int zm_thrown, .ref am_there, .ref am_ones, .ref am_others, .ref am_xs, .ref am_ys, .int zm_many, .ref am_a, .ref am_b, .ref am_from, .ref am_to, .ref am_way, .ref am_depth, .ref am_above, .ref am_pile, .ref am_next, .ref am_leader, .ref am_turned, .ref am_piece, .ref am_numbers, .ref am_row])), (am_ones, .inl (km_ones, 24, .inl zm_ones)), (am_others, .inl (km_others, 24, .inl zm_others))] s.heap.size = A at hD ⊢
  have hA : ∀ q : Nat, s.heap.size ≤ q → A q := fun q h => by rw [← hAe]; exact Or.inr h
  have hS : va_S A s.heap s.heap [] := va_S.rf
  have hl := lv_entry ([.ref am, .int v1, .int v2]) (n := 5) (Nat.le_of_ble_eq_true rfl)
  refine W.eq (congrArg (fun a => entryFrame m a 5) hargs) ?_
  rw [lg_entry_eq]
  generalize (lg_sl ([.ref am, .int v1, .int v2]) ++ List.replicate (5 - (lg_sl ([.ref am, .int v1, .int v2])).length) Slot.unset).toArray = ls at hl ⊢
  have hl : lv_has ls 5 [(0, .ref am), (1, .int v1), (2, .int v2)] := hl
  generalize hH0 : ([] : List Loc) = locs at hS ⊢
  have hI := hR.symm
  rw [F_lineBetweenM] at hI
  refine lv_iconst (v := -1) hx hb d_Mod_lineBetween_0 (by decide) ?_
  refine lv_istore_n (lv' := [(3, .int ((-1))), (0, .ref am), (1, .int v1), (2, .int v2)]) hx hb d_Mod_lineBetween_1 rfl hl (by decide) rfl (fun ls hl => ?_)
  refine lv_iconst (v := 0) hx hb d_Mod_lineBetween_2 (by decide) ?_
  refine lv_istore (lv' := [(4, .int 0), (3, .int ((-1))), (0, .ref am), (1, .int v1), (2, .int v2)]) hx hb d_Mod_lineBetween_3 hl (by decide) rfl (fun ls hl => ?_)
  obtain ⟨K_5, hK_5⟩ : ∃ K : Int32 → Option (Int32), K = (fun v3_5 => some (v3_5)) := ⟨_, rfl⟩
  have X_5 : ∀ (k_5 : Nat) (v3_5 : Int32) (H : Heap) (locs : List Loc) (ls : Array Slot), some R = K_5 v3_5 → va_P (dC, dI) classes [(am, .inr (5, [.int zm_thrown, .ref am_there, .ref am_ones, .ref am_others, .ref am_xs, .ref am_ys, .int zm_many, .ref am_a, .ref am_b, .ref am_from, .ref am_to, .ref am_way, .ref am_depth, .ref am_above, .ref am_pile, .ref am_next, .ref am_leader, .ref am_turned, .ref am_piece, .ref am_numbers, .ref am_row])), (am_ones, .inl (km_ones, 24, .inl zm_ones)), (am_others, .inl (km_others, 24, .inl zm_others))] H → va_D A [(am, .inr (5, [.int zm_thrown, .ref am_there, .ref am_ones, .ref am_others, .ref am_xs, .ref am_ys, .int zm_many, .ref am_a, .ref am_b, .ref am_from, .ref am_to, .ref am_way, .ref am_depth, .ref am_above, .ref am_pile, .ref am_next, .ref am_leader, .ref am_turned, .ref am_piece, .ref am_numbers, .ref am_row])), (am_ones, .inl (km_ones, 24, .inl zm_ones)), (am_others, .inl (km_others, 24, .inl zm_others))] → va_S A s.heap H locs → lv_has ls 5 [(0, .ref am), (1, .int v1), (2, .int v2), (3, .int v3_5), (4, .int (nI k_5))] → W p l e (headSpec w_Mod_lineBetween ({ frames := 0, cells := 0, slots := 0, locals := 0 })).room s m args below meth c H locs 0 0 (MQ below (va_Qi (fun (r : Int32) (u : Unit) => r = R) (fun u t => End_ dC dI A [(km_ones, .int), (km_others, .int)] [(am, .inr (5, [.int zm_thrown, .ref am_there, .ref am_ones, .ref am_others, .ref am_xs, .ref am_ys, .int zm_many, .ref am_a, .ref am_b, .ref am_from, .ref am_to, .ref am_way, .ref am_depth, .ref am_above, .ref am_pile, .ref am_next, .ref am_leader, .ref am_turned, .ref am_piece, .ref am_numbers, .ref am_row])), (am_ones, .inl (km_ones, 24, .inl zm_ones)), (am_others, .inl (km_others, 24, .inl zm_others))] t) A) args s 0 0 A) (F0 m 79 ls []) := by
    intro k_5 v3_5 H locs ls hI hP hD hS hl
    rw [hK_5] at hI
    refine lv_iload_n hx hb d_Mod_lineBetween_79 rfl (lv_at hl 3 rfl) ?_
    exact W.iret (v := v3_5) hx hb hr (fun t ht hW => ⟨⟨v3_5, (), rfl, (Option.some.inj hI).symm, by rw [ht]; exact hP, va_K.moved hW.alike hK, hD⟩, hS.F ht⟩) hS.2.2 d_Mod_lineBetween_80
  have L_5 : ∀ (n_5 k_5 : Nat) (v3_5 : Int32) (H : Heap) (locs : List Loc) (ls : Array Slot), k_5 + n_5 = 24 → some R = F_lineBetweenM_L5 K_5 zm_ones zm_others v1 v2 n_5 k_5 v3_5 → va_P (dC, dI) classes [(am, .inr (5, [.int zm_thrown, .ref am_there, .ref am_ones, .ref am_others, .ref am_xs, .ref am_ys, .int zm_many, .ref am_a, .ref am_b, .ref am_from, .ref am_to, .ref am_way, .ref am_depth, .ref am_above, .ref am_pile, .ref am_next, .ref am_leader, .ref am_turned, .ref am_piece, .ref am_numbers, .ref am_row])), (am_ones, .inl (km_ones, 24, .inl zm_ones)), (am_others, .inl (km_others, 24, .inl zm_others))] H → va_D A [(am, .inr (5, [.int zm_thrown, .ref am_there, .ref am_ones, .ref am_others, .ref am_xs, .ref am_ys, .int zm_many, .ref am_a, .ref am_b, .ref am_from, .ref am_to, .ref am_way, .ref am_depth, .ref am_above, .ref am_pile, .ref am_next, .ref am_leader, .ref am_turned, .ref am_piece, .ref am_numbers, .ref am_row])), (am_ones, .inl (km_ones, 24, .inl zm_ones)), (am_others, .inl (km_others, 24, .inl zm_others))] → va_S A s.heap H locs → lv_has ls 5 [(0, .ref am), (1, .int v1), (2, .int v2), (3, .int v3_5), (4, .int (nI k_5))] → W p l e (headSpec w_Mod_lineBetween ({ frames := 0, cells := 0, slots := 0, locals := 0 })).room s m args below meth c H locs 0 0 (MQ below (va_Qi (fun (r : Int32) (u : Unit) => r = R) (fun u t => End_ dC dI A [(km_ones, .int), (km_others, .int)] [(am, .inr (5, [.int zm_thrown, .ref am_there, .ref am_ones, .ref am_others, .ref am_xs, .ref am_ys, .int zm_many, .ref am_a, .ref am_b, .ref am_from, .ref am_to, .ref am_way, .ref am_depth, .ref am_above, .ref am_pile, .ref am_next, .ref am_leader, .ref am_turned, .ref am_piece, .ref am_numbers, .ref am_row])), (am_ones, .inl (km_ones, 24, .inl zm_ones)), (am_others, .inl (km_others, 24, .inl zm_others))] t) A) args s 0 0 A) (F0 m 5 ls []) := by
    intro n_5
    induction n_5 with
    | zero =>
      intro k_5 v3_5 H locs ls hkn_5 hI hP hD hS hl
      rw [F_lineBetweenM_L5] at hI
      refine lv_iload hx hb d_Mod_lineBetween_5 (lv_at hl 4 rfl) ?_
      refine lv_bipush (v := 24) hx hb d_Mod_lineBetween_7 (by decide) ?_
      refine lv_icmp_ge (tgt := 79) hx hb d_Mod_lineBetween_9 rfl (fun hc_9 => ?_) (fun hc_9 => absurd (z_exit rfl hkn_5) hc_9)
      have hl := lv_sub hl [0, 1, 2, 3, 4] rfl
      exact X_5 _ _ _ _ _ hI hP hD hS hl
    | succ n_5 ih_5 =>
      intro k_5 v3_5 H locs ls hkn_5 hI hP hD hS hl
      rw [F_lineBetweenM_L5] at hI
      refine lv_iload hx hb d_Mod_lineBetween_5 (lv_at hl 4 rfl) ?_
      refine lv_bipush (v := 24) hx hb d_Mod_lineBetween_7 (by decide) ?_
      refine lv_icmp_ge (tgt := 79) hx hb d_Mod_lineBetween_9 rfl (fun hc_9 => absurd hc_9 (z_stay rfl hkn_5 (by decide))) (fun hc_9 => ?_)
      refine lv_aload_n hx hb d_Mod_lineBetween_12 rfl (lv_at hl 0 rfl) ?_
      refine va_get (D := (dC, dI)) (ci := 5) (v := .ref am_ones) (C := R_Mod) (T := F_Mod) (N := 21) hx hb hts (fun w h => List.mem_cons_of_mem _ (in_Mod w h)) hown hK hP 0 rfl rfl 2 (by decide) (hts _ (List.mem_cons_of_mem _ mw_3_158)) (fun _ h9 => h9) rfl d_Mod_lineBetween_13 ?_
      refine lv_iload hx hb d_Mod_lineBetween_16 (lv_at hl 4 rfl) ?_
      refine va_iald (D := (dC, dI)) hx hb hK hP 1 0 rfl rfl (vp_in_nI (by omega) (by decide)) d_Mod_lineBetween_18 ?_
      refine lv_topi (fun y_18 e_18 => ?_)
      obtain rfl : y_18 = zm_ones k_5 := e_18.trans (by rw [nI_clamp (by omega)])
      obtain ⟨K_j72_19, hK_j72_19⟩ : ∃ K : Int32 → Option (Int32), K = (fun (j_72_19 : Int32) => (F_lineBetweenM_L5 K_5 zm_ones zm_others v1 v2 n_5 (k_5 + 1) j_72_19)) := ⟨_, rfl⟩
      have J_72_19 : ∀ (s0_72_19 : Int32) (H : Heap) (locs : List Loc) (ls : Array Slot), some R = (K_j72_19 s0_72_19) → va_P (dC, dI) classes [(am, .inr (5, [.int zm_thrown, .ref am_there, .ref am_ones, .ref am_others, .ref am_xs, .ref am_ys, .int zm_many, .ref am_a, .ref am_b, .ref am_from, .ref am_to, .ref am_way, .ref am_depth, .ref am_above, .ref am_pile, .ref am_next, .ref am_leader, .ref am_turned, .ref am_piece, .ref am_numbers, .ref am_row])), (am_ones, .inl (km_ones, 24, .inl zm_ones)), (am_others, .inl (km_others, 24, .inl zm_others))] H → va_D A [(am, .inr (5, [.int zm_thrown, .ref am_there, .ref am_ones, .ref am_others, .ref am_xs, .ref am_ys, .int zm_many, .ref am_a, .ref am_b, .ref am_from, .ref am_to, .ref am_way, .ref am_depth, .ref am_above, .ref am_pile, .ref am_next, .ref am_leader, .ref am_turned, .ref am_piece, .ref am_numbers, .ref am_row])), (am_ones, .inl (km_ones, 24, .inl zm_ones)), (am_others, .inl (km_others, 24, .inl zm_others))] → va_S A s.heap H locs → lv_has ls 5 [(0, .ref am), (1, .int v1), (2, .int v2), (3, .int v3_5), (4, .int (nI k_5))] → W p l e (headSpec w_Mod_lineBetween ({ frames := 0, cells := 0, slots := 0, locals := 0 })).room s m args below meth c H locs 0 0 (MQ below (va_Qi (fun (r : Int32) (u : Unit) => r = R) (fun u t => End_ dC dI A [(km_ones, .int), (km_others, .int)] [(am, .inr (5, [.int zm_thrown, .ref am_there, .ref am_ones, .ref am_others, .ref am_xs, .ref am_ys, .int zm_many, .ref am_a, .ref am_b, .ref am_from, .ref am_to, .ref am_way, .ref am_depth, .ref am_above, .ref am_pile, .ref am_next, .ref am_leader, .ref am_turned, .ref am_piece, .ref am_numbers, .ref am_row])), (am_ones, .inl (km_ones, 24, .inl zm_ones)), (am_others, .inl (km_others, 24, .inl zm_others))] t) A) args s 0 0 A) (F0 m 72 ls [.int s0_72_19]) := by
        intro s0_72_19 H locs ls hI hP hD hS hl
        rw [hK_j72_19] at hI
        refine lv_istore_n (lv' := [(3, .int s0_72_19), (0, .ref am), (1, .int v1), (2, .int v2), (4, .int (nI k_5))]) hx hb d_Mod_lineBetween_72 rfl hl (by decide) rfl (fun ls hl => ?_)
        refine lv_iinc (lv' := [(4, .int (nI (k_5 + 1))), (3, .int s0_72_19), (0, .ref am), (1, .int v1), (2, .int v2)]) (k := 4) hx hb d_Mod_lineBetween_73 hl rfl (z_inc _) (by decide) rfl (fun ls hl => ?_)
        refine lv_goto (tgt := 5) hx hb d_Mod_lineBetween_76 rfl ?_
        have hl := lv_sub hl [2, 3, 4, 1, 0] rfl
        exact ih_5 _ _ _ _ _ (by omega) hI hP hD hS hl
      have hI : some R = (K_j72_19 (if (zm_ones k_5) < 0 then (v3_5) else (if (zm_ones k_5) = v1 then (if (zm_others k_5) = v2 then (nI k_5) else (if (zm_ones k_5) = v2 then (if (zm_others k_5) = v1 then (nI k_5) else (v3_5)) else (v3_5))) else (if (zm_ones k_5) = v2 then (if (zm_others k_5) = v1 then (nI k_5) else (v3_5)) else (v3_5))))) := by rw [hK_j72_19]; exact hI
      refine lv_if_lt (tgt := 71) hx hb d_Mod_lineBetween_19 rfl (fun hc_19 => ?_) (fun hc_19 => ?_)
      · skip
        have hI := ob_ifC (C := fun y_ => K_j72_19 y_) hc_19 hI
        refine lv_iload_n hx hb d_Mod_lineBetween_71 rfl (lv_at hl 3 rfl) ?_
        have hl := lv_sub hl [0, 1, 2, 3, 4] rfl
        exact J_72_19 _ _ _ _ hI hP hD hS hl
      · skip
        have hI := ob_elC (C := fun y_ => K_j72_19 y_) hc_19 hI
        refine lv_aload_n hx hb d_Mod_lineBetween_22 rfl (lv_at hl 0 rfl) ?_
        refine va_get (D := (dC, dI)) (ci := 5) (v := .ref am_ones) (C := R_Mod) (T := F_Mod) (N := 21) hx hb hts (fun w h => List.mem_cons_of_mem _ (in_Mod w h)) hown hK hP 0 rfl rfl 2 (by decide) (hts _ (List.mem_cons_of_mem _ mw_3_158)) (fun _ h9 => h9) rfl d_Mod_lineBetween_23 ?_
        refine lv_iload hx hb d_Mod_lineBetween_26 (lv_at hl 4 rfl) ?_
        refine va_iald (D := (dC, dI)) hx hb hK hP 1 0 rfl rfl (vp_in_nI (by omega) (by decide)) d_Mod_lineBetween_28 ?_
        refine lv_topi (fun y_28 e_28 => ?_)
        obtain rfl : y_28 = zm_ones k_5 := e_28.trans (by rw [nI_clamp (by omega)])
        refine lv_iload_n hx hb d_Mod_lineBetween_29 rfl (lv_at hl 1 rfl) ?_
        refine lv_icmp_ne (tgt := 44) hx hb d_Mod_lineBetween_30 rfl (fun hc_30 => ?_) (fun hc_30 => ?_)
        · skip
          have hI := ob_elC (C := fun y_ => K_j72_19 y_) hc_30 hI
          refine lv_aload_n hx hb d_Mod_lineBetween_44 rfl (lv_at hl 0 rfl) ?_
          refine va_get (D := (dC, dI)) (ci := 5) (v := .ref am_ones) (C := R_Mod) (T := F_Mod) (N := 21) hx hb hts (fun w h => List.mem_cons_of_mem _ (in_Mod w h)) hown hK hP 0 rfl rfl 2 (by decide) (hts _ (List.mem_cons_of_mem _ mw_3_158)) (fun _ h9 => h9) rfl d_Mod_lineBetween_45 ?_
          refine lv_iload hx hb d_Mod_lineBetween_48 (lv_at hl 4 rfl) ?_
          refine va_iald (D := (dC, dI)) hx hb hK hP 1 0 rfl rfl (vp_in_nI (by omega) (by decide)) d_Mod_lineBetween_50 ?_
          refine lv_topi (fun y_50 e_50 => ?_)
          obtain rfl : y_50 = zm_ones k_5 := e_50.trans (by rw [nI_clamp (by omega)])
          refine lv_iload_n hx hb d_Mod_lineBetween_51 rfl (lv_at hl 2 rfl) ?_
          refine lv_icmp_ne (tgt := 71) hx hb d_Mod_lineBetween_52 rfl (fun hc_52 => ?_) (fun hc_52 => ?_)
          · skip
            have hI := ob_elC (C := fun y_ => K_j72_19 y_) hc_52 hI
            refine lv_iload_n hx hb d_Mod_lineBetween_71 rfl (lv_at hl 3 rfl) ?_
            have hl := lv_sub hl [0, 1, 2, 3, 4] rfl
            exact J_72_19 _ _ _ _ hI hP hD hS hl
          · skip
            have hI := ob_ifC (C := fun y_ => K_j72_19 y_) hc_52 hI
            refine lv_aload_n hx hb d_Mod_lineBetween_55 rfl (lv_at hl 0 rfl) ?_
            refine va_get (D := (dC, dI)) (ci := 5) (v := .ref am_others) (C := R_Mod) (T := F_Mod) (N := 21) hx hb hts (fun w h => List.mem_cons_of_mem _ (in_Mod w h)) hown hK hP 0 rfl rfl 3 (by decide) (hts _ (List.mem_cons_of_mem _ mw_3_159)) (fun _ h9 => h9) rfl d_Mod_lineBetween_56 ?_
            refine lv_iload hx hb d_Mod_lineBetween_59 (lv_at hl 4 rfl) ?_
            refine va_iald (D := (dC, dI)) hx hb hK hP 2 1 rfl rfl (vp_in_nI (by omega) (by decide)) d_Mod_lineBetween_61 ?_
            refine lv_topi (fun y_61 e_61 => ?_)
            obtain rfl : y_61 = zm_others k_5 := e_61.trans (by rw [nI_clamp (by omega)])
            refine lv_iload_n hx hb d_Mod_lineBetween_62 rfl (lv_at hl 1 rfl) ?_
            refine lv_icmp_ne (tgt := 71) hx hb d_Mod_lineBetween_63 rfl (fun hc_63 => ?_) (fun hc_63 => ?_)
            · skip
              have hI := ob_elC (C := fun y_ => K_j72_19 y_) hc_63 hI
              refine lv_iload_n hx hb d_Mod_lineBetween_71 rfl (lv_at hl 3 rfl) ?_
              have hl := lv_sub hl [0, 1, 2, 3, 4] rfl
              exact J_72_19 _ _ _ _ hI hP hD hS hl
            · skip
              have hI := ob_ifC (C := fun y_ => K_j72_19 y_) hc_63 hI
              refine lv_iload hx hb d_Mod_lineBetween_66 (lv_at hl 4 rfl) ?_
              refine lv_goto (tgt := 72) hx hb d_Mod_lineBetween_68 rfl ?_
              have hl := lv_sub hl [0, 1, 2, 3, 4] rfl
              exact J_72_19 _ _ _ _ hI hP hD hS hl
        · skip
          have hI := ob_ifC (C := fun y_ => K_j72_19 y_) hc_30 hI
          refine lv_aload_n hx hb d_Mod_lineBetween_33 rfl (lv_at hl 0 rfl) ?_
          refine va_get (D := (dC, dI)) (ci := 5) (v := .ref am_others) (C := R_Mod) (T := F_Mod) (N := 21) hx hb hts (fun w h => List.mem_cons_of_mem _ (in_Mod w h)) hown hK hP 0 rfl rfl 3 (by decide) (hts _ (List.mem_cons_of_mem _ mw_3_159)) (fun _ h9 => h9) rfl d_Mod_lineBetween_34 ?_
          refine lv_iload hx hb d_Mod_lineBetween_37 (lv_at hl 4 rfl) ?_
          refine va_iald (D := (dC, dI)) hx hb hK hP 2 1 rfl rfl (vp_in_nI (by omega) (by decide)) d_Mod_lineBetween_39 ?_
          refine lv_topi (fun y_39 e_39 => ?_)
          obtain rfl : y_39 = zm_others k_5 := e_39.trans (by rw [nI_clamp (by omega)])
          refine lv_iload_n hx hb d_Mod_lineBetween_40 rfl (lv_at hl 2 rfl) ?_
          refine lv_icmp_eq (tgt := 66) hx hb d_Mod_lineBetween_41 rfl (fun hc_41 => ?_) (fun hc_41 => ?_)
          · skip
            have hI := ob_ifC (C := fun y_ => K_j72_19 y_) hc_41 hI
            refine lv_iload hx hb d_Mod_lineBetween_66 (lv_at hl 4 rfl) ?_
            refine lv_goto (tgt := 72) hx hb d_Mod_lineBetween_68 rfl ?_
            have hl := lv_sub hl [0, 1, 2, 3, 4] rfl
            exact J_72_19 _ _ _ _ hI hP hD hS hl
          · skip
            have hI := ob_elC (C := fun y_ => K_j72_19 y_) hc_41 hI
            refine lv_aload_n hx hb d_Mod_lineBetween_44 rfl (lv_at hl 0 rfl) ?_
            refine va_get (D := (dC, dI)) (ci := 5) (v := .ref am_ones) (C := R_Mod) (T := F_Mod) (N := 21) hx hb hts (fun w h => List.mem_cons_of_mem _ (in_Mod w h)) hown hK hP 0 rfl rfl 2 (by decide) (hts _ (List.mem_cons_of_mem _ mw_3_158)) (fun _ h9 => h9) rfl d_Mod_lineBetween_45 ?_
            refine lv_iload hx hb d_Mod_lineBetween_48 (lv_at hl 4 rfl) ?_
            refine va_iald (D := (dC, dI)) hx hb hK hP 1 0 rfl rfl (vp_in_nI (by omega) (by decide)) d_Mod_lineBetween_50 ?_
            refine lv_topi (fun y_50 e_50 => ?_)
            obtain rfl : y_50 = zm_ones k_5 := e_50.trans (by rw [nI_clamp (by omega)])
            refine lv_iload_n hx hb d_Mod_lineBetween_51 rfl (lv_at hl 2 rfl) ?_
            refine lv_icmp_ne (tgt := 71) hx hb d_Mod_lineBetween_52 rfl (fun hc_52 => ?_) (fun hc_52 => ?_)
            · skip
              have hI := ob_elC (C := fun y_ => K_j72_19 y_) hc_52 hI
              refine lv_iload_n hx hb d_Mod_lineBetween_71 rfl (lv_at hl 3 rfl) ?_
              have hl := lv_sub hl [0, 1, 2, 3, 4] rfl
              exact J_72_19 _ _ _ _ hI hP hD hS hl
            · skip
              have hI := ob_ifC (C := fun y_ => K_j72_19 y_) hc_52 hI
              refine lv_aload_n hx hb d_Mod_lineBetween_55 rfl (lv_at hl 0 rfl) ?_
              refine va_get (D := (dC, dI)) (ci := 5) (v := .ref am_others) (C := R_Mod) (T := F_Mod) (N := 21) hx hb hts (fun w h => List.mem_cons_of_mem _ (in_Mod w h)) hown hK hP 0 rfl rfl 3 (by decide) (hts _ (List.mem_cons_of_mem _ mw_3_159)) (fun _ h9 => h9) rfl d_Mod_lineBetween_56 ?_
              refine lv_iload hx hb d_Mod_lineBetween_59 (lv_at hl 4 rfl) ?_
              refine va_iald (D := (dC, dI)) hx hb hK hP 2 1 rfl rfl (vp_in_nI (by omega) (by decide)) d_Mod_lineBetween_61 ?_
              refine lv_topi (fun y_61 e_61 => ?_)
              obtain rfl : y_61 = zm_others k_5 := e_61.trans (by rw [nI_clamp (by omega)])
              refine lv_iload_n hx hb d_Mod_lineBetween_62 rfl (lv_at hl 1 rfl) ?_
              refine lv_icmp_ne (tgt := 71) hx hb d_Mod_lineBetween_63 rfl (fun hc_63 => ?_) (fun hc_63 => ?_)
              · skip
                have hI := ob_elC (C := fun y_ => K_j72_19 y_) hc_63 hI
                refine lv_iload_n hx hb d_Mod_lineBetween_71 rfl (lv_at hl 3 rfl) ?_
                have hl := lv_sub hl [0, 1, 2, 3, 4] rfl
                exact J_72_19 _ _ _ _ hI hP hD hS hl
              · skip
                have hI := ob_ifC (C := fun y_ => K_j72_19 y_) hc_63 hI
                refine lv_iload hx hb d_Mod_lineBetween_66 (lv_at hl 4 rfl) ?_
                refine lv_goto (tgt := 72) hx hb d_Mod_lineBetween_68 rfl ?_
                have hl := lv_sub hl [0, 1, 2, 3, 4] rfl
                exact J_72_19 _ _ _ _ hI hP hD hS hl
  have hl : lv_has ls 5 [(0, .ref am), (1, .int v1), (2, .int v2), (3, .int ((-1))), (4, .int (nI 0))] := by first | exact lv_sub hl [2, 3, 4, 1, 0] rfl | (rw [nI_succ]; exact lv_sub hl [2, 3, 4, 1, 0] rfl)
  exact L_5 24 0 _ _ _ _ (by omega) (by rw [hK_5]; exact hI) hP hD hS hl
set_option maxHeartbeats 4000000 in
set_option maxRecDepth 100000 in
theorem c_firstFreeM (l : Launch) (dC : Nat → ClassId) (dI : Nat → Nat → Nat) (sz : Nat) (am am_there am_ones am_others am_xs am_ys am_a am_b am_from am_to am_way am_depth am_above am_pile am_next am_leader am_turned am_piece am_numbers am_row : Nat) (km_ones : ClassId) (zm_thrown : Int32) (zm_many : Int32) (zm_ones : Nat → Int32) (R : Int32) (hR : F_firstFreeM zm_ones = some R) : Met l y_Mod_firstFree w_Mod_firstFree ({ frames := 0, cells := 0, slots := 0, locals := 0 }) (Pre_ dC dI sz [.ref am] [(am, .inr (5, [.int zm_thrown, .ref am_there, .ref am_ones, .ref am_others, .ref am_xs, .ref am_ys, .int zm_many, .ref am_a, .ref am_b, .ref am_from, .ref am_to, .ref am_way, .ref am_depth, .ref am_above, .ref am_pile, .ref am_next, .ref am_leader, .ref am_turned, .ref am_piece, .ref am_numbers, .ref am_row])), (am_ones, .inl (km_ones, 24, .inl zm_ones))] [(km_ones, .int)]) (va_Qi (fun (r : Int32) (u : Unit) => r = R) (fun u t => End_ dC dI (va_A [(am, .inr (5, [.int zm_thrown, .ref am_there, .ref am_ones, .ref am_others, .ref am_xs, .ref am_ys, .int zm_many, .ref am_a, .ref am_b, .ref am_from, .ref am_to, .ref am_way, .ref am_depth, .ref am_above, .ref am_pile, .ref am_next, .ref am_leader, .ref am_turned, .ref am_piece, .ref am_numbers, .ref am_row])), (am_ones, .inl (km_ones, 24, .inl zm_ones))] sz) [(km_ones, .int)] [(am, .inr (5, [.int zm_thrown, .ref am_there, .ref am_ones, .ref am_others, .ref am_xs, .ref am_ys, .int zm_many, .ref am_a, .ref am_b, .ref am_from, .ref am_to, .ref am_way, .ref am_depth, .ref am_above, .ref am_pile, .ref am_next, .ref am_leader, .ref am_turned, .ref am_piece, .ref am_numbers, .ref am_row])), (am_ones, .inl (km_ones, 24, .inl zm_ones))] t) (va_A [(am, .inr (5, [.int zm_thrown, .ref am_there, .ref am_ones, .ref am_others, .ref am_xs, .ref am_ys, .int zm_many, .ref am_a, .ref am_b, .ref am_from, .ref am_to, .ref am_way, .ref am_depth, .ref am_above, .ref am_pile, .ref am_next, .ref am_leader, .ref am_turned, .ref am_piece, .ref am_numbers, .ref am_row])), (am_ones, .inl (km_ones, 24, .inl zm_ones))] sz)) 0 0 (va_A [(am, .inr (5, [.int zm_thrown, .ref am_there, .ref am_ones, .ref am_others, .ref am_xs, .ref am_ys, .int zm_many, .ref am_a, .ref am_b, .ref am_from, .ref am_to, .ref am_way, .ref am_depth, .ref am_above, .ref am_pile, .ref am_next, .ref am_leader, .ref am_turned, .ref am_piece, .ref am_numbers, .ref am_row])), (am_ones, .inl (km_ones, 24, .inl zm_ones))] sz) := by
  refine Met.ofW (cc := b_Mod_firstFree) (maxL := 2) (ret := (some .int)) (by decide) rfl ?_
  intro p e s m args below meth c s₁ B hml hv
  obtain ⟨hargs, hsz, hP, hK, hD0, hN⟩ := hv
  have hx := B.exec
  have hb := B.bytes
  have hr := B.returns
  have hts := atoms_spec (ws := w_Mod_firstFree) B.pre
  have hown : s.vm.findClass R_Mod = some m.cls := findClass_of_methodNamed B.named
  have hlocks := B.notSynchronized
  subst hsz
  have hD := hD0.self (sz := s.heap.size)
  generalize hAe : va_A [(am, .inr (5, [.int zm_thrown, .ref am_there, .ref am_ones, .ref am_others, .ref am_xs, .ref am_ys, .int zm_many, .ref am_a, .ref am_b, .ref am_from, .ref am_to, .ref am_way, .ref am_depth, .ref am_above, .ref am_pile, .ref am_next, .ref am_leader, .ref am_turned, .ref am_piece, .ref am_numbers, .ref am_row])), (am_ones, .inl (km_ones, 24, .inl zm_ones))] s.heap.size = A at hD ⊢
  have hA : ∀ q : Nat, s.heap.size ≤ q → A q := fun q h => by rw [← hAe]; exact Or.inr h
  have hS : va_S A s.heap s.heap [] := va_S.rf
  have hl := lv_entry ([.ref am]) (n := 2) (Nat.le_of_ble_eq_true rfl)
  refine W.eq (congrArg (fun a => entryFrame m a 2) hargs) ?_
  rw [lg_entry_eq]
  generalize (lg_sl ([.ref am]) ++ List.replicate (2 - (lg_sl ([.ref am])).length) Slot.unset).toArray = ls at hl ⊢
  have hl : lv_has ls 2 [(0, .ref am)] := hl
  generalize hH0 : ([] : List Loc) = locs at hS ⊢
  have hI := hR.symm
  rw [F_firstFreeM] at hI
  refine lv_iconst (v := 0) hx hb d_Mod_firstFree_0 (by decide) ?_
  refine lv_istore_n (lv' := [(1, .int 0), (0, .ref am)]) hx hb d_Mod_firstFree_1 rfl hl (by decide) rfl (fun ls hl => ?_)
  obtain ⟨K_2, hK_2⟩ : ∃ K : Nat → Option (Int32), K = (fun k_2 => some (nI k_2)) := ⟨_, rfl⟩
  have X_2 : ∀ (k_2 : Nat) (H : Heap) (locs : List Loc) (ls : Array Slot), some R = K_2 k_2 → va_P (dC, dI) classes [(am, .inr (5, [.int zm_thrown, .ref am_there, .ref am_ones, .ref am_others, .ref am_xs, .ref am_ys, .int zm_many, .ref am_a, .ref am_b, .ref am_from, .ref am_to, .ref am_way, .ref am_depth, .ref am_above, .ref am_pile, .ref am_next, .ref am_leader, .ref am_turned, .ref am_piece, .ref am_numbers, .ref am_row])), (am_ones, .inl (km_ones, 24, .inl zm_ones))] H → va_D A [(am, .inr (5, [.int zm_thrown, .ref am_there, .ref am_ones, .ref am_others, .ref am_xs, .ref am_ys, .int zm_many, .ref am_a, .ref am_b, .ref am_from, .ref am_to, .ref am_way, .ref am_depth, .ref am_above, .ref am_pile, .ref am_next, .ref am_leader, .ref am_turned, .ref am_piece, .ref am_numbers, .ref am_row])), (am_ones, .inl (km_ones, 24, .inl zm_ones))] → va_S A s.heap H locs → lv_has ls 2 [(0, .ref am), (1, .int (nI k_2))] → W p l e (headSpec w_Mod_firstFree ({ frames := 0, cells := 0, slots := 0, locals := 0 })).room s m args below meth c H locs 0 0 (MQ below (va_Qi (fun (r : Int32) (u : Unit) => r = R) (fun u t => End_ dC dI A [(km_ones, .int)] [(am, .inr (5, [.int zm_thrown, .ref am_there, .ref am_ones, .ref am_others, .ref am_xs, .ref am_ys, .int zm_many, .ref am_a, .ref am_b, .ref am_from, .ref am_to, .ref am_way, .ref am_depth, .ref am_above, .ref am_pile, .ref am_next, .ref am_leader, .ref am_turned, .ref am_piece, .ref am_numbers, .ref am_row])), (am_ones, .inl (km_ones, 24, .inl zm_ones))] t) A) args s 0 0 A) (F0 m 23 ls []) := by
    intro k_2  H locs ls hI hP hD hS hl
    rw [hK_2] at hI
    refine lv_iload_n hx hb d_Mod_firstFree_23 rfl (lv_at hl 1 rfl) ?_
    exact W.iret (v := nI k_2) hx hb hr (fun t ht hW => ⟨⟨nI k_2, (), rfl, (Option.some.inj hI).symm, by rw [ht]; exact hP, va_K.moved hW.alike hK, hD⟩, hS.F ht⟩) hS.2.2 d_Mod_firstFree_24
  have L_2 : ∀ (n_2 k_2 : Nat) (H : Heap) (locs : List Loc) (ls : Array Slot), k_2 + n_2 = 24 → some R = F_firstFreeM_L2 K_2 zm_ones n_2 k_2 → va_P (dC, dI) classes [(am, .inr (5, [.int zm_thrown, .ref am_there, .ref am_ones, .ref am_others, .ref am_xs, .ref am_ys, .int zm_many, .ref am_a, .ref am_b, .ref am_from, .ref am_to, .ref am_way, .ref am_depth, .ref am_above, .ref am_pile, .ref am_next, .ref am_leader, .ref am_turned, .ref am_piece, .ref am_numbers, .ref am_row])), (am_ones, .inl (km_ones, 24, .inl zm_ones))] H → va_D A [(am, .inr (5, [.int zm_thrown, .ref am_there, .ref am_ones, .ref am_others, .ref am_xs, .ref am_ys, .int zm_many, .ref am_a, .ref am_b, .ref am_from, .ref am_to, .ref am_way, .ref am_depth, .ref am_above, .ref am_pile, .ref am_next, .ref am_leader, .ref am_turned, .ref am_piece, .ref am_numbers, .ref am_row])), (am_ones, .inl (km_ones, 24, .inl zm_ones))] → va_S A s.heap H locs → lv_has ls 2 [(0, .ref am), (1, .int (nI k_2))] → W p l e (headSpec w_Mod_firstFree ({ frames := 0, cells := 0, slots := 0, locals := 0 })).room s m args below meth c H locs 0 0 (MQ below (va_Qi (fun (r : Int32) (u : Unit) => r = R) (fun u t => End_ dC dI A [(km_ones, .int)] [(am, .inr (5, [.int zm_thrown, .ref am_there, .ref am_ones, .ref am_others, .ref am_xs, .ref am_ys, .int zm_many, .ref am_a, .ref am_b, .ref am_from, .ref am_to, .ref am_way, .ref am_depth, .ref am_above, .ref am_pile, .ref am_next, .ref am_leader, .ref am_turned, .ref am_piece, .ref am_numbers, .ref am_row])), (am_ones, .inl (km_ones, 24, .inl zm_ones))] t) A) args s 0 0 A) (F0 m 2 ls []) := by
    intro n_2
    induction n_2 with
    | zero =>
      intro k_2  H locs ls hkn_2 hI hP hD hS hl
      rw [F_firstFreeM_L2] at hI
      refine lv_iload_n hx hb d_Mod_firstFree_2 rfl (lv_at hl 1 rfl) ?_
      refine lv_bipush (v := 24) hx hb d_Mod_firstFree_3 (by decide) ?_
      refine lv_icmp_ge (tgt := 23) hx hb d_Mod_firstFree_5 rfl (fun hc_5 => ?_) (fun hc_5 => absurd (z_exit rfl hkn_2) hc_5)
      have hl := lv_sub hl [0, 1] rfl
      exact X_2 _  _ _ _ hI hP hD hS hl
    | succ n_2 ih_2 =>
      intro k_2  H locs ls hkn_2 hI hP hD hS hl
      rw [F_firstFreeM_L2] at hI
      refine lv_iload_n hx hb d_Mod_firstFree_2 rfl (lv_at hl 1 rfl) ?_
      refine lv_bipush (v := 24) hx hb d_Mod_firstFree_3 (by decide) ?_
      refine lv_icmp_ge (tgt := 23) hx hb d_Mod_firstFree_5 rfl (fun hc_5 => absurd hc_5 (z_stay rfl hkn_2 (by decide))) (fun hc_5 => ?_)
      refine lv_aload_n hx hb d_Mod_firstFree_8 rfl (lv_at hl 0 rfl) ?_
      refine va_get (D := (dC, dI)) (ci := 5) (v := .ref am_ones) (C := R_Mod) (T := F_Mod) (N := 21) hx hb hts (fun w h => List.mem_cons_of_mem _ (in_Mod w h)) hown hK hP 0 rfl rfl 2 (by decide) (hts _ (List.mem_cons_of_mem _ mw_3_158)) (fun _ h9 => h9) rfl d_Mod_firstFree_9 ?_
      refine lv_iload_n hx hb d_Mod_firstFree_12 rfl (lv_at hl 1 rfl) ?_
      refine va_iald (D := (dC, dI)) hx hb hK hP 1 0 rfl rfl (vp_in_nI (by omega) (by decide)) d_Mod_firstFree_13 ?_
      refine lv_topi (fun y_13 e_13 => ?_)
      obtain rfl : y_13 = zm_ones k_2 := e_13.trans (by rw [nI_clamp (by omega)])
      refine lv_if_lt (tgt := 23) hx hb d_Mod_firstFree_14 rfl (fun hc_14 => ?_) (fun hc_14 => ?_)
      · skip
        have hI := hI.trans (if_pos hc_14)
        have hl := lv_sub hl [0, 1] rfl
        exact X_2 _  _ _ _ hI hP hD hS hl
      · skip
        have hI := hI.trans (if_neg hc_14)
        refine lv_iinc (lv' := [(1, .int (nI (k_2 + 1))), (0, .ref am)]) (k := 1) hx hb d_Mod_firstFree_17 hl rfl (z_inc _) (by decide) rfl (fun ls hl => ?_)
        refine lv_goto (tgt := 2) hx hb d_Mod_firstFree_20 rfl ?_
        have hl := lv_sub hl [1, 0] rfl
        exact ih_2 _  _ _ _ (by omega) hI hP hD hS hl
  have hl : lv_has ls 2 [(0, .ref am), (1, .int (nI 0))] := by first | exact lv_sub hl [1, 0] rfl | (rw [nI_succ]; exact lv_sub hl [1, 0] rfl)
  exact L_2 24 0  _ _ _ (by omega) (by rw [hK_2]; exact hI) hP hD hS hl
set_option maxHeartbeats 4000000 in
set_option maxRecDepth 100000 in
theorem c_countNodesM (l : Launch) (dC : Nat → ClassId) (dI : Nat → Nat → Nat) (sz : Nat) (am am_there am_ones am_others am_xs am_ys am_a am_b am_from am_to am_way am_depth am_above am_pile am_next am_leader am_turned am_piece am_numbers am_row : Nat) (km_there : ClassId) (zm_thrown : Int32) (zm_many : Int32) (zm_there : Nat → Int32) (R : Int32) (hR : F_countNodesM zm_there = some R) : Met l y_Mod_countNodes w_Mod_countNodes ({ frames := 0, cells := 0, slots := 0, locals := 0 }) (Pre_ dC dI sz [.ref am] [(am, .inr (5, [.int zm_thrown, .ref am_there, .ref am_ones, .ref am_others, .ref am_xs, .ref am_ys, .int zm_many, .ref am_a, .ref am_b, .ref am_from, .ref am_to, .ref am_way, .ref am_depth, .ref am_above, .ref am_pile, .ref am_next, .ref am_leader, .ref am_turned, .ref am_piece, .ref am_numbers, .ref am_row])), (am_there, .inl (km_there, 10, .inl zm_there))] [(km_there, .boolean)]) (va_Qi (fun (r : Int32) (u : Unit) => r = R) (fun u t => End_ dC dI (va_A [(am, .inr (5, [.int zm_thrown, .ref am_there, .ref am_ones, .ref am_others, .ref am_xs, .ref am_ys, .int zm_many, .ref am_a, .ref am_b, .ref am_from, .ref am_to, .ref am_way, .ref am_depth, .ref am_above, .ref am_pile, .ref am_next, .ref am_leader, .ref am_turned, .ref am_piece, .ref am_numbers, .ref am_row])), (am_there, .inl (km_there, 10, .inl zm_there))] sz) [(km_there, .boolean)] [(am, .inr (5, [.int zm_thrown, .ref am_there, .ref am_ones, .ref am_others, .ref am_xs, .ref am_ys, .int zm_many, .ref am_a, .ref am_b, .ref am_from, .ref am_to, .ref am_way, .ref am_depth, .ref am_above, .ref am_pile, .ref am_next, .ref am_leader, .ref am_turned, .ref am_piece, .ref am_numbers, .ref am_row])), (am_there, .inl (km_there, 10, .inl zm_there))] t) (va_A [(am, .inr (5, [.int zm_thrown, .ref am_there, .ref am_ones, .ref am_others, .ref am_xs, .ref am_ys, .int zm_many, .ref am_a, .ref am_b, .ref am_from, .ref am_to, .ref am_way, .ref am_depth, .ref am_above, .ref am_pile, .ref am_next, .ref am_leader, .ref am_turned, .ref am_piece, .ref am_numbers, .ref am_row])), (am_there, .inl (km_there, 10, .inl zm_there))] sz)) 0 0 (va_A [(am, .inr (5, [.int zm_thrown, .ref am_there, .ref am_ones, .ref am_others, .ref am_xs, .ref am_ys, .int zm_many, .ref am_a, .ref am_b, .ref am_from, .ref am_to, .ref am_way, .ref am_depth, .ref am_above, .ref am_pile, .ref am_next, .ref am_leader, .ref am_turned, .ref am_piece, .ref am_numbers, .ref am_row])), (am_there, .inl (km_there, 10, .inl zm_there))] sz) := by
  refine Met.ofW (cc := b_Mod_countNodes) (maxL := 3) (ret := (some .int)) (by decide) rfl ?_
  intro p e s m args below meth c s₁ B hml hv
  obtain ⟨hargs, hsz, hP, hK, hD0, hN⟩ := hv
  have hx := B.exec
  have hb := B.bytes
  have hr := B.returns
  have hts := atoms_spec (ws := w_Mod_countNodes) B.pre
  have hown : s.vm.findClass R_Mod = some m.cls := findClass_of_methodNamed B.named
  have hlocks := B.notSynchronized
  subst hsz
  have hD := hD0.self (sz := s.heap.size)
  generalize hAe : va_A [(am, .inr (5, [.int zm_thrown, .ref am_there, .ref am_ones, .ref am_others, .ref am_xs, .ref am_ys, .int zm_many, .ref am_a, .ref am_b, .ref am_from, .ref am_to, .ref am_way, .ref am_depth, .ref am_above, .ref am_pile, .ref am_next, .ref am_leader, .ref am_turned, .ref am_piece, .ref am_numbers, .ref am_row])), (am_there, .inl (km_there, 10, .inl zm_there))] s.heap.size = A at hD ⊢
  have hA : ∀ q : Nat, s.heap.size ≤ q → A q := fun q h => by rw [← hAe]; exact Or.inr h
  have hS : va_S A s.heap s.heap [] := va_S.rf
  have hl := lv_entry ([.ref am]) (n := 3) (Nat.le_of_ble_eq_true rfl)
  refine W.eq (congrArg (fun a => entryFrame m a 3) hargs) ?_
  rw [lg_entry_eq]
  generalize (lg_sl ([.ref am]) ++ List.replicate (3 - (lg_sl ([.ref am])).length) Slot.unset).toArray = ls at hl ⊢
  have hl : lv_has ls 3 [(0, .ref am)] := hl
  generalize hH0 : ([] : List Loc) = locs at hS ⊢
  have hI := hR.symm
  rw [F_countNodesM] at hI
  refine lv_iconst (v := 0) hx hb d_Mod_countNodes_0 (by decide) ?_
  refine lv_istore_n (lv' := [(1, .int 0), (0, .ref am)]) hx hb d_Mod_countNodes_1 rfl hl (by decide) rfl (fun ls hl => ?_)
  refine lv_iconst (v := 0) hx hb d_Mod_countNodes_2 (by decide) ?_
  refine lv_istore_n (lv' := [(2, .int 0), (1, .int 0), (0, .ref am)]) hx hb d_Mod_countNodes_3 rfl hl (by decide) rfl (fun ls hl => ?_)
  obtain ⟨K_4, hK_4⟩ : ∃ K : Int32 → Option (Int32), K = (fun v1_4 => some (v1_4)) := ⟨_, rfl⟩
  have X_4 : ∀ (k_4 : Nat) (v1_4 : Int32) (H : Heap) (locs : List Loc) (ls : Array Slot), some R = K_4 v1_4 → va_P (dC, dI) classes [(am, .inr (5, [.int zm_thrown, .ref am_there, .ref am_ones, .ref am_others, .ref am_xs, .ref am_ys, .int zm_many, .ref am_a, .ref am_b, .ref am_from, .ref am_to, .ref am_way, .ref am_depth, .ref am_above, .ref am_pile, .ref am_next, .ref am_leader, .ref am_turned, .ref am_piece, .ref am_numbers, .ref am_row])), (am_there, .inl (km_there, 10, .inl zm_there))] H → va_D A [(am, .inr (5, [.int zm_thrown, .ref am_there, .ref am_ones, .ref am_others, .ref am_xs, .ref am_ys, .int zm_many, .ref am_a, .ref am_b, .ref am_from, .ref am_to, .ref am_way, .ref am_depth, .ref am_above, .ref am_pile, .ref am_next, .ref am_leader, .ref am_turned, .ref am_piece, .ref am_numbers, .ref am_row])), (am_there, .inl (km_there, 10, .inl zm_there))] → va_S A s.heap H locs → lv_has ls 3 [(0, .ref am), (1, .int v1_4), (2, .int (nI k_4))] → W p l e (headSpec w_Mod_countNodes ({ frames := 0, cells := 0, slots := 0, locals := 0 })).room s m args below meth c H locs 0 0 (MQ below (va_Qi (fun (r : Int32) (u : Unit) => r = R) (fun u t => End_ dC dI A [(km_there, .boolean)] [(am, .inr (5, [.int zm_thrown, .ref am_there, .ref am_ones, .ref am_others, .ref am_xs, .ref am_ys, .int zm_many, .ref am_a, .ref am_b, .ref am_from, .ref am_to, .ref am_way, .ref am_depth, .ref am_above, .ref am_pile, .ref am_next, .ref am_leader, .ref am_turned, .ref am_piece, .ref am_numbers, .ref am_row])), (am_there, .inl (km_there, 10, .inl zm_there))] t) A) args s 0 0 A) (F0 m 33 ls []) := by
    intro k_4 v1_4 H locs ls hI hP hD hS hl
    rw [hK_4] at hI
    refine lv_iload_n hx hb d_Mod_countNodes_33 rfl (lv_at hl 1 rfl) ?_
    exact W.iret (v := v1_4) hx hb hr (fun t ht hW => ⟨⟨v1_4, (), rfl, (Option.some.inj hI).symm, by rw [ht]; exact hP, va_K.moved hW.alike hK, hD⟩, hS.F ht⟩) hS.2.2 d_Mod_countNodes_34
  have L_4 : ∀ (n_4 k_4 : Nat) (v1_4 : Int32) (H : Heap) (locs : List Loc) (ls : Array Slot), k_4 + n_4 = 10 → some R = F_countNodesM_L4 K_4 zm_there n_4 k_4 v1_4 → va_P (dC, dI) classes [(am, .inr (5, [.int zm_thrown, .ref am_there, .ref am_ones, .ref am_others, .ref am_xs, .ref am_ys, .int zm_many, .ref am_a, .ref am_b, .ref am_from, .ref am_to, .ref am_way, .ref am_depth, .ref am_above, .ref am_pile, .ref am_next, .ref am_leader, .ref am_turned, .ref am_piece, .ref am_numbers, .ref am_row])), (am_there, .inl (km_there, 10, .inl zm_there))] H → va_D A [(am, .inr (5, [.int zm_thrown, .ref am_there, .ref am_ones, .ref am_others, .ref am_xs, .ref am_ys, .int zm_many, .ref am_a, .ref am_b, .ref am_from, .ref am_to, .ref am_way, .ref am_depth, .ref am_above, .ref am_pile, .ref am_next, .ref am_leader, .ref am_turned, .ref am_piece, .ref am_numbers, .ref am_row])), (am_there, .inl (km_there, 10, .inl zm_there))] → va_S A s.heap H locs → lv_has ls 3 [(0, .ref am), (1, .int v1_4), (2, .int (nI k_4))] → W p l e (headSpec w_Mod_countNodes ({ frames := 0, cells := 0, slots := 0, locals := 0 })).room s m args below meth c H locs 0 0 (MQ below (va_Qi (fun (r : Int32) (u : Unit) => r = R) (fun u t => End_ dC dI A [(km_there, .boolean)] [(am, .inr (5, [.int zm_thrown, .ref am_there, .ref am_ones, .ref am_others, .ref am_xs, .ref am_ys, .int zm_many, .ref am_a, .ref am_b, .ref am_from, .ref am_to, .ref am_way, .ref am_depth, .ref am_above, .ref am_pile, .ref am_next, .ref am_leader, .ref am_turned, .ref am_piece, .ref am_numbers, .ref am_row])), (am_there, .inl (km_there, 10, .inl zm_there))] t) A) args s 0 0 A) (F0 m 4 ls []) := by
    intro n_4
    induction n_4 with
    | zero =>
      intro k_4 v1_4 H locs ls hkn_4 hI hP hD hS hl
      rw [F_countNodesM_L4] at hI
      refine lv_iload_n hx hb d_Mod_countNodes_4 rfl (lv_at hl 2 rfl) ?_
      refine lv_bipush (v := 10) hx hb d_Mod_countNodes_5 (by decide) ?_
      refine lv_icmp_ge (tgt := 33) hx hb d_Mod_countNodes_7 rfl (fun hc_7 => ?_) (fun hc_7 => absurd (z_exit rfl hkn_4) hc_7)
      have hl := lv_sub hl [0, 1, 2] rfl
      exact X_4 _ _ _ _ _ hI hP hD hS hl
    | succ n_4 ih_4 =>
      intro k_4 v1_4 H locs ls hkn_4 hI hP hD hS hl
      rw [F_countNodesM_L4] at hI
      refine lv_iload_n hx hb d_Mod_countNodes_4 rfl (lv_at hl 2 rfl) ?_
      refine lv_bipush (v := 10) hx hb d_Mod_countNodes_5 (by decide) ?_
      refine lv_icmp_ge (tgt := 33) hx hb d_Mod_countNodes_7 rfl (fun hc_7 => absurd hc_7 (z_stay rfl hkn_4 (by decide))) (fun hc_7 => ?_)
      refine lv_aload_n hx hb d_Mod_countNodes_10 rfl (lv_at hl 0 rfl) ?_
      refine va_get (D := (dC, dI)) (ci := 5) (v := .ref am_there) (C := R_Mod) (T := F_Mod) (N := 21) hx hb hts (fun w h => List.mem_cons_of_mem _ (in_Mod w h)) hown hK hP 0 rfl rfl 1 (by decide) (hts _ (List.mem_cons_of_mem _ mw_3_157)) (fun _ h9 => h9) rfl d_Mod_countNodes_11 ?_
      refine lv_iload_n hx hb d_Mod_countNodes_14 rfl (lv_at hl 2 rfl) ?_
      refine va_zald (D := (dC, dI)) hx hb hK hP 1 0 rfl rfl (vp_in_nI (by omega) (by decide)) d_Mod_countNodes_15 ?_
      refine lv_topi (fun y_15 e_15 => ?_)
      obtain rfl : y_15 = zm_there k_4 := e_15.trans (by rw [nI_clamp (by omega)])
      refine lv_if_eq (tgt := 25) hx hb d_Mod_countNodes_16 rfl (fun hc_16 => ?_) (fun hc_16 => ?_)
      · skip
        have hI := hI.trans (if_pos hc_16)
        refine lv_iload_n hx hb d_Mod_countNodes_25 rfl (lv_at hl 1 rfl) ?_
        refine lv_istore_n (lv' := [(1, .int v1_4), (0, .ref am), (2, .int (nI k_4))]) hx hb d_Mod_countNodes_26 rfl hl (by decide) rfl (fun ls hl => ?_)
        refine lv_iinc (lv' := [(2, .int (nI (k_4 + 1))), (1, .int v1_4), (0, .ref am)]) (k := 2) hx hb d_Mod_countNodes_27 hl rfl (z_inc _) (by decide) rfl (fun ls hl => ?_)
        refine lv_goto (tgt := 4) hx hb d_Mod_countNodes_30 rfl ?_
        have hl := lv_sub hl [2, 1, 0] rfl
        exact ih_4 _ _ _ _ _ (by omega) hI hP hD hS hl
      · skip
        have hI := hI.trans (if_neg hc_16)
        refine lv_iload_n hx hb d_Mod_countNodes_19 rfl (lv_at hl 1 rfl) ?_
        refine lv_iconst (v := 1) hx hb d_Mod_countNodes_20 (by decide) ?_
        refine lv_iadd hx hb d_Mod_countNodes_21 ?_
        refine lv_goto (tgt := 26) hx hb d_Mod_countNodes_22 rfl ?_
        refine lv_istore_n (lv' := [(1, .int (v1_4 + 1)), (0, .ref am), (2, .int (nI k_4))]) hx hb d_Mod_countNodes_26 rfl hl (by decide) rfl (fun ls hl => ?_)
        refine lv_iinc (lv' := [(2, .int (nI (k_4 + 1))), (1, .int (v1_4 + 1)), (0, .ref am)]) (k := 2) hx hb d_Mod_countNodes_27 hl rfl (z_inc _) (by decide) rfl (fun ls hl => ?_)
        refine lv_goto (tgt := 4) hx hb d_Mod_countNodes_30 rfl ?_
        have hl := lv_sub hl [2, 1, 0] rfl
        exact ih_4 _ _ _ _ _ (by omega) hI hP hD hS hl
  have hl : lv_has ls 3 [(0, .ref am), (1, .int 0), (2, .int (nI 0))] := by first | exact lv_sub hl [2, 1, 0] rfl | (rw [nI_succ]; exact lv_sub hl [2, 1, 0] rfl)
  exact L_4 10 0 _ _ _ _ (by omega) (by rw [hK_4]; exact hI) hP hD hS hl
set_option maxHeartbeats 4000000 in
set_option maxRecDepth 100000 in
theorem c_countLinesM (l : Launch) (dC : Nat → ClassId) (dI : Nat → Nat → Nat) (sz : Nat) (am am_there am_ones am_others am_xs am_ys am_a am_b am_from am_to am_way am_depth am_above am_pile am_next am_leader am_turned am_piece am_numbers am_row : Nat) (km_ones : ClassId) (zm_thrown : Int32) (zm_many : Int32) (zm_ones : Nat → Int32) (R : Int32) (hR : F_countLinesM zm_ones = some R) : Met l y_Mod_countLines w_Mod_countLines ({ frames := 0, cells := 0, slots := 0, locals := 0 }) (Pre_ dC dI sz [.ref am] [(am, .inr (5, [.int zm_thrown, .ref am_there, .ref am_ones, .ref am_others, .ref am_xs, .ref am_ys, .int zm_many, .ref am_a, .ref am_b, .ref am_from, .ref am_to, .ref am_way, .ref am_depth, .ref am_above, .ref am_pile, .ref am_next, .ref am_leader, .ref am_turned, .ref am_piece, .ref am_numbers, .ref am_row])), (am_ones, .inl (km_ones, 24, .inl zm_ones))] [(km_ones, .int)]) (va_Qi (fun (r : Int32) (u : Unit) => r = R) (fun u t => End_ dC dI (va_A [(am, .inr (5, [.int zm_thrown, .ref am_there, .ref am_ones, .ref am_others, .ref am_xs, .ref am_ys, .int zm_many, .ref am_a, .ref am_b, .ref am_from, .ref am_to, .ref am_way, .ref am_depth, .ref am_above, .ref am_pile, .ref am_next, .ref am_leader, .ref am_turned, .ref am_piece, .ref am_numbers, .ref am_row])), (am_ones, .inl (km_ones, 24, .inl zm_ones))] sz) [(km_ones, .int)] [(am, .inr (5, [.int zm_thrown, .ref am_there, .ref am_ones, .ref am_others, .ref am_xs, .ref am_ys, .int zm_many, .ref am_a, .ref am_b, .ref am_from, .ref am_to, .ref am_way, .ref am_depth, .ref am_above, .ref am_pile, .ref am_next, .ref am_leader, .ref am_turned, .ref am_piece, .ref am_numbers, .ref am_row])), (am_ones, .inl (km_ones, 24, .inl zm_ones))] t) (va_A [(am, .inr (5, [.int zm_thrown, .ref am_there, .ref am_ones, .ref am_others, .ref am_xs, .ref am_ys, .int zm_many, .ref am_a, .ref am_b, .ref am_from, .ref am_to, .ref am_way, .ref am_depth, .ref am_above, .ref am_pile, .ref am_next, .ref am_leader, .ref am_turned, .ref am_piece, .ref am_numbers, .ref am_row])), (am_ones, .inl (km_ones, 24, .inl zm_ones))] sz)) 0 0 (va_A [(am, .inr (5, [.int zm_thrown, .ref am_there, .ref am_ones, .ref am_others, .ref am_xs, .ref am_ys, .int zm_many, .ref am_a, .ref am_b, .ref am_from, .ref am_to, .ref am_way, .ref am_depth, .ref am_above, .ref am_pile, .ref am_next, .ref am_leader, .ref am_turned, .ref am_piece, .ref am_numbers, .ref am_row])), (am_ones, .inl (km_ones, 24, .inl zm_ones))] sz) := by
  refine Met.ofW (cc := b_Mod_countLines) (maxL := 3) (ret := (some .int)) (by decide) rfl ?_
  intro p e s m args below meth c s₁ B hml hv
  obtain ⟨hargs, hsz, hP, hK, hD0, hN⟩ := hv
  have hx := B.exec
  have hb := B.bytes
  have hr := B.returns
  have hts := atoms_spec (ws := w_Mod_countLines) B.pre
  have hown : s.vm.findClass R_Mod = some m.cls := findClass_of_methodNamed B.named
  have hlocks := B.notSynchronized
  subst hsz
  have hD := hD0.self (sz := s.heap.size)
  generalize hAe : va_A [(am, .inr (5, [.int zm_thrown, .ref am_there, .ref am_ones, .ref am_others, .ref am_xs, .ref am_ys, .int zm_many, .ref am_a, .ref am_b, .ref am_from, .ref am_to, .ref am_way, .ref am_depth, .ref am_above, .ref am_pile, .ref am_next, .ref am_leader, .ref am_turned, .ref am_piece, .ref am_numbers, .ref am_row])), (am_ones, .inl (km_ones, 24, .inl zm_ones))] s.heap.size = A at hD ⊢
  have hA : ∀ q : Nat, s.heap.size ≤ q → A q := fun q h => by rw [← hAe]; exact Or.inr h
  have hS : va_S A s.heap s.heap [] := va_S.rf
  have hl := lv_entry ([.ref am]) (n := 3) (Nat.le_of_ble_eq_true rfl)
  refine W.eq (congrArg (fun a => entryFrame m a 3) hargs) ?_
  rw [lg_entry_eq]
  generalize (lg_sl ([.ref am]) ++ List.replicate (3 - (lg_sl ([.ref am])).length) Slot.unset).toArray = ls at hl ⊢
  have hl : lv_has ls 3 [(0, .ref am)] := hl
  generalize hH0 : ([] : List Loc) = locs at hS ⊢
  have hI := hR.symm
  rw [F_countLinesM] at hI
  refine lv_iconst (v := 0) hx hb d_Mod_countLines_0 (by decide) ?_
  refine lv_istore_n (lv' := [(1, .int 0), (0, .ref am)]) hx hb d_Mod_countLines_1 rfl hl (by decide) rfl (fun ls hl => ?_)
  refine lv_iconst (v := 0) hx hb d_Mod_countLines_2 (by decide) ?_
  refine lv_istore_n (lv' := [(2, .int 0), (1, .int 0), (0, .ref am)]) hx hb d_Mod_countLines_3 rfl hl (by decide) rfl (fun ls hl => ?_)
  obtain ⟨K_4, hK_4⟩ : ∃ K : Int32 → Option (Int32), K = (fun v1_4 => some (v1_4)) := ⟨_, rfl⟩
  have X_4 : ∀ (k_4 : Nat) (v1_4 : Int32) (H : Heap) (locs : List Loc) (ls : Array Slot), some R = K_4 v1_4 → va_P (dC, dI) classes [(am, .inr (5, [.int zm_thrown, .ref am_there, .ref am_ones, .ref am_others, .ref am_xs, .ref am_ys, .int zm_many, .ref am_a, .ref am_b, .ref am_from, .ref am_to, .ref am_way, .ref am_depth, .ref am_above, .ref am_pile, .ref am_next, .ref am_leader, .ref am_turned, .ref am_piece, .ref am_numbers, .ref am_row])), (am_ones, .inl (km_ones, 24, .inl zm_ones))] H → va_D A [(am, .inr (5, [.int zm_thrown, .ref am_there, .ref am_ones, .ref am_others, .ref am_xs, .ref am_ys, .int zm_many, .ref am_a, .ref am_b, .ref am_from, .ref am_to, .ref am_way, .ref am_depth, .ref am_above, .ref am_pile, .ref am_next, .ref am_leader, .ref am_turned, .ref am_piece, .ref am_numbers, .ref am_row])), (am_ones, .inl (km_ones, 24, .inl zm_ones))] → va_S A s.heap H locs → lv_has ls 3 [(0, .ref am), (1, .int v1_4), (2, .int (nI k_4))] → W p l e (headSpec w_Mod_countLines ({ frames := 0, cells := 0, slots := 0, locals := 0 })).room s m args below meth c H locs 0 0 (MQ below (va_Qi (fun (r : Int32) (u : Unit) => r = R) (fun u t => End_ dC dI A [(km_ones, .int)] [(am, .inr (5, [.int zm_thrown, .ref am_there, .ref am_ones, .ref am_others, .ref am_xs, .ref am_ys, .int zm_many, .ref am_a, .ref am_b, .ref am_from, .ref am_to, .ref am_way, .ref am_depth, .ref am_above, .ref am_pile, .ref am_next, .ref am_leader, .ref am_turned, .ref am_piece, .ref am_numbers, .ref am_row])), (am_ones, .inl (km_ones, 24, .inl zm_ones))] t) A) args s 0 0 A) (F0 m 33 ls []) := by
    intro k_4 v1_4 H locs ls hI hP hD hS hl
    rw [hK_4] at hI
    refine lv_iload_n hx hb d_Mod_countLines_33 rfl (lv_at hl 1 rfl) ?_
    exact W.iret (v := v1_4) hx hb hr (fun t ht hW => ⟨⟨v1_4, (), rfl, (Option.some.inj hI).symm, by rw [ht]; exact hP, va_K.moved hW.alike hK, hD⟩, hS.F ht⟩) hS.2.2 d_Mod_countLines_34
  have L_4 : ∀ (n_4 k_4 : Nat) (v1_4 : Int32) (H : Heap) (locs : List Loc) (ls : Array Slot), k_4 + n_4 = 24 → some R = F_countLinesM_L4 K_4 zm_ones n_4 k_4 v1_4 → va_P (dC, dI) classes [(am, .inr (5, [.int zm_thrown, .ref am_there, .ref am_ones, .ref am_others, .ref am_xs, .ref am_ys, .int zm_many, .ref am_a, .ref am_b, .ref am_from, .ref am_to, .ref am_way, .ref am_depth, .ref am_above, .ref am_pile, .ref am_next, .ref am_leader, .ref am_turned, .ref am_piece, .ref am_numbers, .ref am_row])), (am_ones, .inl (km_ones, 24, .inl zm_ones))] H → va_D A [(am, .inr (5, [.int zm_thrown, .ref am_there, .ref am_ones, .ref am_others, .ref am_xs, .ref am_ys, .int zm_many, .ref am_a, .ref am_b, .ref am_from, .ref am_to, .ref am_way, .ref am_depth, .ref am_above, .ref am_pile, .ref am_next, .ref am_leader, .ref am_turned, .ref am_piece, .ref am_numbers, .ref am_row])), (am_ones, .inl (km_ones, 24, .inl zm_ones))] → va_S A s.heap H locs → lv_has ls 3 [(0, .ref am), (1, .int v1_4), (2, .int (nI k_4))] → W p l e (headSpec w_Mod_countLines ({ frames := 0, cells := 0, slots := 0, locals := 0 })).room s m args below meth c H locs 0 0 (MQ below (va_Qi (fun (r : Int32) (u : Unit) => r = R) (fun u t => End_ dC dI A [(km_ones, .int)] [(am, .inr (5, [.int zm_thrown, .ref am_there, .ref am_ones, .ref am_others, .ref am_xs, .ref am_ys, .int zm_many, .ref am_a, .ref am_b, .ref am_from, .ref am_to, .ref am_way, .ref am_depth, .ref am_above, .ref am_pile, .ref am_next, .ref am_leader, .ref am_turned, .ref am_piece, .ref am_numbers, .ref am_row])), (am_ones, .inl (km_ones, 24, .inl zm_ones))] t) A) args s 0 0 A) (F0 m 4 ls []) := by
    intro n_4
    induction n_4 with
    | zero =>
      intro k_4 v1_4 H locs ls hkn_4 hI hP hD hS hl
      rw [F_countLinesM_L4] at hI
      refine lv_iload_n hx hb d_Mod_countLines_4 rfl (lv_at hl 2 rfl) ?_
      refine lv_bipush (v := 24) hx hb d_Mod_countLines_5 (by decide) ?_
      refine lv_icmp_ge (tgt := 33) hx hb d_Mod_countLines_7 rfl (fun hc_7 => ?_) (fun hc_7 => absurd (z_exit rfl hkn_4) hc_7)
      have hl := lv_sub hl [0, 1, 2] rfl
      exact X_4 _ _ _ _ _ hI hP hD hS hl
    | succ n_4 ih_4 =>
      intro k_4 v1_4 H locs ls hkn_4 hI hP hD hS hl
      rw [F_countLinesM_L4] at hI
      refine lv_iload_n hx hb d_Mod_countLines_4 rfl (lv_at hl 2 rfl) ?_
      refine lv_bipush (v := 24) hx hb d_Mod_countLines_5 (by decide) ?_
      refine lv_icmp_ge (tgt := 33) hx hb d_Mod_countLines_7 rfl (fun hc_7 => absurd hc_7 (z_stay rfl hkn_4 (by decide))) (fun hc_7 => ?_)
      refine lv_aload_n hx hb d_Mod_countLines_10 rfl (lv_at hl 0 rfl) ?_
      refine va_get (D := (dC, dI)) (ci := 5) (v := .ref am_ones) (C := R_Mod) (T := F_Mod) (N := 21) hx hb hts (fun w h => List.mem_cons_of_mem _ (in_Mod w h)) hown hK hP 0 rfl rfl 2 (by decide) (hts _ (List.mem_cons_of_mem _ mw_3_158)) (fun _ h9 => h9) rfl d_Mod_countLines_11 ?_
      refine lv_iload_n hx hb d_Mod_countLines_14 rfl (lv_at hl 2 rfl) ?_
      refine va_iald (D := (dC, dI)) hx hb hK hP 1 0 rfl rfl (vp_in_nI (by omega) (by decide)) d_Mod_countLines_15 ?_
      refine lv_topi (fun y_15 e_15 => ?_)
      obtain rfl : y_15 = zm_ones k_4 := e_15.trans (by rw [nI_clamp (by omega)])
      refine lv_if_lt (tgt := 25) hx hb d_Mod_countLines_16 rfl (fun hc_16 => ?_) (fun hc_16 => ?_)
      · skip
        have hI := hI.trans (if_pos hc_16)
        refine lv_iload_n hx hb d_Mod_countLines_25 rfl (lv_at hl 1 rfl) ?_
        refine lv_istore_n (lv' := [(1, .int v1_4), (0, .ref am), (2, .int (nI k_4))]) hx hb d_Mod_countLines_26 rfl hl (by decide) rfl (fun ls hl => ?_)
        refine lv_iinc (lv' := [(2, .int (nI (k_4 + 1))), (1, .int v1_4), (0, .ref am)]) (k := 2) hx hb d_Mod_countLines_27 hl rfl (z_inc _) (by decide) rfl (fun ls hl => ?_)
        refine lv_goto (tgt := 4) hx hb d_Mod_countLines_30 rfl ?_
        have hl := lv_sub hl [2, 1, 0] rfl
        exact ih_4 _ _ _ _ _ (by omega) hI hP hD hS hl
      · skip
        have hI := hI.trans (if_neg hc_16)
        refine lv_iload_n hx hb d_Mod_countLines_19 rfl (lv_at hl 1 rfl) ?_
        refine lv_iconst (v := 1) hx hb d_Mod_countLines_20 (by decide) ?_
        refine lv_iadd hx hb d_Mod_countLines_21 ?_
        refine lv_goto (tgt := 26) hx hb d_Mod_countLines_22 rfl ?_
        refine lv_istore_n (lv' := [(1, .int (v1_4 + 1)), (0, .ref am), (2, .int (nI k_4))]) hx hb d_Mod_countLines_26 rfl hl (by decide) rfl (fun ls hl => ?_)
        refine lv_iinc (lv' := [(2, .int (nI (k_4 + 1))), (1, .int (v1_4 + 1)), (0, .ref am)]) (k := 2) hx hb d_Mod_countLines_27 hl rfl (z_inc _) (by decide) rfl (fun ls hl => ?_)
        refine lv_goto (tgt := 4) hx hb d_Mod_countLines_30 rfl ?_
        have hl := lv_sub hl [2, 1, 0] rfl
        exact ih_4 _ _ _ _ _ (by omega) hI hP hD hS hl
  have hl : lv_has ls 3 [(0, .ref am), (1, .int 0), (2, .int (nI 0))] := by first | exact lv_sub hl [2, 1, 0] rfl | (rw [nI_succ]; exact lv_sub hl [2, 1, 0] rfl)
  exact L_4 24 0 _ _ _ _ (by omega) (by rw [hK_4]; exact hI) hP hD hS hl
set_option maxHeartbeats 4000000 in
set_option maxRecDepth 100000 in
theorem c_nodeM (l : Launch) (dC : Nat → ClassId) (dI : Nat → Nat → Nat) (sz : Nat) (am am_there am_ones am_others am_xs am_ys am_a am_b am_from am_to am_way am_depth am_above am_pile am_next am_leader am_turned am_piece am_numbers am_row : Nat) (km_there : ClassId) (zm_thrown : Int32) (zm_many : Int32) (zm_there : Nat → Int32) (v1 : Int32) (R : Int32 × Int32 × (Nat → Int32)) (hR : F_nodeM zm_there v1 = some R) : Met l y_Mod_node w_Mod_node ({ frames := 2, cells := 0, slots := 0, locals := 41 }) (Pre_ dC dI sz [.ref am, .int v1] [(am, .inr (5, [.int zm_thrown, .ref am_there, .ref am_ones, .ref am_others, .ref am_xs, .ref am_ys, .int zm_many, .ref am_a, .ref am_b, .ref am_from, .ref am_to, .ref am_way, .ref am_depth, .ref am_above, .ref am_pile, .ref am_next, .ref am_leader, .ref am_turned, .ref am_piece, .ref am_numbers, .ref am_row])), (am_there, .inl (km_there, 10, .inl zm_there))] [(km_there, .boolean)]) (va_Qi (fun (r : Int32) (u : Int32 × (Nat → Int32)) => (r, u) = R) (fun u t => End_ dC dI (va_A [(am, .inr (5, [.int zm_thrown, .ref am_there, .ref am_ones, .ref am_others, .ref am_xs, .ref am_ys, .int zm_many, .ref am_a, .ref am_b, .ref am_from, .ref am_to, .ref am_way, .ref am_depth, .ref am_above, .ref am_pile, .ref am_next, .ref am_leader, .ref am_turned, .ref am_piece, .ref am_numbers, .ref am_row])), (am_there, .inl (km_there, 10, .inl zm_there))] sz) [(km_there, .boolean)] [(am, .inr (5, [.int u.1, .ref am_there, .ref am_ones, .ref am_others, .ref am_xs, .ref am_ys, .int zm_many, .ref am_a, .ref am_b, .ref am_from, .ref am_to, .ref am_way, .ref am_depth, .ref am_above, .ref am_pile, .ref am_next, .ref am_leader, .ref am_turned, .ref am_piece, .ref am_numbers, .ref am_row])), (am_there, .inl (km_there, 10, .inl u.2))] t) (va_A [(am, .inr (5, [.int zm_thrown, .ref am_there, .ref am_ones, .ref am_others, .ref am_xs, .ref am_ys, .int zm_many, .ref am_a, .ref am_b, .ref am_from, .ref am_to, .ref am_way, .ref am_depth, .ref am_above, .ref am_pile, .ref am_next, .ref am_leader, .ref am_turned, .ref am_piece, .ref am_numbers, .ref am_row])), (am_there, .inl (km_there, 10, .inl zm_there))] sz)) 0 0 (va_A [(am, .inr (5, [.int zm_thrown, .ref am_there, .ref am_ones, .ref am_others, .ref am_xs, .ref am_ys, .int zm_many, .ref am_a, .ref am_b, .ref am_from, .ref am_to, .ref am_way, .ref am_depth, .ref am_above, .ref am_pile, .ref am_next, .ref am_leader, .ref am_turned, .ref am_piece, .ref am_numbers, .ref am_row])), (am_there, .inl (km_there, 10, .inl zm_there))] sz) := by
  refine Met.ofW (cc := b_Mod_node) (maxL := 2) (ret := (some .int)) (by decide) rfl ?_
  intro p e s m args below meth c s₁ B hml hv
  obtain ⟨hargs, hsz, hP, hK, hD0, hN⟩ := hv
  have hx := B.exec
  have hb := B.bytes
  have hr := B.returns
  have hts := atoms_spec (ws := w_Mod_node) B.pre
  have hown : s.vm.findClass R_Mod = some m.cls := findClass_of_methodNamed B.named
  have hlocks := B.notSynchronized
  subst hsz
  have hD := hD0.self (sz := s.heap.size)
  generalize hAe : va_A [(am, .inr (5, [.int zm_thrown, .ref am_there, .ref am_ones, .ref am_others, .ref am_xs, .ref am_ys, .int zm_many, .ref am_a, .ref am_b, .ref am_from, .ref am_to, .ref am_way, .ref am_depth, .ref am_above, .ref am_pile, .ref am_next, .ref am_leader, .ref am_turned, .ref am_piece, .ref am_numbers, .ref am_row])), (am_there, .inl (km_there, 10, .inl zm_there))] s.heap.size = A at hD ⊢
  have hA : ∀ q : Nat, s.heap.size ≤ q → A q := fun q h => by rw [← hAe]; exact Or.inr h
  have hS : va_S A s.heap s.heap [] := va_S.rf
  have hl := lv_entry ([.ref am, .int v1]) (n := 2) (Nat.le_of_ble_eq_true rfl)
  refine W.eq (congrArg (fun a => entryFrame m a 2) hargs) ?_
  rw [lg_entry_eq]
  generalize (lg_sl ([.ref am, .int v1]) ++ List.replicate (2 - (lg_sl ([.ref am, .int v1])).length) Slot.unset).toArray = ls at hl ⊢
  have hl : lv_has ls 2 [(0, .ref am), (1, .int v1)] := hl
  generalize hH0 : ([] : List Loc) = locs at hS ⊢
  have hI := hR.symm
  rw [F_nodeM] at hI
  refine lv_aload_n hx hb d_Mod_node_0 rfl (lv_at hl 0 rfl) ?_
  refine lv_iload_n hx hb d_Mod_node_1 rfl (lv_at hl 1 rfl) ?_
  have hPc := hP.sub (ws' := []) [] rfl
  have hDc := hD.sub (ws' := []) [] (by decide) rfl
  have hKc := hK.sub (tys' := []) [] rfl
  have hFc := va_free (wc := []) hD hS hA [] rfl
  refine va_calli (va_runS (As := [.int v1]) (rest := [.ref am]) ⟨hx, hb, hml, hown, hts⟩ (c_isNode l dC dI s.heap.size v1) (cwS 1 hts (gi3 mw_3_229 mw_3_230 mw_1_6 mw_3_231) rfl rfl rfl (by decide +kernel) ⟨Nat.le_of_ble_eq_true rfl, Nat.le_of_ble_eq_true rfl⟩) ⟨fb_, pre_ hPc hKc hDc hN⟩ rfl rfl hl.1 rfl (lv_room (Nat.le_of_ble_eq_true rfl)) d_Mod_node_2 ⟨Nat.le_of_ble_eq_true rfl, Nat.le_of_ble_eq_true rfl⟩) hS (fun q _ h => hFc q h) hFc (fun r_2 u t H locs ht hvm hp_2 hB hz1 hk1 hS => ?_)
  obtain ⟨hP1, -, hD1⟩ := hB
  rw [ht] at hP1
  obtain ⟨hP, hD⟩ := va_join (wr := [(am, .inr (5, [.int zm_thrown, .ref am_there, .ref am_ones, .ref am_others, .ref am_xs, .ref am_ys, .int zm_many, .ref am_a, .ref am_b, .ref am_from, .ref am_to, .ref am_way, .ref am_depth, .ref am_above, .ref am_pile, .ref am_next, .ref am_leader, .ref am_turned, .ref am_piece, .ref am_numbers, .ref am_row])), (am_there, .inl (km_there, 10, .inl zm_there))]) (w1 := []) hP hD [] [0, 1] rfl rfl (by decide) (by decide) hk1 hFc hP1 hD1
  have hp_2 : r_2 = f_isNN v1 := hp_2
  subst hp_2
  have hP : va_P (dC, dI) classes [(am, .inr (5, [.int zm_thrown, .ref am_there, .ref am_ones, .ref am_others, .ref am_xs, .ref am_ys, .int zm_many, .ref am_a, .ref am_b, .ref am_from, .ref am_to, .ref am_way, .ref am_depth, .ref am_above, .ref am_pile, .ref am_next, .ref am_leader, .ref am_turned, .ref am_piece, .ref am_numbers, .ref am_row])), (am_there, .inl (km_there, 10, .inl zm_there))] H := hP
  have hD : va_D A [(am, .inr (5, [.int zm_thrown, .ref am_there, .ref am_ones, .ref am_others, .ref am_xs, .ref am_ys, .int zm_many, .ref am_a, .ref am_b, .ref am_from, .ref am_to, .ref am_way, .ref am_depth, .ref am_above, .ref am_pile, .ref am_next, .ref am_leader, .ref am_turned, .ref am_piece, .ref am_numbers, .ref am_row])), (am_there, .inl (km_there, 10, .inl zm_there))] := hD
  obtain ⟨K_j13_5, hK_j13_5⟩ : ∃ K : Int32 → Option (Int32 × Int32 × (Nat → Int32)), K = (fun (j_13_5 : Int32) => ((F_isThereM zm_there v1).bind (fun p_15 => ((F_refusedM j_13_5 p_15 ((0 : Int32))).bind (fun p_19 => (if p_19.1 = 0 then (if inb v1 10 = true then ((F_countNodesM (upd zm_there (Int32.toNatClampNeg v1) 1)).bind (fun p_35 => some (p_35, p_19.2, upd zm_there (Int32.toNatClampNeg v1) 1))) else none) else some ((0 : Int32), p_19.2, zm_there))))))) := ⟨_, rfl⟩
  have J_13_5 : ∀ (s0_13_5 : Int32) (H : Heap) (locs : List Loc) (ls : Array Slot), some R = (K_j13_5 s0_13_5) → va_P (dC, dI) classes [(am, .inr (5, [.int zm_thrown, .ref am_there, .ref am_ones, .ref am_others, .ref am_xs, .ref am_ys, .int zm_many, .ref am_a, .ref am_b, .ref am_from, .ref am_to, .ref am_way, .ref am_depth, .ref am_above, .ref am_pile, .ref am_next, .ref am_leader, .ref am_turned, .ref am_piece, .ref am_numbers, .ref am_row])), (am_there, .inl (km_there, 10, .inl zm_there))] H → va_D A [(am, .inr (5, [.int zm_thrown, .ref am_there, .ref am_ones, .ref am_others, .ref am_xs, .ref am_ys, .int zm_many, .ref am_a, .ref am_b, .ref am_from, .ref am_to, .ref am_way, .ref am_depth, .ref am_above, .ref am_pile, .ref am_next, .ref am_leader, .ref am_turned, .ref am_piece, .ref am_numbers, .ref am_row])), (am_there, .inl (km_there, 10, .inl zm_there))] → va_S A s.heap H locs → lv_has ls 2 [(0, .ref am), (1, .int v1)] → W p l e (headSpec w_Mod_node ({ frames := 2, cells := 0, slots := 0, locals := 41 })).room s m args below meth c H locs 0 0 (MQ below (va_Qi (fun (r : Int32) (u : Int32 × (Nat → Int32)) => (r, u) = R) (fun u t => End_ dC dI A [(km_there, .boolean)] [(am, .inr (5, [.int u.1, .ref am_there, .ref am_ones, .ref am_others, .ref am_xs, .ref am_ys, .int zm_many, .ref am_a, .ref am_b, .ref am_from, .ref am_to, .ref am_way, .ref am_depth, .ref am_above, .ref am_pile, .ref am_next, .ref am_leader, .ref am_turned, .ref am_piece, .ref am_numbers, .ref am_row])), (am_there, .inl (km_there, 10, .inl u.2))] t) A) args s 0 0 A) (F0 m 13 ls [.int s0_13_5, .ref am]) := by
    intro s0_13_5 H locs ls hI hP hD hS hl
    rw [hK_j13_5] at hI
    refine lv_aload_n hx hb d_Mod_node_13 rfl (lv_at hl 0 rfl) ?_
    refine lv_iload_n hx hb d_Mod_node_14 rfl (lv_at hl 1 rfl) ?_
    obtain ⟨p_15, hg_15, hI⟩ := ob_bd hI
    have hPc := hP.sub (ws' := [(am, .inr (5, [.int zm_thrown, .ref am_there, .ref am_ones, .ref am_others, .ref am_xs, .ref am_ys, .int zm_many, .ref am_a, .ref am_b, .ref am_from, .ref am_to, .ref am_way, .ref am_depth, .ref am_above, .ref am_pile, .ref am_next, .ref am_leader, .ref am_turned, .ref am_piece, .ref am_numbers, .ref am_row])), (am_there, .inl (km_there, 10, .inl zm_there))]) [0, 1] rfl
    have hDc := hD.sub (ws' := [(am, .inr (5, [.int zm_thrown, .ref am_there, .ref am_ones, .ref am_others, .ref am_xs, .ref am_ys, .int zm_many, .ref am_a, .ref am_b, .ref am_from, .ref am_to, .ref am_way, .ref am_depth, .ref am_above, .ref am_pile, .ref am_next, .ref am_leader, .ref am_turned, .ref am_piece, .ref am_numbers, .ref am_row])), (am_there, .inl (km_there, 10, .inl zm_there))]) [0, 1] (by decide) rfl
    have hKc := hK.sub (tys' := [(km_there, .boolean)]) [0] rfl
    have hFc := va_free (wc := [(am, .inr (5, [.int zm_thrown, .ref am_there, .ref am_ones, .ref am_others, .ref am_xs, .ref am_ys, .int zm_many, .ref am_a, .ref am_b, .ref am_from, .ref am_to, .ref am_way, .ref am_depth, .ref am_above, .ref am_pile, .ref am_next, .ref am_leader, .ref am_turned, .ref am_piece, .ref am_numbers, .ref am_row])), (am_there, .inl (km_there, 10, .inl zm_there))]) hD hS hA [0, 1] rfl
    refine va_calli (va_runV (As := [.int v1]) (rest := [.int s0_13_5, .ref am]) ⟨hx, hb, hml, hown, hts⟩ (c_isThereM l dC dI H.size am am_there am_ones am_others am_xs am_ys am_a am_b am_from am_to am_way am_depth am_above am_pile am_next am_leader am_turned am_piece am_numbers am_row km_there zm_thrown zm_many zm_there v1 p_15 hg_15) (cwV 1 hts (gi4 mw_3_232 mw_3_234 mw_p_30 mw_1_6 mw_3_235) rfl rfl rfl (by decide +kernel) ⟨Nat.le_of_ble_eq_true rfl, Nat.le_of_ble_eq_true rfl⟩) ⟨fb_, va_recv (q0 := 0) (ci := 5) hK hP rfl rfl, pre_ hPc hKc hDc hN⟩ rfl rfl hl.1 rfl (lv_room (Nat.le_of_ble_eq_true rfl)) d_Mod_node_15 ⟨Nat.le_of_ble_eq_true rfl, Nat.le_of_ble_eq_true rfl⟩) hS (fun q _ h => hFc q h) hFc (fun r_15 u t H locs ht hvm hp_15 hB hz1 hk1 hS => ?_)
    obtain ⟨hP1, -, hD1⟩ := hB
    rw [ht] at hP1
    obtain ⟨hP, hD⟩ := va_join (wr := []) (w1 := [(am, .inr (5, [.int zm_thrown, .ref am_there, .ref am_ones, .ref am_others, .ref am_xs, .ref am_ys, .int zm_many, .ref am_a, .ref am_b, .ref am_from, .ref am_to, .ref am_way, .ref am_depth, .ref am_above, .ref am_pile, .ref am_next, .ref am_leader, .ref am_turned, .ref am_piece, .ref am_numbers, .ref am_row])), (am_there, .inl (km_there, 10, .inl zm_there))]) hP hD [0, 1] [] rfl rfl (by decide) (by decide) hk1 hFc hP1 hD1
    obtain ⟨hp_15, hz_15⟩ := hp_15
    have hp_15 : (r_15) = p_15 := hp_15
    subst hp_15
    have hP : va_P (dC, dI) classes [(am, .inr (5, [.int zm_thrown, .ref am_there, .ref am_ones, .ref am_others, .ref am_xs, .ref am_ys, .int zm_many, .ref am_a, .ref am_b, .ref am_from, .ref am_to, .ref am_way, .ref am_depth, .ref am_above, .ref am_pile, .ref am_next, .ref am_leader, .ref am_turned, .ref am_piece, .ref am_numbers, .ref am_row])), (am_there, .inl (km_there, 10, .inl zm_there))] H := hP
    have hD : va_D A [(am, .inr (5, [.int zm_thrown, .ref am_there, .ref am_ones, .ref am_others, .ref am_xs, .ref am_ys, .int zm_many, .ref am_a, .ref am_b, .ref am_from, .ref am_to, .ref am_way, .ref am_depth, .ref am_above, .ref am_pile, .ref am_next, .ref am_leader, .ref am_turned, .ref am_piece, .ref am_numbers, .ref am_row])), (am_there, .inl (km_there, 10, .inl zm_there))] := hD
    refine lv_iconst (v := 0) hx hb d_Mod_node_18 (by decide) ?_
    obtain ⟨p_19, hg_19, hI⟩ := ob_bd hI
    have hPc := hP.sub (ws' := [(am, .inr (5, [.int zm_thrown, .ref am_there, .ref am_ones, .ref am_others, .ref am_xs, .ref am_ys, .int zm_many, .ref am_a, .ref am_b, .ref am_from, .ref am_to, .ref am_way, .ref am_depth, .ref am_above, .ref am_pile, .ref am_next, .ref am_leader, .ref am_turned, .ref am_piece, .ref am_numbers, .ref am_row]))]) [0] rfl
    have hDc := hD.sub (ws' := [(am, .inr (5, [.int zm_thrown, .ref am_there, .ref am_ones, .ref am_others, .ref am_xs, .ref am_ys, .int zm_many, .ref am_a, .ref am_b, .ref am_from, .ref am_to, .ref am_way, .ref am_depth, .ref am_above, .ref am_pile, .ref am_next, .ref am_leader, .ref am_turned, .ref am_piece, .ref am_numbers, .ref am_row]))]) [0] (by decide) rfl
    have hKc := hK.sub (tys' := []) [] rfl
    have hFc := va_free (wc := [(am, .inr (5, [.int zm_thrown, .ref am_there, .ref am_ones, .ref am_others, .ref am_xs, .ref am_ys, .int zm_many, .ref am_a, .ref am_b, .ref am_from, .ref am_to, .ref am_way, .ref am_depth, .ref am_above, .ref am_pile, .ref am_next, .ref am_leader, .ref am_turned, .ref am_piece, .ref am_numbers, .ref am_row]))]) hD hS hA [0] rfl
    refine va_calli (va_runV (As := [.int s0_13_5, .int r_15, .int 0]) (rest := []) ⟨hx, hb, hml, hown, hts⟩ (c_refusedM l dC dI H.size am am_there am_ones am_others am_xs am_ys am_a am_b am_from am_to am_way am_depth am_above am_pile am_next am_leader am_turned am_piece am_numbers am_row zm_thrown zm_many s0_13_5 r_15 0 p_19 hg_19) (cwV 3 hts (gi4 mw_3_236 mw_3_238 mw_p_31 mw_1_6 mw_3_239) rfl rfl rfl (by decide +kernel) ⟨Nat.le_of_ble_eq_true rfl, Nat.le_of_ble_eq_true rfl⟩) ⟨fb_, va_recv (q0 := 0) (ci := 5) hK hP rfl rfl, pre_ hPc hKc hDc hN⟩ rfl rfl hl.1 rfl (lv_room (Nat.le_of_ble_eq_true rfl)) d_Mod_node_19 ⟨Nat.le_of_ble_eq_true rfl, Nat.le_of_ble_eq_true rfl⟩) hS (fun q _ h => hFc q h) hFc (fun r_19 wm_thrown_19 t H locs ht hvm hp_19 hB hz1 hk1 hS => ?_)
    obtain ⟨hP1, -, hD1⟩ := hB
    rw [ht] at hP1
    obtain ⟨hP, hD⟩ := va_join (wr := [(am_there, .inl (km_there, 10, .inl zm_there))]) (w1 := [(am, .inr (5, [.int wm_thrown_19, .ref am_there, .ref am_ones, .ref am_others, .ref am_xs, .ref am_ys, .int zm_many, .ref am_a, .ref am_b, .ref am_from, .ref am_to, .ref am_way, .ref am_depth, .ref am_above, .ref am_pile, .ref am_next, .ref am_leader, .ref am_turned, .ref am_piece, .ref am_numbers, .ref am_row]))]) hP hD [0] [1] rfl rfl (by decide) (by decide) hk1 hFc hP1 hD1
    obtain ⟨hp_19, hz_19⟩ := hp_19
    have hp_19 : (r_19, wm_thrown_19) = p_19 := hp_19
    subst hp_19
    have hP : va_P (dC, dI) classes [(am_there, .inl (km_there, 10, .inl zm_there)), (am, .inr (5, [.int wm_thrown_19, .ref am_there, .ref am_ones, .ref am_others, .ref am_xs, .ref am_ys, .int zm_many, .ref am_a, .ref am_b, .ref am_from, .ref am_to, .ref am_way, .ref am_depth, .ref am_above, .ref am_pile, .ref am_next, .ref am_leader, .ref am_turned, .ref am_piece, .ref am_numbers, .ref am_row]))] H := hP
    have hD : va_D A [(am_there, .inl (km_there, 10, .inl zm_there)), (am, .inr (5, [.int wm_thrown_19, .ref am_there, .ref am_ones, .ref am_others, .ref am_xs, .ref am_ys, .int zm_many, .ref am_a, .ref am_b, .ref am_from, .ref am_to, .ref am_way, .ref am_depth, .ref am_above, .ref am_pile, .ref am_next, .ref am_leader, .ref am_turned, .ref am_piece, .ref am_numbers, .ref am_row]))] := hD
    refine lv_if_eq (tgt := 27) hx hb d_Mod_node_22 rfl (fun hc_22 => ?_) (fun hc_22 => ?_)
    · skip
      have hI := hI.trans (if_pos hc_22)
      refine lv_aload_n hx hb d_Mod_node_27 rfl (lv_at hl 0 rfl) ?_
      refine va_get (D := (dC, dI)) (ci := 5) (v := .ref am_there) (C := R_Mod) (T := F_Mod) (N := 21) hx hb hts (fun w h => List.mem_cons_of_mem _ (in_Mod w h)) hown hK hP 1 rfl rfl 1 (by decide) (hts _ (List.mem_cons_of_mem _ mw_3_157)) (fun _ h9 => h9) rfl d_Mod_node_28 ?_
      refine lv_iload_n hx hb d_Mod_node_31 rfl (lv_at hl 1 rfl) ?_
      refine lv_iconst (v := 1) hx hb d_Mod_node_32 (by decide) ?_
      have hi_33 := ob_in hI
      have hI := ob_th hI
      refine va_zast (D := (dC, dI)) hx hb hK hP hD hS 0 0 rfl rfl hi_33 d_Mod_node_33 (fun H locs hP hD hS => ?_)
      have hP : va_P (dC, dI) classes [(am_there, .inl (km_there, 10, .inl (upd zm_there (Int32.toNatClampNeg v1) 1))), (am, .inr (5, [.int wm_thrown_19, .ref am_there, .ref am_ones, .ref am_others, .ref am_xs, .ref am_ys, .int zm_many, .ref am_a, .ref am_b, .ref am_from, .ref am_to, .ref am_way, .ref am_depth, .ref am_above, .ref am_pile, .ref am_next, .ref am_leader, .ref am_turned, .ref am_piece, .ref am_numbers, .ref am_row]))] H := hP
      have hD : va_D A [(am_there, .inl (km_there, 10, .inl (upd zm_there (Int32.toNatClampNeg v1) 1))), (am, .inr (5, [.int wm_thrown_19, .ref am_there, .ref am_ones, .ref am_others, .ref am_xs, .ref am_ys, .int zm_many, .ref am_a, .ref am_b, .ref am_from, .ref am_to, .ref am_way, .ref am_depth, .ref am_above, .ref am_pile, .ref am_next, .ref am_leader, .ref am_turned, .ref am_piece, .ref am_numbers, .ref am_row]))] := hD
      refine lv_aload_n hx hb d_Mod_node_34 rfl (lv_at hl 0 rfl) ?_
      obtain ⟨p_35, hg_35, hI⟩ := ob_bd hI
      have hPc := hP.sub (ws' := [(am, .inr (5, [.int wm_thrown_19, .ref am_there, .ref am_ones, .ref am_others, .ref am_xs, .ref am_ys, .int zm_many, .ref am_a, .ref am_b, .ref am_from, .ref am_to, .ref am_way, .ref am_depth, .ref am_above, .ref am_pile, .ref am_next, .ref am_leader, .ref am_turned, .ref am_piece, .ref am_numbers, .ref am_row])), (am_there, .inl (km_there, 10, .inl (upd zm_there (Int32.toNatClampNeg v1) 1)))]) [1, 0] rfl
      have hDc := hD.sub (ws' := [(am, .inr (5, [.int wm_thrown_19, .ref am_there, .ref am_ones, .ref am_others, .ref am_xs, .ref am_ys, .int zm_many, .ref am_a, .ref am_b, .ref am_from, .ref am_to, .ref am_way, .ref am_depth, .ref am_above, .ref am_pile, .ref am_next, .ref am_leader, .ref am_turned, .ref am_piece, .ref am_numbers, .ref am_row])), (am_there, .inl (km_there, 10, .inl (upd zm_there (Int32.toNatClampNeg v1) 1)))]) [1, 0] (by decide) rfl
      have hKc := hK.sub (tys' := [(km_there, .boolean)]) [0] rfl
      have hFc := va_free (wc := [(am, .inr (5, [.int wm_thrown_19, .ref am_there, .ref am_ones, .ref am_others, .ref am_xs, .ref am_ys, .int zm_many, .ref am_a, .ref am_b, .ref am_from, .ref am_to, .ref am_way, .ref am_depth, .ref am_above, .ref am_pile, .ref am_next, .ref am_leader, .ref am_turned, .ref am_piece, .ref am_numbers, .ref am_row])), (am_there, .inl (km_there, 10, .inl (upd zm_there (Int32.toNatClampNeg v1) 1)))]) hD hS hA [1, 0] rfl
      refine va_calli (va_runV (As := []) (rest := []) ⟨hx, hb, hml, hown, hts⟩ (c_countNodesM l dC dI H.size am am_there am_ones am_others am_xs am_ys am_a am_b am_from am_to am_way am_depth am_above am_pile am_next am_leader am_turned am_piece am_numbers am_row km_there wm_thrown_19 zm_many (upd zm_there (Int32.toNatClampNeg v1) 1) p_35 hg_35) (cwV 0 hts (gi4 mw_4_0 mw_4_2 mw_p_32 mw_1_6 mw_4_3) rfl rfl rfl (by decide +kernel) ⟨Nat.le_of_ble_eq_true rfl, Nat.le_of_ble_eq_true rfl⟩) ⟨fb_, va_recv (q0 := 1) (ci := 5) hK hP rfl rfl, pre_ hPc hKc hDc hN⟩ rfl rfl hl.1 rfl (lv_room (Nat.le_of_ble_eq_true rfl)) d_Mod_node_35 ⟨Nat.le_of_ble_eq_true rfl, Nat.le_of_ble_eq_true rfl⟩) hS (fun q _ h => hFc q h) hFc (fun r_35 u t H locs ht hvm hp_35 hB hz1 hk1 hS => ?_)
      obtain ⟨hP1, -, hD1⟩ := hB
      rw [ht] at hP1
      obtain ⟨hP, hD⟩ := va_join (wr := []) (w1 := [(am, .inr (5, [.int wm_thrown_19, .ref am_there, .ref am_ones, .ref am_others, .ref am_xs, .ref am_ys, .int zm_many, .ref am_a, .ref am_b, .ref am_from, .ref am_to, .ref am_way, .ref am_depth, .ref am_above, .ref am_pile, .ref am_next, .ref am_leader, .ref am_turned, .ref am_piece, .ref am_numbers, .ref am_row])), (am_there, .inl (km_there, 10, .inl (upd zm_there (Int32.toNatClampNeg v1) 1)))]) hP hD [1, 0] [] rfl rfl (by decide) (by decide) hk1 hFc hP1 hD1
      have hp_35 : (r_35) = p_35 := hp_35
      subst hp_35
      have hP : va_P (dC, dI) classes [(am, .inr (5, [.int wm_thrown_19, .ref am_there, .ref am_ones, .ref am_others, .ref am_xs, .ref am_ys, .int zm_many, .ref am_a, .ref am_b, .ref am_from, .ref am_to, .ref am_way, .ref am_depth, .ref am_above, .ref am_pile, .ref am_next, .ref am_leader, .ref am_turned, .ref am_piece, .ref am_numbers, .ref am_row])), (am_there, .inl (km_there, 10, .inl (upd zm_there (Int32.toNatClampNeg v1) 1)))] H := hP
      have hD : va_D A [(am, .inr (5, [.int wm_thrown_19, .ref am_there, .ref am_ones, .ref am_others, .ref am_xs, .ref am_ys, .int zm_many, .ref am_a, .ref am_b, .ref am_from, .ref am_to, .ref am_way, .ref am_depth, .ref am_above, .ref am_pile, .ref am_next, .ref am_leader, .ref am_turned, .ref am_piece, .ref am_numbers, .ref am_row])), (am_there, .inl (km_there, 10, .inl (upd zm_there (Int32.toNatClampNeg v1) 1)))] := hD
      exact W.iret (v := r_35) hx hb hr (fun t ht hW => ⟨⟨r_35, (wm_thrown_19, upd zm_there (Int32.toNatClampNeg v1) 1), rfl, (Option.some.inj hI).symm, by rw [ht]; exact hP, va_K.moved hW.alike hK, hD⟩, hS.F ht⟩) hS.2.2 d_Mod_node_38
    · skip
      have hI := hI.trans (if_neg hc_22)
      refine lv_iconst (v := 0) hx hb d_Mod_node_25 (by decide) ?_
      have hP := hP.sub (ws' := [(am, .inr (5, [.int wm_thrown_19, .ref am_there, .ref am_ones, .ref am_others, .ref am_xs, .ref am_ys, .int zm_many, .ref am_a, .ref am_b, .ref am_from, .ref am_to, .ref am_way, .ref am_depth, .ref am_above, .ref am_pile, .ref am_next, .ref am_leader, .ref am_turned, .ref am_piece, .ref am_numbers, .ref am_row])), (am_there, .inl (km_there, 10, .inl zm_there))]) [1, 0] rfl
      have hD := hD.sub (ws' := [(am, .inr (5, [.int wm_thrown_19, .ref am_there, .ref am_ones, .ref am_others, .ref am_xs, .ref am_ys, .int zm_many, .ref am_a, .ref am_b, .ref am_from, .ref am_to, .ref am_way, .ref am_depth, .ref am_above, .ref am_pile, .ref am_next, .ref am_leader, .ref am_turned, .ref am_piece, .ref am_numbers, .ref am_row])), (am_there, .inl (km_there, 10, .inl zm_there))]) [1, 0] (by decide) rfl
      exact W.iret (v := 0) hx hb hr (fun t ht hW => ⟨⟨0, (wm_thrown_19, zm_there), rfl, (Option.some.inj hI).symm, by rw [ht]; exact hP, va_K.moved hW.alike hK, hD⟩, hS.F ht⟩) hS.2.2 d_Mod_node_26
  have hI : some R = (K_j13_5 (if (f_isNN v1) = 0 then ((1 : Int32)) else ((0 : Int32)))) := by rw [hK_j13_5]; exact hI
  refine lv_if_ne (tgt := 12) hx hb d_Mod_node_5 rfl (fun hc_5 => ?_) (fun hc_5 => ?_)
  · skip
    have hI := ob_elC (C := fun y_ => K_j13_5 y_) hc_5 hI
    refine lv_iconst (v := 0) hx hb d_Mod_node_12 (by decide) ?_
    have hl := lv_sub hl [0, 1] rfl
    exact J_13_5 _ _ _ _ hI hP hD hS hl
  · skip
    have hI := ob_ifC (C := fun y_ => K_j13_5 y_) hc_5 hI
    refine lv_iconst (v := 1) hx hb d_Mod_node_8 (by decide) ?_
    refine lv_goto (tgt := 13) hx hb d_Mod_node_9 rfl ?_
    have hl := lv_sub hl [0, 1] rfl
    exact J_13_5 _ _ _ _ hI hP hD hS hl
set_option maxHeartbeats 4000000 in
set_option maxRecDepth 100000 in
theorem c_lineM (l : Launch) (dC : Nat → ClassId) (dI : Nat → Nat → Nat) (sz : Nat) (am am_there am_ones am_others am_xs am_ys am_a am_b am_from am_to am_way am_depth am_above am_pile am_next am_leader am_turned am_piece am_numbers am_row : Nat) (km_there km_ones km_others : ClassId) (zm_thrown : Int32) (zm_many : Int32) (zm_there : Nat → Int32) (zm_ones : Nat → Int32) (zm_others : Nat → Int32) (v1 v2 : Int32) (R : Int32 × Int32 × (Nat → Int32) × (Nat → Int32)) (hR : F_lineM zm_there zm_ones zm_others v1 v2 = some R) : Met l y_Mod_line w_Mod_line ({ frames := 2, cells := 0, slots := 0, locals := 41 }) (Pre_ dC dI sz [.ref am, .int v1, .int v2] [(am, .inr (5, [.int zm_thrown, .ref am_there, .ref am_ones, .ref am_others, .ref am_xs, .ref am_ys, .int zm_many, .ref am_a, .ref am_b, .ref am_from, .ref am_to, .ref am_way, .ref am_depth, .ref am_above, .ref am_pile, .ref am_next, .ref am_leader, .ref am_turned, .ref am_piece, .ref am_numbers, .ref am_row])), (am_there, .inl (km_there, 10, .inl zm_there)), (am_ones, .inl (km_ones, 24, .inl zm_ones)), (am_others, .inl (km_others, 24, .inl zm_others))] [(km_there, .boolean), (km_ones, .int), (km_others, .int)]) (va_Qi (fun (r : Int32) (u : Int32 × (Nat → Int32) × (Nat → Int32)) => (r, u) = R) (fun u t => End_ dC dI (va_A [(am, .inr (5, [.int zm_thrown, .ref am_there, .ref am_ones, .ref am_others, .ref am_xs, .ref am_ys, .int zm_many, .ref am_a, .ref am_b, .ref am_from, .ref am_to, .ref am_way, .ref am_depth, .ref am_above, .ref am_pile, .ref am_next, .ref am_leader, .ref am_turned, .ref am_piece, .ref am_numbers, .ref am_row])), (am_there, .inl (km_there, 10, .inl zm_there)), (am_ones, .inl (km_ones, 24, .inl zm_ones)), (am_others, .inl (km_others, 24, .inl zm_others))] sz) [(km_there, .boolean), (km_ones, .int), (km_others, .int)] [(am, .inr (5, [.int u.1, .ref am_there, .ref am_ones, .ref am_others, .ref am_xs, .ref am_ys, .int zm_many, .ref am_a, .ref am_b, .ref am_from, .ref am_to, .ref am_way, .ref am_depth, .ref am_above, .ref am_pile, .ref am_next, .ref am_leader, .ref am_turned, .ref am_piece, .ref am_numbers, .ref am_row])), (am_there, .inl (km_there, 10, .inl zm_there)), (am_ones, .inl (km_ones, 24, .inl u.2.1)), (am_others, .inl (km_others, 24, .inl u.2.2))] t) (va_A [(am, .inr (5, [.int zm_thrown, .ref am_there, .ref am_ones, .ref am_others, .ref am_xs, .ref am_ys, .int zm_many, .ref am_a, .ref am_b, .ref am_from, .ref am_to, .ref am_way, .ref am_depth, .ref am_above, .ref am_pile, .ref am_next, .ref am_leader, .ref am_turned, .ref am_piece, .ref am_numbers, .ref am_row])), (am_there, .inl (km_there, 10, .inl zm_there)), (am_ones, .inl (km_ones, 24, .inl zm_ones)), (am_others, .inl (km_others, 24, .inl zm_others))] sz)) 0 0 (va_A [(am, .inr (5, [.int zm_thrown, .ref am_there, .ref am_ones, .ref am_others, .ref am_xs, .ref am_ys, .int zm_many, .ref am_a, .ref am_b, .ref am_from, .ref am_to, .ref am_way, .ref am_depth, .ref am_above, .ref am_pile, .ref am_next, .ref am_leader, .ref am_turned, .ref am_piece, .ref am_numbers, .ref am_row])), (am_there, .inl (km_there, 10, .inl zm_there)), (am_ones, .inl (km_ones, 24, .inl zm_ones)), (am_others, .inl (km_others, 24, .inl zm_others))] sz) := by
  refine Met.ofW (cc := b_Mod_line) (maxL := 5) (ret := (some .int)) (by decide) rfl ?_
  intro p e s m args below meth c s₁ B hml hv
  obtain ⟨hargs, hsz, hP, hK, hD0, hN⟩ := hv
  have hx := B.exec
  have hb := B.bytes
  have hr := B.returns
  have hts := atoms_spec (ws := w_Mod_line) B.pre
  have hown : s.vm.findClass R_Mod = some m.cls := findClass_of_methodNamed B.named
  have hlocks := B.notSynchronized
  subst hsz
  have hD := hD0.self (sz := s.heap.size)
  generalize hAe : va_A [(am, .inr (5, [.int zm_thrown, .ref am_there, .ref am_ones, .ref am_others, .ref am_xs, .ref am_ys, .int zm_many, .ref am_a, .ref am_b, .ref am_from, .ref am_to, .ref am_way, .ref am_depth, .ref am_above, .ref am_pile, .ref am_next, .ref am_leader, .ref am_turned, .ref am_piece, .ref am_numbers, .ref am_row])), (am_there, .inl (km_there, 10, .inl zm_there)), (am_ones, .inl (km_ones, 24, .inl zm_ones)), (am_others, .inl (km_others, 24, .inl zm_others))] s.heap.size = A at hD ⊢
  have hA : ∀ q : Nat, s.heap.size ≤ q → A q := fun q h => by rw [← hAe]; exact Or.inr h
  have hS : va_S A s.heap s.heap [] := va_S.rf
  have hl := lv_entry ([.ref am, .int v1, .int v2]) (n := 5) (Nat.le_of_ble_eq_true rfl)
  refine W.eq (congrArg (fun a => entryFrame m a 5) hargs) ?_
  rw [lg_entry_eq]
  generalize (lg_sl ([.ref am, .int v1, .int v2]) ++ List.replicate (5 - (lg_sl ([.ref am, .int v1, .int v2])).length) Slot.unset).toArray = ls at hl ⊢
  have hl : lv_has ls 5 [(0, .ref am), (1, .int v1), (2, .int v2)] := hl
  generalize hH0 : ([] : List Loc) = locs at hS ⊢
  have hI := hR.symm
  rw [F_lineM] at hI
  refine lv_aload_n hx hb d_Mod_line_0 rfl (lv_at hl 0 rfl) ?_
  refine lv_iload_n hx hb d_Mod_line_1 rfl (lv_at hl 1 rfl) ?_
  obtain ⟨p_2, hg_2, hI⟩ := ob_bd hI
  have hPc := hP.sub (ws' := [(am, .inr (5, [.int zm_thrown, .ref am_there, .ref am_ones, .ref am_others, .ref am_xs, .ref am_ys, .int zm_many, .ref am_a, .ref am_b, .ref am_from, .ref am_to, .ref am_way, .ref am_depth, .ref am_above, .ref am_pile, .ref am_next, .ref am_leader, .ref am_turned, .ref am_piece, .ref am_numbers, .ref am_row])), (am_there, .inl (km_there, 10, .inl zm_there))]) [0, 1] rfl
  have hDc := hD.sub (ws' := [(am, .inr (5, [.int zm_thrown, .ref am_there, .ref am_ones, .ref am_others, .ref am_xs, .ref am_ys, .int zm_many, .ref am_a, .ref am_b, .ref am_from, .ref am_to, .ref am_way, .ref am_depth, .ref am_above, .ref am_pile, .ref am_next, .ref am_leader, .ref am_turned, .ref am_piece, .ref am_numbers, .ref am_row])), (am_there, .inl (km_there, 10, .inl zm_there))]) [0, 1] (by decide) rfl
  have hKc := hK.sub (tys' := [(km_there, .boolean)]) [0] rfl
  have hFc := va_free (wc := [(am, .inr (5, [.int zm_thrown, .ref am_there, .ref am_ones, .ref am_others, .ref am_xs, .ref am_ys, .int zm_many, .ref am_a, .ref am_b, .ref am_from, .ref am_to, .ref am_way, .ref am_depth, .ref am_above, .ref am_pile, .ref am_next, .ref am_leader, .ref am_turned, .ref am_piece, .ref am_numbers, .ref am_row])), (am_there, .inl (km_there, 10, .inl zm_there))]) hD hS hA [0, 1] rfl
  refine va_calli (va_runV (As := [.int v1]) (rest := []) ⟨hx, hb, hml, hown, hts⟩ (c_isThereM l dC dI s.heap.size am am_there am_ones am_others am_xs am_ys am_a am_b am_from am_to am_way am_depth am_above am_pile am_next am_leader am_turned am_piece am_numbers am_row km_there zm_thrown zm_many zm_there v1 p_2 hg_2) (cwV 1 hts (gi4 mw_3_232 mw_3_234 mw_p_30 mw_1_6 mw_3_235) rfl rfl rfl (by decide +kernel) ⟨Nat.le_of_ble_eq_true rfl, Nat.le_of_ble_eq_true rfl⟩) ⟨fb_, va_recv (q0 := 0) (ci := 5) hK hP rfl rfl, pre_ hPc hKc hDc hN⟩ rfl rfl hl.1 rfl (lv_room (Nat.le_of_ble_eq_true rfl)) d_Mod_line_2 ⟨Nat.le_of_ble_eq_true rfl, Nat.le_of_ble_eq_true rfl⟩) hS (fun q _ h => hFc q h) hFc (fun r_2 u t H locs ht hvm hp_2 hB hz1 hk1 hS => ?_)
  obtain ⟨hP1, -, hD1⟩ := hB
  rw [ht] at hP1
  obtain ⟨hP, hD⟩ := va_join (wr := [(am_ones, .inl (km_ones, 24, .inl zm_ones)), (am_others, .inl (km_others, 24, .inl zm_others))]) (w1 := [(am, .inr (5, [.int zm_thrown, .ref am_there, .ref am_ones, .ref am_others, .ref am_xs, .ref am_ys, .int zm_many, .ref am_a, .ref am_b, .ref am_from, .ref am_to, .ref am_way, .ref am_depth, .ref am_above, .ref am_pile, .ref am_next, .ref am_leader, .ref am_turned, .ref am_piece, .ref am_numbers, .ref am_row])), (am_there, .inl (km_there, 10, .inl zm_there))]) hP hD [0, 1] [2, 3] rfl rfl (by decide) (by decide) hk1 hFc hP1 hD1
  obtain ⟨hp_2, hz_2⟩ := hp_2
  have hp_2 : (r_2) = p_2 := hp_2
  subst hp_2
  have hP : va_P (dC, dI) classes [(am_ones, .inl (km_ones, 24, .inl zm_ones)), (am_others, .inl (km_others, 24, .inl zm_others)), (am, .inr (5, [.int zm_thrown, .ref am_there, .ref am_ones, .ref am_others, .ref am_xs, .ref am_ys, .int zm_many, .ref am_a, .ref am_b, .ref am_from, .ref am_to, .ref am_way, .ref am_depth, .ref am_above, .ref am_pile, .ref am_next, .ref am_leader, .ref am_turned, .ref am_piece, .ref am_numbers, .ref am_row])), (am_there, .inl (km_there, 10, .inl zm_there))] H := hP
  have hD : va_D A [(am_ones, .inl (km_ones, 24, .inl zm_ones)), (am_others, .inl (km_others, 24, .inl zm_others)), (am, .inr (5, [.int zm_thrown, .ref am_there, .ref am_ones, .ref am_others, .ref am_xs, .ref am_ys, .int zm_many, .ref am_a, .ref am_b, .ref am_from, .ref am_to, .ref am_way, .ref am_depth, .ref am_above, .ref am_pile, .ref am_next, .ref am_leader, .ref am_turned, .ref am_piece, .ref am_numbers, .ref am_row])), (am_there, .inl (km_there, 10, .inl zm_there))] := hD
  have hP := hP.sub (ws' := [(am, .inr (5, [.int zm_thrown, .ref am_there, .ref am_ones, .ref am_others, .ref am_xs, .ref am_ys, .int zm_many, .ref am_a, .ref am_b, .ref am_from, .ref am_to, .ref am_way, .ref am_depth, .ref am_above, .ref am_pile, .ref am_next, .ref am_leader, .ref am_turned, .ref am_piece, .ref am_numbers, .ref am_row])), (am_there, .inl (km_there, 10, .inl zm_there)), (am_ones, .inl (km_ones, 24, .inl zm_ones)), (am_others, .inl (km_others, 24, .inl zm_others))]) [2, 3, 0, 1] rfl
  have hD := hD.sub (ws' := [(am, .inr (5, [.int zm_thrown, .ref am_there, .ref am_ones, .ref am_others, .ref am_xs, .ref am_ys, .int zm_many, .ref am_a, .ref am_b, .ref am_from, .ref am_to, .ref am_way, .ref am_depth, .ref am_above, .ref am_pile, .ref am_next, .ref am_leader, .ref am_turned, .ref am_piece, .ref am_numbers, .ref am_row])), (am_there, .inl (km_there, 10, .inl zm_there)), (am_ones, .inl (km_ones, 24, .inl zm_ones)), (am_others, .inl (km_others, 24, .inl zm_others))]) [2, 3, 0, 1] (by decide) rfl
  obtain ⟨K_j21_5, hK_j21_5⟩ : ∃ K : Int32 → Option (Int32 × Int32 × (Nat → Int32) × (Nat → Int32)), K = (fun (j_21_5 : Int32) => ((fun (j_34_26 : Int32) => ((F_lineBetweenM zm_ones zm_others v1 v2).bind (fun p_37 => (((if 0 ≤ p_37 then (some ((1 : Int32))) else ((F_firstFreeM zm_ones).bind (fun p_44 => (if p_44 = 24 then (some ((1 : Int32))) else (some ((0 : Int32)))))))).bind (fun (j_57_40 : Int32) => ((F_refusedM j_21_5 j_34_26 j_57_40).bind (fun p_57 => (if p_57.1 = 0 then ((F_firstFreeM zm_ones).bind (fun p_66 => ((fun (j_87_79 : Int32) => (if inb p_66 24 = true then (if v2 ≤ v1 then some (p_66, p_57.2, upd zm_ones (Int32.toNatClampNeg p_66) j_87_79, upd zm_others (Int32.toNatClampNeg p_66) v1) else some (p_66, p_57.2, upd zm_ones (Int32.toNatClampNeg p_66) j_87_79, upd zm_others (Int32.toNatClampNeg p_66) v2)) else none)) (if v2 ≤ v1 then (v2) else (v1))))) else some ((0 : Int32), p_57.2, zm_ones, zm_others))))))))) (if v1 = v2 then ((1 : Int32)) else ((0 : Int32))))) := ⟨_, rfl⟩
  have J_21_5 : ∀ (s0_21_5 : Int32) (H : Heap) (locs : List Loc) (ls : Array Slot), some R = (K_j21_5 s0_21_5) → va_P (dC, dI) classes [(am, .inr (5, [.int zm_thrown, .ref am_there, .ref am_ones, .ref am_others, .ref am_xs, .ref am_ys, .int zm_many, .ref am_a, .ref am_b, .ref am_from, .ref am_to, .ref am_way, .ref am_depth, .ref am_above, .ref am_pile, .ref am_next, .ref am_leader, .ref am_turned, .ref am_piece, .ref am_numbers, .ref am_row])), (am_there, .inl (km_there, 10, .inl zm_there)), (am_ones, .inl (km_ones, 24, .inl zm_ones)), (am_others, .inl (km_others, 24, .inl zm_others))] H → va_D A [(am, .inr (5, [.int zm_thrown, .ref am_there, .ref am_ones, .ref am_others, .ref am_xs, .ref am_ys, .int zm_many, .ref am_a, .ref am_b, .ref am_from, .ref am_to, .ref am_way, .ref am_depth, .ref am_above, .ref am_pile, .ref am_next, .ref am_leader, .ref am_turned, .ref am_piece, .ref am_numbers, .ref am_row])), (am_there, .inl (km_there, 10, .inl zm_there)), (am_ones, .inl (km_ones, 24, .inl zm_ones)), (am_others, .inl (km_others, 24, .inl zm_others))] → va_S A s.heap H locs → lv_has ls 5 [(0, .ref am), (1, .int v1), (2, .int v2)] → W p l e (headSpec w_Mod_line ({ frames := 2, cells := 0, slots := 0, locals := 41 })).room s m args below meth c H locs 0 0 (MQ below (va_Qi (fun (r : Int32) (u : Int32 × (Nat → Int32) × (Nat → Int32)) => (r, u) = R) (fun u t => End_ dC dI A [(km_there, .boolean), (km_ones, .int), (km_others, .int)] [(am, .inr (5, [.int u.1, .ref am_there, .ref am_ones, .ref am_others, .ref am_xs, .ref am_ys, .int zm_many, .ref am_a, .ref am_b, .ref am_from, .ref am_to, .ref am_way, .ref am_depth, .ref am_above, .ref am_pile, .ref am_next, .ref am_leader, .ref am_turned, .ref am_piece, .ref am_numbers, .ref am_row])), (am_there, .inl (km_there, 10, .inl zm_there)), (am_ones, .inl (km_ones, 24, .inl u.2.1)), (am_others, .inl (km_others, 24, .inl u.2.2))] t) A) args s 0 0 A) (F0 m 21 ls [.int s0_21_5]) := by
    intro s0_21_5 H locs ls hI hP hD hS hl
    rw [hK_j21_5] at hI
    refine lv_istore_n (lv' := [(3, .int s0_21_5), (0, .ref am), (1, .int v1), (2, .int v2)]) hx hb d_Mod_line_21 rfl hl (by decide) rfl (fun ls hl => ?_)
    refine lv_aload_n hx hb d_Mod_line_22 rfl (lv_at hl 1 rfl) ?_
    refine lv_iload_n hx hb d_Mod_line_23 rfl (lv_at hl 0 rfl) ?_
    refine lv_iload_n hx hb d_Mod_line_24 rfl (lv_at hl 2 rfl) ?_
    refine lv_iload_n hx hb d_Mod_line_25 rfl (lv_at hl 3 rfl) ?_
    obtain ⟨K_j34_26, hK_j34_26⟩ : ∃ K : Int32 → Option (Int32 × Int32 × (Nat → Int32) × (Nat → Int32)), K = (fun (j_34_26 : Int32) => ((F_lineBetweenM zm_ones zm_others v1 v2).bind (fun p_37 => (((if 0 ≤ p_37 then (some ((1 : Int32))) else ((F_firstFreeM zm_ones).bind (fun p_44 => (if p_44 = 24 then (some ((1 : Int32))) else (some ((0 : Int32)))))))).bind (fun (j_57_40 : Int32) => ((F_refusedM s0_21_5 j_34_26 j_57_40).bind (fun p_57 => (if p_57.1 = 0 then ((F_firstFreeM zm_ones).bind (fun p_66 => ((fun (j_87_79 : Int32) => (if inb p_66 24 = true then (if v2 ≤ v1 then some (p_66, p_57.2, upd zm_ones (Int32.toNatClampNeg p_66) j_87_79, upd zm_others (Int32.toNatClampNeg p_66) v1) else some (p_66, p_57.2, upd zm_ones (Int32.toNatClampNeg p_66) j_87_79, upd zm_others (Int32.toNatClampNeg p_66) v2)) else none)) (if v2 ≤ v1 then (v2) else (v1))))) else some ((0 : Int32), p_57.2, zm_ones, zm_others))))))))) := ⟨_, rfl⟩
    have J_34_26 : ∀ (s0_34_26 : Int32) (H : Heap) (locs : List Loc) (ls : Array Slot), some R = (K_j34_26 s0_34_26) → va_P (dC, dI) classes [(am, .inr (5, [.int zm_thrown, .ref am_there, .ref am_ones, .ref am_others, .ref am_xs, .ref am_ys, .int zm_many, .ref am_a, .ref am_b, .ref am_from, .ref am_to, .ref am_way, .ref am_depth, .ref am_above, .ref am_pile, .ref am_next, .ref am_leader, .ref am_turned, .ref am_piece, .ref am_numbers, .ref am_row])), (am_there, .inl (km_there, 10, .inl zm_there)), (am_ones, .inl (km_ones, 24, .inl zm_ones)), (am_others, .inl (km_others, 24, .inl zm_others))] H → va_D A [(am, .inr (5, [.int zm_thrown, .ref am_there, .ref am_ones, .ref am_others, .ref am_xs, .ref am_ys, .int zm_many, .ref am_a, .ref am_b, .ref am_from, .ref am_to, .ref am_way, .ref am_depth, .ref am_above, .ref am_pile, .ref am_next, .ref am_leader, .ref am_turned, .ref am_piece, .ref am_numbers, .ref am_row])), (am_there, .inl (km_there, 10, .inl zm_there)), (am_ones, .inl (km_ones, 24, .inl zm_ones)), (am_others, .inl (km_others, 24, .inl zm_others))] → va_S A s.heap H locs → lv_has ls 5 [(0, .ref am), (1, .int v1), (2, .int v2), (3, .int s0_21_5)] → W p l e (headSpec w_Mod_line ({ frames := 2, cells := 0, slots := 0, locals := 41 })).room s m args below meth c H locs 0 0 (MQ below (va_Qi (fun (r : Int32) (u : Int32 × (Nat → Int32) × (Nat → Int32)) => (r, u) = R) (fun u t => End_ dC dI A [(km_there, .boolean), (km_ones, .int), (km_others, .int)] [(am, .inr (5, [.int u.1, .ref am_there, .ref am_ones, .ref am_others, .ref am_xs, .ref am_ys, .int zm_many, .ref am_a, .ref am_b, .ref am_from, .ref am_to, .ref am_way, .ref am_depth, .ref am_above, .ref am_pile, .ref am_next, .ref am_leader, .ref am_turned, .ref am_piece, .ref am_numbers, .ref am_row])), (am_there, .inl (km_there, 10, .inl zm_there)), (am_ones, .inl (km_ones, 24, .inl u.2.1)), (am_others, .inl (km_others, 24, .inl u.2.2))] t) A) args s 0 0 A) (F0 m 34 ls [.int s0_34_26, .int s0_21_5, .ref am]) := by
      intro s0_34_26 H locs ls hI hP hD hS hl
      rw [hK_j34_26] at hI
      refine lv_aload_n hx hb d_Mod_line_34 rfl (lv_at hl 0 rfl) ?_
      refine lv_iload_n hx hb d_Mod_line_35 rfl (lv_at hl 1 rfl) ?_
      refine lv_iload_n hx hb d_Mod_line_36 rfl (lv_at hl 2 rfl) ?_
      obtain ⟨p_37, hg_37, hI⟩ := ob_bd hI
      have hPc := hP.sub (ws' := [(am, .inr (5, [.int zm_thrown, .ref am_there, .ref am_ones, .ref am_others, .ref am_xs, .ref am_ys, .int zm_many, .ref am_a, .ref am_b, .ref am_from, .ref am_to, .ref am_way, .ref am_depth, .ref am_above, .ref am_pile, .ref am_next, .ref am_leader, .ref am_turned, .ref am_piece, .ref am_numbers, .ref am_row])), (am_ones, .inl (km_ones, 24, .inl zm_ones)), (am_others, .inl (km_others, 24, .inl zm_others))]) [0, 2, 3] rfl
      have hDc := hD.sub (ws' := [(am, .inr (5, [.int zm_thrown, .ref am_there, .ref am_ones, .ref am_others, .ref am_xs, .ref am_ys, .int zm_many, .ref am_a, .ref am_b, .ref am_from, .ref am_to, .ref am_way, .ref am_depth, .ref am_above, .ref am_pile, .ref am_next, .ref am_leader, .ref am_turned, .ref am_piece, .ref am_numbers, .ref am_row])), (am_ones, .inl (km_ones, 24, .inl zm_ones)), (am_others, .inl (km_others, 24, .inl zm_others))]) [0, 2, 3] (by decide) rfl
      have hKc := hK.sub (tys' := [(km_ones, .int), (km_others, .int)]) [1, 2] rfl
      have hFc := va_free (wc := [(am, .inr (5, [.int zm_thrown, .ref am_there, .ref am_ones, .ref am_others, .ref am_xs, .ref am_ys, .int zm_many, .ref am_a, .ref am_b, .ref am_from, .ref am_to, .ref am_way, .ref am_depth, .ref am_above, .ref am_pile, .ref am_next, .ref am_leader, .ref am_turned, .ref am_piece, .ref am_numbers, .ref am_row])), (am_ones, .inl (km_ones, 24, .inl zm_ones)), (am_others, .inl (km_others, 24, .inl zm_others))]) hD hS hA [0, 2, 3] rfl
      refine va_calli (va_runV (As := [.int v1, .int v2]) (rest := [.int s0_34_26, .int s0_21_5, .ref am]) ⟨hx, hb, hml, hown, hts⟩ (c_lineBetweenM l dC dI H.size am am_there am_ones am_others am_xs am_ys am_a am_b am_from am_to am_way am_depth am_above am_pile am_next am_leader am_turned am_piece am_numbers am_row km_ones km_others zm_thrown zm_many zm_ones zm_others v1 v2 p_37 hg_37) (cwV 2 hts (gi4 mw_4_8 mw_4_10 mw_p_33 mw_1_6 mw_4_11) rfl rfl rfl (by decide +kernel) ⟨Nat.le_of_ble_eq_true rfl, Nat.le_of_ble_eq_true rfl⟩) ⟨fb_, va_recv (q0 := 0) (ci := 5) hK hP rfl rfl, pre_ hPc hKc hDc hN⟩ rfl rfl hl.1 rfl (lv_room (Nat.le_of_ble_eq_true rfl)) d_Mod_line_37 ⟨Nat.le_of_ble_eq_true rfl, Nat.le_of_ble_eq_true rfl⟩) hS (fun q _ h => hFc q h) hFc (fun r_37 u t H locs ht hvm hp_37 hB hz1 hk1 hS => ?_)
      obtain ⟨hP1, -, hD1⟩ := hB
      rw [ht] at hP1
      obtain ⟨hP, hD⟩ := va_join (wr := [(am_there, .inl (km_there, 10, .inl zm_there))]) (w1 := [(am, .inr (5, [.int zm_thrown, .ref am_there, .ref am_ones, .ref am_others, .ref am_xs, .ref am_ys, .int zm_many, .ref am_a, .ref am_b, .ref am_from, .ref am_to, .ref am_way, .ref am_depth, .ref am_above, .ref am_pile, .ref am_next, .ref am_leader, .ref am_turned, .ref am_piece, .ref am_numbers, .ref am_row])), (am_ones, .inl (km_ones, 24, .inl zm_ones)), (am_others, .inl (km_others, 24, .inl zm_others))]) hP hD [0, 2, 3] [1] rfl rfl (by decide) (by decide) hk1 hFc hP1 hD1
      have hp_37 : (r_37) = p_37 := hp_37
      subst hp_37
      have hP : va_P (dC, dI) classes [(am_there, .inl (km_there, 10, .inl zm_there)), (am, .inr (5, [.int zm_thrown, .ref am_there, .ref am_ones, .ref am_others, .ref am_xs, .ref am_ys, .int zm_many, .ref am_a, .ref am_b, .ref am_from, .ref am_to, .ref am_way, .ref am_depth, .ref am_above, .ref am_pile, .ref am_next, .ref am_leader, .ref am_turned, .ref am_piece, .ref am_numbers, .ref am_row])), (am_ones, .inl (km_ones, 24, .inl zm_ones)), (am_others, .inl (km_others, 24, .inl zm_others))] H := hP
      have hD : va_D A [(am_there, .inl (km_there, 10, .inl zm_there)), (am, .inr (5, [.int zm_thrown, .ref am_there, .ref am_ones, .ref am_others, .ref am_xs, .ref am_ys, .int zm_many, .ref am_a, .ref am_b, .ref am_from, .ref am_to, .ref am_way, .ref am_depth, .ref am_above, .ref am_pile, .ref am_next, .ref am_leader, .ref am_turned, .ref am_piece, .ref am_numbers, .ref am_row])), (am_ones, .inl (km_ones, 24, .inl zm_ones)), (am_others, .inl (km_others, 24, .inl zm_others))] := hD
      have hP := hP.sub (ws' := [(am, .inr (5, [.int zm_thrown, .ref am_there, .ref am_ones, .ref am_others, .ref am_xs, .ref am_ys, .int zm_many, .ref am_a, .ref am_b, .ref am_from, .ref am_to, .ref am_way, .ref am_depth, .ref am_above, .ref am_pile, .ref am_next, .ref am_leader, .ref am_turned, .ref am_piece, .ref am_numbers, .ref am_row])), (am_there, .inl (km_there, 10, .inl zm_there)), (am_ones, .inl (km_ones, 24, .inl zm_ones)), (am_others, .inl (km_others, 24, .inl zm_others))]) [1, 0, 2, 3] rfl
      have hD := hD.sub (ws' := [(am, .inr (5, [.int zm_thrown, .ref am_there, .ref am_ones, .ref am_others, .ref am_xs, .ref am_ys, .int zm_many, .ref am_a, .ref am_b, .ref am_from, .ref am_to, .ref am_way, .ref am_depth, .ref am_above, .ref am_pile, .ref am_next, .ref am_leader, .ref am_turned, .ref am_piece, .ref am_numbers, .ref am_row])), (am_there, .inl (km_there, 10, .inl zm_there)), (am_ones, .inl (km_ones, 24, .inl zm_ones)), (am_others, .inl (km_others, 24, .inl zm_others))]) [1, 0, 2, 3] (by decide) rfl
      obtain ⟨K_j57_40, hK_j57_40⟩ : ∃ K : Int32 → Option (Int32 × Int32 × (Nat → Int32) × (Nat → Int32)), K = (fun (j_57_40 : Int32) => ((F_refusedM s0_21_5 s0_34_26 j_57_40).bind (fun p_57 => (if p_57.1 = 0 then ((F_firstFreeM zm_ones).bind (fun p_66 => ((fun (j_87_79 : Int32) => (if inb p_66 24 = true then (if v2 ≤ v1 then some (p_66, p_57.2, upd zm_ones (Int32.toNatClampNeg p_66) j_87_79, upd zm_others (Int32.toNatClampNeg p_66) v1) else some (p_66, p_57.2, upd zm_ones (Int32.toNatClampNeg p_66) j_87_79, upd zm_others (Int32.toNatClampNeg p_66) v2)) else none)) (if v2 ≤ v1 then (v2) else (v1))))) else some ((0 : Int32), p_57.2, zm_ones, zm_others))))) := ⟨_, rfl⟩
      have J_57_40 : ∀ (s0_57_40 : Int32) (H : Heap) (locs : List Loc) (ls : Array Slot), some R = (K_j57_40 s0_57_40) → va_P (dC, dI) classes [(am, .inr (5, [.int zm_thrown, .ref am_there, .ref am_ones, .ref am_others, .ref am_xs, .ref am_ys, .int zm_many, .ref am_a, .ref am_b, .ref am_from, .ref am_to, .ref am_way, .ref am_depth, .ref am_above, .ref am_pile, .ref am_next, .ref am_leader, .ref am_turned, .ref am_piece, .ref am_numbers, .ref am_row])), (am_there, .inl (km_there, 10, .inl zm_there)), (am_ones, .inl (km_ones, 24, .inl zm_ones)), (am_others, .inl (km_others, 24, .inl zm_others))] H → va_D A [(am, .inr (5, [.int zm_thrown, .ref am_there, .ref am_ones, .ref am_others, .ref am_xs, .ref am_ys, .int zm_many, .ref am_a, .ref am_b, .ref am_from, .ref am_to, .ref am_way, .ref am_depth, .ref am_above, .ref am_pile, .ref am_next, .ref am_leader, .ref am_turned, .ref am_piece, .ref am_numbers, .ref am_row])), (am_there, .inl (km_there, 10, .inl zm_there)), (am_ones, .inl (km_ones, 24, .inl zm_ones)), (am_others, .inl (km_others, 24, .inl zm_others))] → va_S A s.heap H locs → lv_has ls 5 [(0, .ref am), (1, .int v1), (2, .int v2), (3, .int s0_21_5)] → W p l e (headSpec w_Mod_line ({ frames := 2, cells := 0, slots := 0, locals := 41 })).room s m args below meth c H locs 0 0 (MQ below (va_Qi (fun (r : Int32) (u : Int32 × (Nat → Int32) × (Nat → Int32)) => (r, u) = R) (fun u t => End_ dC dI A [(km_there, .boolean), (km_ones, .int), (km_others, .int)] [(am, .inr (5, [.int u.1, .ref am_there, .ref am_ones, .ref am_others, .ref am_xs, .ref am_ys, .int zm_many, .ref am_a, .ref am_b, .ref am_from, .ref am_to, .ref am_way, .ref am_depth, .ref am_above, .ref am_pile, .ref am_next, .ref am_leader, .ref am_turned, .ref am_piece, .ref am_numbers, .ref am_row])), (am_there, .inl (km_there, 10, .inl zm_there)), (am_ones, .inl (km_ones, 24, .inl u.2.1)), (am_others, .inl (km_others, 24, .inl u.2.2))] t) A) args s 0 0 A) (F0 m 57 ls [.int s0_57_40, .int s0_34_26, .int s0_21_5, .ref am]) := by
        intro s0_57_40 H locs ls hI hP hD hS hl
        rw [hK_j57_40] at hI
        obtain ⟨p_57, hg_57, hI⟩ := ob_bd hI
        have hPc := hP.sub (ws' := [(am, .inr (5, [.int zm_thrown, .ref am_there, .ref am_ones, .ref am_others, .ref am_xs, .ref am_ys, .int zm_many, .ref am_a, .ref am_b, .ref am_from, .ref am_to, .ref am_way, .ref am_depth, .ref am_above, .ref am_pile, .ref am_next, .ref am_leader, .ref am_turned, .ref am_piece, .ref am_numbers, .ref am_row]))]) [0] rfl
        have hDc := hD.sub (ws' := [(am, .inr (5, [.int zm_thrown, .ref am_there, .ref am_ones, .ref am_others, .ref am_xs, .ref am_ys, .int zm_many, .ref am_a, .ref am_b, .ref am_from, .ref am_to, .ref am_way, .ref am_depth, .ref am_above, .ref am_pile, .ref am_next, .ref am_leader, .ref am_turned, .ref am_piece, .ref am_numbers, .ref am_row]))]) [0] (by decide) rfl
        have hKc := hK.sub (tys' := []) [] rfl
        have hFc := va_free (wc := [(am, .inr (5, [.int zm_thrown, .ref am_there, .ref am_ones, .ref am_others, .ref am_xs, .ref am_ys, .int zm_many, .ref am_a, .ref am_b, .ref am_from, .ref am_to, .ref am_way, .ref am_depth, .ref am_above, .ref am_pile, .ref am_next, .ref am_leader, .ref am_turned, .ref am_piece, .ref am_numbers, .ref am_row]))]) hD hS hA [0] rfl
        refine va_calli (va_runV (As := [.int s0_21_5, .int s0_34_26, .int s0_57_40]) (rest := []) ⟨hx, hb, hml, hown, hts⟩ (c_refusedM l dC dI H.size am am_there am_ones am_others am_xs am_ys am_a am_b am_from am_to am_way am_depth am_above am_pile am_next am_leader am_turned am_piece am_numbers am_row zm_thrown zm_many s0_21_5 s0_34_26 s0_57_40 p_57 hg_57) (cwV 3 hts (gi4 mw_3_236 mw_3_238 mw_p_31 mw_1_6 mw_3_239) rfl rfl rfl (by decide +kernel) ⟨Nat.le_of_ble_eq_true rfl, Nat.le_of_ble_eq_true rfl⟩) ⟨fb_, va_recv (q0 := 0) (ci := 5) hK hP rfl rfl, pre_ hPc hKc hDc hN⟩ rfl rfl hl.1 rfl (lv_room (Nat.le_of_ble_eq_true rfl)) d_Mod_line_57 ⟨Nat.le_of_ble_eq_true rfl, Nat.le_of_ble_eq_true rfl⟩) hS (fun q _ h => hFc q h) hFc (fun r_57 wm_thrown_57 t H locs ht hvm hp_57 hB hz1 hk1 hS => ?_)
        obtain ⟨hP1, -, hD1⟩ := hB
        rw [ht] at hP1
        obtain ⟨hP, hD⟩ := va_join (wr := [(am_there, .inl (km_there, 10, .inl zm_there)), (am_ones, .inl (km_ones, 24, .inl zm_ones)), (am_others, .inl (km_others, 24, .inl zm_others))]) (w1 := [(am, .inr (5, [.int wm_thrown_57, .ref am_there, .ref am_ones, .ref am_others, .ref am_xs, .ref am_ys, .int zm_many, .ref am_a, .ref am_b, .ref am_from, .ref am_to, .ref am_way, .ref am_depth, .ref am_above, .ref am_pile, .ref am_next, .ref am_leader, .ref am_turned, .ref am_piece, .ref am_numbers, .ref am_row]))]) hP hD [0] [1, 2, 3] rfl rfl (by decide) (by decide) hk1 hFc hP1 hD1
        obtain ⟨hp_57, hz_57⟩ := hp_57
        have hp_57 : (r_57, wm_thrown_57) = p_57 := hp_57
        subst hp_57
        have hP : va_P (dC, dI) classes [(am_there, .inl (km_there, 10, .inl zm_there)), (am_ones, .inl (km_ones, 24, .inl zm_ones)), (am_others, .inl (km_others, 24, .inl zm_others)), (am, .inr (5, [.int wm_thrown_57, .ref am_there, .ref am_ones, .ref am_others, .ref am_xs, .ref am_ys, .int zm_many, .ref am_a, .ref am_b, .ref am_from, .ref am_to, .ref am_way, .ref am_depth, .ref am_above, .ref am_pile, .ref am_next, .ref am_leader, .ref am_turned, .ref am_piece, .ref am_numbers, .ref am_row]))] H := hP
        have hD : va_D A [(am_there, .inl (km_there, 10, .inl zm_there)), (am_ones, .inl (km_ones, 24, .inl zm_ones)), (am_others, .inl (km_others, 24, .inl zm_others)), (am, .inr (5, [.int wm_thrown_57, .ref am_there, .ref am_ones, .ref am_others, .ref am_xs, .ref am_ys, .int zm_many, .ref am_a, .ref am_b, .ref am_from, .ref am_to, .ref am_way, .ref am_depth, .ref am_above, .ref am_pile, .ref am_next, .ref am_leader, .ref am_turned, .ref am_piece, .ref am_numbers, .ref am_row]))] := hD
        refine lv_if_eq (tgt := 65) hx hb d_Mod_line_60 rfl (fun hc_60 => ?_) (fun hc_60 => ?_)
        · skip
          have hI := hI.trans (if_pos hc_60)
          refine lv_aload_n hx hb d_Mod_line_65 rfl (lv_at hl 0 rfl) ?_
          obtain ⟨p_66, hg_66, hI⟩ := ob_bd hI
          have hPc := hP.sub (ws' := [(am, .inr (5, [.int wm_thrown_57, .ref am_there, .ref am_ones, .ref am_others, .ref am_xs, .ref am_ys, .int zm_many, .ref am_a, .ref am_b, .ref am_from, .ref am_to, .ref am_way, .ref am_depth, .ref am_above, .ref am_pile, .ref am_next, .ref am_leader, .ref am_turned, .ref am_piece, .ref am_numbers, .ref am_row])), (am_ones, .inl (km_ones, 24, .inl zm_ones))]) [3, 1] rfl
          have hDc := hD.sub (ws' := [(am, .inr (5, [.int wm_thrown_57, .ref am_there, .ref am_ones, .ref am_others, .ref am_xs, .ref am_ys, .int zm_many, .ref am_a, .ref am_b, .ref am_from, .ref am_to, .ref am_way, .ref am_depth, .ref am_above, .ref am_pile, .ref am_next, .ref am_leader, .ref am_turned, .ref am_piece, .ref am_numbers, .ref am_row])), (am_ones, .inl (km_ones, 24, .inl zm_ones))]) [3, 1] (by decide) rfl
          have hKc := hK.sub (tys' := [(km_ones, .int)]) [1] rfl
          have hFc := va_free (wc := [(am, .inr (5, [.int wm_thrown_57, .ref am_there, .ref am_ones, .ref am_others, .ref am_xs, .ref am_ys, .int zm_many, .ref am_a, .ref am_b, .ref am_from, .ref am_to, .ref am_way, .ref am_depth, .ref am_above, .ref am_pile, .ref am_next, .ref am_leader, .ref am_turned, .ref am_piece, .ref am_numbers, .ref am_row])), (am_ones, .inl (km_ones, 24, .inl zm_ones))]) hD hS hA [3, 1] rfl
          refine va_calli (va_runV (As := []) (rest := []) ⟨hx, hb, hml, hown, hts⟩ (c_firstFreeM l dC dI H.size am am_there am_ones am_others am_xs am_ys am_a am_b am_from am_to am_way am_depth am_above am_pile am_next am_leader am_turned am_piece am_numbers am_row km_ones wm_thrown_57 zm_many zm_ones p_66 hg_66) (cwV 0 hts (gi4 mw_4_12 mw_4_14 mw_p_34 mw_1_6 mw_4_15) rfl rfl rfl (by decide +kernel) ⟨Nat.le_of_ble_eq_true rfl, Nat.le_of_ble_eq_true rfl⟩) ⟨fb_, va_recv (q0 := 3) (ci := 5) hK hP rfl rfl, pre_ hPc hKc hDc hN⟩ rfl rfl hl.1 rfl (lv_room (Nat.le_of_ble_eq_true rfl)) d_Mod_line_66 ⟨Nat.le_of_ble_eq_true rfl, Nat.le_of_ble_eq_true rfl⟩) hS (fun q _ h => hFc q h) hFc (fun r_66 u t H locs ht hvm hp_66 hB hz1 hk1 hS => ?_)
          obtain ⟨hP1, -, hD1⟩ := hB
          rw [ht] at hP1
          obtain ⟨hP, hD⟩ := va_join (wr := [(am_there, .inl (km_there, 10, .inl zm_there)), (am_others, .inl (km_others, 24, .inl zm_others))]) (w1 := [(am, .inr (5, [.int wm_thrown_57, .ref am_there, .ref am_ones, .ref am_others, .ref am_xs, .ref am_ys, .int zm_many, .ref am_a, .ref am_b, .ref am_from, .ref am_to, .ref am_way, .ref am_depth, .ref am_above, .ref am_pile, .ref am_next, .ref am_leader, .ref am_turned, .ref am_piece, .ref am_numbers, .ref am_row])), (am_ones, .inl (km_ones, 24, .inl zm_ones))]) hP hD [3, 1] [0, 2] rfl rfl (by decide) (by decide) hk1 hFc hP1 hD1
          have hp_66 : (r_66) = p_66 := hp_66
          subst hp_66
          have hP : va_P (dC, dI) classes [(am_there, .inl (km_there, 10, .inl zm_there)), (am_others, .inl (km_others, 24, .inl zm_others)), (am, .inr (5, [.int wm_thrown_57, .ref am_there, .ref am_ones, .ref am_others, .ref am_xs, .ref am_ys, .int zm_many, .ref am_a, .ref am_b, .ref am_from, .ref am_to, .ref am_way, .ref am_depth, .ref am_above, .ref am_pile, .ref am_next, .ref am_leader, .ref am_turned, .ref am_piece, .ref am_numbers, .ref am_row])), (am_ones, .inl (km_ones, 24, .inl zm_ones))] H := hP
          have hD : va_D A [(am_there, .inl (km_there, 10, .inl zm_there)), (am_others, .inl (km_others, 24, .inl zm_others)), (am, .inr (5, [.int wm_thrown_57, .ref am_there, .ref am_ones, .ref am_others, .ref am_xs, .ref am_ys, .int zm_many, .ref am_a, .ref am_b, .ref am_from, .ref am_to, .ref am_way, .ref am_depth, .ref am_above, .ref am_pile, .ref am_next, .ref am_leader, .ref am_turned, .ref am_piece, .ref am_numbers, .ref am_row])), (am_ones, .inl (km_ones, 24, .inl zm_ones))] := hD
          refine lv_istore (lv' := [(4, .int r_66), (0, .ref am), (1, .int v1), (2, .int v2), (3, .int s0_21_5)]) hx hb d_Mod_line_69 hl (by decide) rfl (fun ls hl => ?_)
          refine lv_aload_n hx hb d_Mod_line_71 rfl (lv_at hl 1 rfl) ?_
          refine va_get (D := (dC, dI)) (ci := 5) (v := .ref am_ones) (C := R_Mod) (T := F_Mod) (N := 21) hx hb hts (fun w h => List.mem_cons_of_mem _ (in_Mod w h)) hown hK hP 2 rfl rfl 2 (by decide) (hts _ (List.mem_cons_of_mem _ mw_3_158)) (fun _ h9 => h9) rfl d_Mod_line_72 ?_
          refine lv_iload hx hb d_Mod_line_75 (lv_at hl 0 rfl) ?_
          refine lv_iload_n hx hb d_Mod_line_77 rfl (lv_at hl 2 rfl) ?_
          refine lv_iload_n hx hb d_Mod_line_78 rfl (lv_at hl 3 rfl) ?_
          have hP := hP.sub (ws' := [(am, .inr (5, [.int wm_thrown_57, .ref am_there, .ref am_ones, .ref am_others, .ref am_xs, .ref am_ys, .int zm_many, .ref am_a, .ref am_b, .ref am_from, .ref am_to, .ref am_way, .ref am_depth, .ref am_above, .ref am_pile, .ref am_next, .ref am_leader, .ref am_turned, .ref am_piece, .ref am_numbers, .ref am_row])), (am_there, .inl (km_there, 10, .inl zm_there)), (am_ones, .inl (km_ones, 24, .inl zm_ones)), (am_others, .inl (km_others, 24, .inl zm_others))]) [2, 0, 3, 1] rfl
          have hD := hD.sub (ws' := [(am, .inr (5, [.int wm_thrown_57, .ref am_there, .ref am_ones, .ref am_others, .ref am_xs, .ref am_ys, .int zm_many, .ref am_a, .ref am_b, .ref am_from, .ref am_to, .ref am_way, .ref am_depth, .ref am_above, .ref am_pile, .ref am_next, .ref am_leader, .ref am_turned, .ref am_piece, .ref am_numbers, .ref am_row])), (am_there, .inl (km_there, 10, .inl zm_there)), (am_ones, .inl (km_ones, 24, .inl zm_ones)), (am_others, .inl (km_others, 24, .inl zm_others))]) [2, 0, 3, 1] (by decide) rfl
          obtain ⟨K_j87_79, hK_j87_79⟩ : ∃ K : Int32 → Option (Int32 × Int32 × (Nat → Int32) × (Nat → Int32)), K = (fun (j_87_79 : Int32) => (if inb r_66 24 = true then (if v2 ≤ v1 then some (r_66, wm_thrown_57, upd zm_ones (Int32.toNatClampNeg r_66) j_87_79, upd zm_others (Int32.toNatClampNeg r_66) v1) else some (r_66, wm_thrown_57, upd zm_ones (Int32.toNatClampNeg r_66) j_87_79, upd zm_others (Int32.toNatClampNeg r_66) v2)) else none)) := ⟨_, rfl⟩
          have J_87_79 : ∀ (s0_87_79 : Int32) (H : Heap) (locs : List Loc) (ls : Array Slot), some R = (K_j87_79 s0_87_79) → va_P (dC, dI) classes [(am, .inr (5, [.int wm_thrown_57, .ref am_there, .ref am_ones, .ref am_others, .ref am_xs, .ref am_ys, .int zm_many, .ref am_a, .ref am_b, .ref am_from, .ref am_to, .ref am_way, .ref am_depth, .ref am_above, .ref am_pile, .ref am_next, .ref am_leader, .ref am_turned, .ref am_piece, .ref am_numbers, .ref am_row])), (am_there, .inl (km_there, 10, .inl zm_there)), (am_ones, .inl (km_ones, 24, .inl zm_ones)), (am_others, .inl (km_others, 24, .inl zm_others))] H → va_D A [(am, .inr (5, [.int wm_thrown_57, .ref am_there, .ref am_ones, .ref am_others, .ref am_xs, .ref am_ys, .int zm_many, .ref am_a, .ref am_b, .ref am_from, .ref am_to, .ref am_way, .ref am_depth, .ref am_above, .ref am_pile, .ref am_next, .ref am_leader, .ref am_turned, .ref am_piece, .ref am_numbers, .ref am_row])), (am_there, .inl (km_there, 10, .inl zm_there)), (am_ones, .inl (km_ones, 24, .inl zm_ones)), (am_others, .inl (km_others, 24, .inl zm_others))] → va_S A s.heap H locs → lv_has ls 5 [(0, .ref am), (1, .int v1), (2, .int v2), (3, .int s0_21_5), (4, .int r_66)] → W p l e (headSpec w_Mod_line ({ frames := 2, cells := 0, slots := 0, locals := 41 })).room s m args below meth c H locs 0 0 (MQ below (va_Qi (fun (r : Int32) (u : Int32 × (Nat → Int32) × (Nat → Int32)) => (r, u) = R) (fun u t => End_ dC dI A [(km_there, .boolean), (km_ones, .int), (km_others, .int)] [(am, .inr (5, [.int u.1, .ref am_there, .ref am_ones, .ref am_others, .ref am_xs, .ref am_ys, .int zm_many, .ref am_a, .ref am_b, .ref am_from, .ref am_to, .ref am_way, .ref am_depth, .ref am_above, .ref am_pile, .ref am_next, .ref am_leader, .ref am_turned, .ref am_piece, .ref am_numbers, .ref am_row])), (am_there, .inl (km_there, 10, .inl zm_there)), (am_ones, .inl (km_ones, 24, .inl u.2.1)), (am_others, .inl (km_others, 24, .inl u.2.2))] t) A) args s 0 0 A) (F0 m 87 ls [.int s0_87_79, .int r_66, .ref am_ones]) := by
            intro s0_87_79 H locs ls hI hP hD hS hl
            rw [hK_j87_79] at hI
            have hi_87 := ob_in hI
            have hI := ob_th hI
            refine va_iast (D := (dC, dI)) hx hb hK hP hD hS 2 1 rfl rfl hi_87 d_Mod_line_87 (fun H locs hP hD hS => ?_)
            have hP : va_P (dC, dI) classes [(am, .inr (5, [.int wm_thrown_57, .ref am_there, .ref am_ones, .ref am_others, .ref am_xs, .ref am_ys, .int zm_many, .ref am_a, .ref am_b, .ref am_from, .ref am_to, .ref am_way, .ref am_depth, .ref am_above, .ref am_pile, .ref am_next, .ref am_leader, .ref am_turned, .ref am_piece, .ref am_numbers, .ref am_row])), (am_there, .inl (km_there, 10, .inl zm_there)), (am_ones, .inl (km_ones, 24, .inl (upd zm_ones (Int32.toNatClampNeg r_66) s0_87_79))), (am_others, .inl (km_others, 24, .inl zm_others))] H := hP
            have hD : va_D A [(am, .inr (5, [.int wm_thrown_57, .ref am_there, .ref am_ones, .ref am_others, .ref am_xs, .ref am_ys, .int zm_many, .ref am_a, .ref am_b, .ref am_from, .ref am_to, .ref am_way, .ref am_depth, .ref am_above, .ref am_pile, .ref am_next, .ref am_leader, .ref am_turned, .ref am_piece, .ref am_numbers, .ref am_row])), (am_there, .inl (km_there, 10, .inl zm_there)), (am_ones, .inl (km_ones, 24, .inl (upd zm_ones (Int32.toNatClampNeg r_66) s0_87_79))), (am_others, .inl (km_others, 24, .inl zm_others))] := hD
            refine lv_aload_n hx hb d_Mod_line_88 rfl (lv_at hl 0 rfl) ?_
            refine va_get (D := (dC, dI)) (ci := 5) (v := .ref am_others) (C := R_Mod) (T := F_Mod) (N := 21) hx hb hts (fun w h => List.mem_cons_of_mem _ (in_Mod w h)) hown hK hP 0 rfl rfl 3 (by decide) (hts _ (List.mem_cons_of_mem _ mw_3_159)) (fun _ h9 => h9) rfl d_Mod_line_89 ?_
            refine lv_iload hx hb d_Mod_line_92 (lv_at hl 4 rfl) ?_
            refine lv_iload_n hx hb d_Mod_line_94 rfl (lv_at hl 1 rfl) ?_
            refine lv_iload_n hx hb d_Mod_line_95 rfl (lv_at hl 2 rfl) ?_
            refine lv_icmp_ge (tgt := 103) hx hb d_Mod_line_96 rfl (fun hc_96 => ?_) (fun hc_96 => ?_)
            · skip
              have hI := hI.trans (if_pos hc_96)
              refine lv_iload_n hx hb d_Mod_line_103 rfl (lv_at hl 1 rfl) ?_
              refine va_iast (D := (dC, dI)) hx hb hK hP hD hS 3 2 rfl rfl hi_87 d_Mod_line_104 (fun H locs hP hD hS => ?_)
              have hP : va_P (dC, dI) classes [(am, .inr (5, [.int wm_thrown_57, .ref am_there, .ref am_ones, .ref am_others, .ref am_xs, .ref am_ys, .int zm_many, .ref am_a, .ref am_b, .ref am_from, .ref am_to, .ref am_way, .ref am_depth, .ref am_above, .ref am_pile, .ref am_next, .ref am_leader, .ref am_turned, .ref am_piece, .ref am_numbers, .ref am_row])), (am_there, .inl (km_there, 10, .inl zm_there)), (am_ones, .inl (km_ones, 24, .inl (upd zm_ones (Int32.toNatClampNeg r_66) s0_87_79))), (am_others, .inl (km_others, 24, .inl (upd zm_others (Int32.toNatClampNeg r_66) v1)))] H := hP
              have hD : va_D A [(am, .inr (5, [.int wm_thrown_57, .ref am_there, .ref am_ones, .ref am_others, .ref am_xs, .ref am_ys, .int zm_many, .ref am_a, .ref am_b, .ref am_from, .ref am_to, .ref am_way, .ref am_depth, .ref am_above, .ref am_pile, .ref am_next, .ref am_leader, .ref am_turned, .ref am_piece, .ref am_numbers, .ref am_row])), (am_there, .inl (km_there, 10, .inl zm_there)), (am_ones, .inl (km_ones, 24, .inl (upd zm_ones (Int32.toNatClampNeg r_66) s0_87_79))), (am_others, .inl (km_others, 24, .inl (upd zm_others (Int32.toNatClampNeg r_66) v1)))] := hD
              refine lv_iload hx hb d_Mod_line_105 (lv_at hl 4 rfl) ?_
              exact W.iret (v := r_66) hx hb hr (fun t ht hW => ⟨⟨r_66, (wm_thrown_57, upd zm_ones (Int32.toNatClampNeg r_66) s0_87_79, upd zm_others (Int32.toNatClampNeg r_66) v1), rfl, (Option.some.inj hI).symm, by rw [ht]; exact hP, va_K.moved hW.alike hK, hD⟩, hS.F ht⟩) hS.2.2 d_Mod_line_107
            · skip
              have hI := hI.trans (if_neg hc_96)
              refine lv_iload_n hx hb d_Mod_line_99 rfl (lv_at hl 2 rfl) ?_
              refine lv_goto (tgt := 104) hx hb d_Mod_line_100 rfl ?_
              refine va_iast (D := (dC, dI)) hx hb hK hP hD hS 3 2 rfl rfl hi_87 d_Mod_line_104 (fun H locs hP hD hS => ?_)
              have hP : va_P (dC, dI) classes [(am, .inr (5, [.int wm_thrown_57, .ref am_there, .ref am_ones, .ref am_others, .ref am_xs, .ref am_ys, .int zm_many, .ref am_a, .ref am_b, .ref am_from, .ref am_to, .ref am_way, .ref am_depth, .ref am_above, .ref am_pile, .ref am_next, .ref am_leader, .ref am_turned, .ref am_piece, .ref am_numbers, .ref am_row])), (am_there, .inl (km_there, 10, .inl zm_there)), (am_ones, .inl (km_ones, 24, .inl (upd zm_ones (Int32.toNatClampNeg r_66) s0_87_79))), (am_others, .inl (km_others, 24, .inl (upd zm_others (Int32.toNatClampNeg r_66) v2)))] H := hP
              have hD : va_D A [(am, .inr (5, [.int wm_thrown_57, .ref am_there, .ref am_ones, .ref am_others, .ref am_xs, .ref am_ys, .int zm_many, .ref am_a, .ref am_b, .ref am_from, .ref am_to, .ref am_way, .ref am_depth, .ref am_above, .ref am_pile, .ref am_next, .ref am_leader, .ref am_turned, .ref am_piece, .ref am_numbers, .ref am_row])), (am_there, .inl (km_there, 10, .inl zm_there)), (am_ones, .inl (km_ones, 24, .inl (upd zm_ones (Int32.toNatClampNeg r_66) s0_87_79))), (am_others, .inl (km_others, 24, .inl (upd zm_others (Int32.toNatClampNeg r_66) v2)))] := hD
              refine lv_iload hx hb d_Mod_line_105 (lv_at hl 4 rfl) ?_
              exact W.iret (v := r_66) hx hb hr (fun t ht hW => ⟨⟨r_66, (wm_thrown_57, upd zm_ones (Int32.toNatClampNeg r_66) s0_87_79, upd zm_others (Int32.toNatClampNeg r_66) v2), rfl, (Option.some.inj hI).symm, by rw [ht]; exact hP, va_K.moved hW.alike hK, hD⟩, hS.F ht⟩) hS.2.2 d_Mod_line_107
          have hI : some R = (K_j87_79 (if v2 ≤ v1 then (v2) else (v1))) := by rw [hK_j87_79]; exact hI
          refine lv_icmp_ge (tgt := 86) hx hb d_Mod_line_79 rfl (fun hc_79 => ?_) (fun hc_79 => ?_)
          · skip
            have hI := ob_ifC (C := fun y_ => K_j87_79 y_) hc_79 hI
            refine lv_iload_n hx hb d_Mod_line_86 rfl (lv_at hl 3 rfl) ?_
            have hl := lv_sub hl [1, 2, 3, 4, 0] rfl
            exact J_87_79 _ _ _ _ hI hP hD hS hl
          · skip
            have hI := ob_elC (C := fun y_ => K_j87_79 y_) hc_79 hI
            refine lv_iload_n hx hb d_Mod_line_82 rfl (lv_at hl 2 rfl) ?_
            refine lv_goto (tgt := 87) hx hb d_Mod_line_83 rfl ?_
            have hl := lv_sub hl [1, 2, 3, 4, 0] rfl
            exact J_87_79 _ _ _ _ hI hP hD hS hl
        · skip
          have hI := hI.trans (if_neg hc_60)
          refine lv_iconst (v := 0) hx hb d_Mod_line_63 (by decide) ?_
          have hP := hP.sub (ws' := [(am, .inr (5, [.int wm_thrown_57, .ref am_there, .ref am_ones, .ref am_others, .ref am_xs, .ref am_ys, .int zm_many, .ref am_a, .ref am_b, .ref am_from, .ref am_to, .ref am_way, .ref am_depth, .ref am_above, .ref am_pile, .ref am_next, .ref am_leader, .ref am_turned, .ref am_piece, .ref am_numbers, .ref am_row])), (am_there, .inl (km_there, 10, .inl zm_there)), (am_ones, .inl (km_ones, 24, .inl zm_ones)), (am_others, .inl (km_others, 24, .inl zm_others))]) [3, 0, 1, 2] rfl
          have hD := hD.sub (ws' := [(am, .inr (5, [.int wm_thrown_57, .ref am_there, .ref am_ones, .ref am_others, .ref am_xs, .ref am_ys, .int zm_many, .ref am_a, .ref am_b, .ref am_from, .ref am_to, .ref am_way, .ref am_depth, .ref am_above, .ref am_pile, .ref am_next, .ref am_leader, .ref am_turned, .ref am_piece, .ref am_numbers, .ref am_row])), (am_there, .inl (km_there, 10, .inl zm_there)), (am_ones, .inl (km_ones, 24, .inl zm_ones)), (am_others, .inl (km_others, 24, .inl zm_others))]) [3, 0, 1, 2] (by decide) rfl
          exact W.iret (v := 0) hx hb hr (fun t ht hW => ⟨⟨0, (wm_thrown_57, zm_ones, zm_others), rfl, (Option.some.inj hI).symm, by rw [ht]; exact hP, va_K.moved hW.alike hK, hD⟩, hS.F ht⟩) hS.2.2 d_Mod_line_64
      have hI : some R = (Option.bind (if 0 ≤ r_37 then (some ((1 : Int32))) else ((F_firstFreeM zm_ones).bind (fun p_44 => (if p_44 = 24 then (some ((1 : Int32))) else (some ((0 : Int32))))))) K_j57_40) := by rw [hK_j57_40]; exact hI
      refine lv_if_ge (tgt := 52) hx hb d_Mod_line_40 rfl (fun hc_40 => ?_) (fun hc_40 => ?_)
      · skip
        have hI := ob_ifC (C := fun y_ => Option.bind y_ K_j57_40) hc_40 hI
        refine lv_iconst (v := 1) hx hb d_Mod_line_52 (by decide) ?_
        refine lv_goto (tgt := 57) hx hb d_Mod_line_53 rfl ?_
        have hl := lv_sub hl [0, 1, 2, 3] rfl
        exact J_57_40 _ _ _ _ hI hP hD hS hl
      · skip
        have hI := ob_elC (C := fun y_ => Option.bind y_ K_j57_40) hc_40 hI
        refine lv_aload_n hx hb d_Mod_line_43 rfl (lv_at hl 0 rfl) ?_
        obtain ⟨p_44, hg_44, hI⟩ := ob_bdC (C := fun y_ => Option.bind y_ K_j57_40) rfl hI
        have hPc := hP.sub (ws' := [(am, .inr (5, [.int zm_thrown, .ref am_there, .ref am_ones, .ref am_others, .ref am_xs, .ref am_ys, .int zm_many, .ref am_a, .ref am_b, .ref am_from, .ref am_to, .ref am_way, .ref am_depth, .ref am_above, .ref am_pile, .ref am_next, .ref am_leader, .ref am_turned, .ref am_piece, .ref am_numbers, .ref am_row])), (am_ones, .inl (km_ones, 24, .inl zm_ones))]) [0, 2] rfl
        have hDc := hD.sub (ws' := [(am, .inr (5, [.int zm_thrown, .ref am_there, .ref am_ones, .ref am_others, .ref am_xs, .ref am_ys, .int zm_many, .ref am_a, .ref am_b, .ref am_from, .ref am_to, .ref am_way, .ref am_depth, .ref am_above, .ref am_pile, .ref am_next, .ref am_leader, .ref am_turned, .ref am_piece, .ref am_numbers, .ref am_row])), (am_ones, .inl (km_ones, 24, .inl zm_ones))]) [0, 2] (by decide) rfl
        have hKc := hK.sub (tys' := [(km_ones, .int)]) [1] rfl
        have hFc := va_free (wc := [(am, .inr (5, [.int zm_thrown, .ref am_there, .ref am_ones, .ref am_others, .ref am_xs, .ref am_ys, .int zm_many, .ref am_a, .ref am_b, .ref am_from, .ref am_to, .ref am_way, .ref am_depth, .ref am_above, .ref am_pile, .ref am_next, .ref am_leader, .ref am_turned, .ref am_piece, .ref am_numbers, .ref am_row])), (am_ones, .inl (km_ones, 24, .inl zm_ones))]) hD hS hA [0, 2] rfl
        refine va_calli (va_runV (As := []) (rest := [.int s0_34_26, .int s0_21_5, .ref am]) ⟨hx, hb, hml, hown, hts⟩ (c_firstFreeM l dC dI H.size am am_there am_ones am_others am_xs am_ys am_a am_b am_from am_to am_way am_depth am_above am_pile am_next am_leader am_turned am_piece am_numbers am_row km_ones zm_thrown zm_many zm_ones p_44 hg_44) (cwV 0 hts (gi4 mw_4_12 mw_4_14 mw_p_34 mw_1_6 mw_4_15) rfl rfl rfl (by decide +kernel) ⟨Nat.le_of_ble_eq_true rfl, Nat.le_of_ble_eq_true rfl⟩) ⟨fb_, va_recv (q0 := 0) (ci := 5) hK hP rfl rfl, pre_ hPc hKc hDc hN⟩ rfl rfl hl.1 rfl (lv_room (Nat.le_of_ble_eq_true rfl)) d_Mod_line_44 ⟨Nat.le_of_ble_eq_true rfl, Nat.le_of_ble_eq_true rfl⟩) hS (fun q _ h => hFc q h) hFc (fun r_44 u t H locs ht hvm hp_44 hB hz1 hk1 hS => ?_)
        obtain ⟨hP1, -, hD1⟩ := hB
        rw [ht] at hP1
        obtain ⟨hP, hD⟩ := va_join (wr := [(am_there, .inl (km_there, 10, .inl zm_there)), (am_others, .inl (km_others, 24, .inl zm_others))]) (w1 := [(am, .inr (5, [.int zm_thrown, .ref am_there, .ref am_ones, .ref am_others, .ref am_xs, .ref am_ys, .int zm_many, .ref am_a, .ref am_b, .ref am_from, .ref am_to, .ref am_way, .ref am_depth, .ref am_above, .ref am_pile, .ref am_next, .ref am_leader, .ref am_turned, .ref am_piece, .ref am_numbers, .ref am_row])), (am_ones, .inl (km_ones, 24, .inl zm_ones))]) hP hD [0, 2] [1, 3] rfl rfl (by decide) (by decide) hk1 hFc hP1 hD1
        have hp_44 : (r_44) = p_44 := hp_44
        subst hp_44
        have hP : va_P (dC, dI) classes [(am_there, .inl (km_there, 10, .inl zm_there)), (am_others, .inl (km_others, 24, .inl zm_others)), (am, .inr (5, [.int zm_thrown, .ref am_there, .ref am_ones, .ref am_others, .ref am_xs, .ref am_ys, .int zm_many, .ref am_a, .ref am_b, .ref am_from, .ref am_to, .ref am_way, .ref am_depth, .ref am_above, .ref am_pile, .ref am_next, .ref am_leader, .ref am_turned, .ref am_piece, .ref am_numbers, .ref am_row])), (am_ones, .inl (km_ones, 24, .inl zm_ones))] H := hP
        have hD : va_D A [(am_there, .inl (km_there, 10, .inl zm_there)), (am_others, .inl (km_others, 24, .inl zm_others)), (am, .inr (5, [.int zm_thrown, .ref am_there, .ref am_ones, .ref am_others, .ref am_xs, .ref am_ys, .int zm_many, .ref am_a, .ref am_b, .ref am_from, .ref am_to, .ref am_way, .ref am_depth, .ref am_above, .ref am_pile, .ref am_next, .ref am_leader, .ref am_turned, .ref am_piece, .ref am_numbers, .ref am_row])), (am_ones, .inl (km_ones, 24, .inl zm_ones))] := hD
        refine lv_bipush (v := 24) hx hb d_Mod_line_47 (by decide) ?_
        refine lv_icmp_ne (tgt := 56) hx hb d_Mod_line_49 rfl (fun hc_49 => ?_) (fun hc_49 => ?_)
        · skip
          have hI := ob_elC (C := fun y_ => Option.bind y_ K_j57_40) hc_49 hI
          refine lv_iconst (v := 0) hx hb d_Mod_line_56 (by decide) ?_
          have hP := hP.sub (ws' := [(am, .inr (5, [.int zm_thrown, .ref am_there, .ref am_ones, .ref am_others, .ref am_xs, .ref am_ys, .int zm_many, .ref am_a, .ref am_b, .ref am_from, .ref am_to, .ref am_way, .ref am_depth, .ref am_above, .ref am_pile, .ref am_next, .ref am_leader, .ref am_turned, .ref am_piece, .ref am_numbers, .ref am_row])), (am_there, .inl (km_there, 10, .inl zm_there)), (am_ones, .inl (km_ones, 24, .inl zm_ones)), (am_others, .inl (km_others, 24, .inl zm_others))]) [2, 0, 3, 1] rfl
          have hD := hD.sub (ws' := [(am, .inr (5, [.int zm_thrown, .ref am_there, .ref am_ones, .ref am_others, .ref am_xs, .ref am_ys, .int zm_many, .ref am_a, .ref am_b, .ref am_from, .ref am_to, .ref am_way, .ref am_depth, .ref am_above, .ref am_pile, .ref am_next, .ref am_leader, .ref am_turned, .ref am_piece, .ref am_numbers, .ref am_row])), (am_there, .inl (km_there, 10, .inl zm_there)), (am_ones, .inl (km_ones, 24, .inl zm_ones)), (am_others, .inl (km_others, 24, .inl zm_others))]) [2, 0, 3, 1] (by decide) rfl
          have hl := lv_sub hl [0, 1, 2, 3] rfl
          exact J_57_40 _ _ _ _ hI hP hD hS hl
        · skip
          have hI := ob_ifC (C := fun y_ => Option.bind y_ K_j57_40) hc_49 hI
          refine lv_iconst (v := 1) hx hb d_Mod_line_52 (by decide) ?_
          refine lv_goto (tgt := 57) hx hb d_Mod_line_53 rfl ?_
          have hP := hP.sub (ws' := [(am, .inr (5, [.int zm_thrown, .ref am_there, .ref am_ones, .ref am_others, .ref am_xs, .ref am_ys, .int zm_many, .ref am_a, .ref am_b, .ref am_from, .ref am_to, .ref am_way, .ref am_depth, .ref am_above, .ref am_pile, .ref am_next, .ref am_leader, .ref am_turned, .ref am_piece, .ref am_numbers, .ref am_row])), (am_there, .inl (km_there, 10, .inl zm_there)), (am_ones, .inl (km_ones, 24, .inl zm_ones)), (am_others, .inl (km_others, 24, .inl zm_others))]) [2, 0, 3, 1] rfl
          have hD := hD.sub (ws' := [(am, .inr (5, [.int zm_thrown, .ref am_there, .ref am_ones, .ref am_others, .ref am_xs, .ref am_ys, .int zm_many, .ref am_a, .ref am_b, .ref am_from, .ref am_to, .ref am_way, .ref am_depth, .ref am_above, .ref am_pile, .ref am_next, .ref am_leader, .ref am_turned, .ref am_piece, .ref am_numbers, .ref am_row])), (am_there, .inl (km_there, 10, .inl zm_there)), (am_ones, .inl (km_ones, 24, .inl zm_ones)), (am_others, .inl (km_others, 24, .inl zm_others))]) [2, 0, 3, 1] (by decide) rfl
          have hl := lv_sub hl [0, 1, 2, 3] rfl
          exact J_57_40 _ _ _ _ hI hP hD hS hl
    have hI : some R = (K_j34_26 (if v1 = v2 then ((1 : Int32)) else ((0 : Int32)))) := by rw [hK_j34_26]; exact hI
    refine lv_icmp_ne (tgt := 33) hx hb d_Mod_line_26 rfl (fun hc_26 => ?_) (fun hc_26 => ?_)
    · skip
      have hI := ob_elC (C := fun y_ => K_j34_26 y_) hc_26 hI
      refine lv_iconst (v := 0) hx hb d_Mod_line_33 (by decide) ?_
      have hl := lv_sub hl [1, 2, 3, 0] rfl
      exact J_34_26 _ _ _ _ hI hP hD hS hl
    · skip
      have hI := ob_ifC (C := fun y_ => K_j34_26 y_) hc_26 hI
      refine lv_iconst (v := 1) hx hb d_Mod_line_29 (by decide) ?_
      refine lv_goto (tgt := 34) hx hb d_Mod_line_30 rfl ?_
      have hl := lv_sub hl [1, 2, 3, 0] rfl
      exact J_34_26 _ _ _ _ hI hP hD hS hl
  have hI : some R = (Option.bind (if r_2 = 0 then (some ((1 : Int32))) else ((F_isThereM zm_there v2).bind (fun p_10 => (if p_10 = 0 then (some ((1 : Int32))) else (some ((0 : Int32))))))) K_j21_5) := by rw [hK_j21_5]; exact hI
  refine lv_if_eq (tgt := 16) hx hb d_Mod_line_5 rfl (fun hc_5 => ?_) (fun hc_5 => ?_)
  · skip
    have hI := ob_ifC (C := fun y_ => Option.bind y_ K_j21_5) hc_5 hI
    refine lv_iconst (v := 1) hx hb d_Mod_line_16 (by decide) ?_
    refine lv_goto (tgt := 21) hx hb d_Mod_line_17 rfl ?_
    have hl := lv_sub hl [0, 1, 2] rfl
    exact J_21_5 _ _ _ _ hI hP hD hS hl
  · skip
    have hI := ob_elC (C := fun y_ => Option.bind y_ K_j21_5) hc_5 hI
    refine lv_aload_n hx hb d_Mod_line_8 rfl (lv_at hl 0 rfl) ?_
    refine lv_iload_n hx hb d_Mod_line_9 rfl (lv_at hl 2 rfl) ?_
    obtain ⟨p_10, hg_10, hI⟩ := ob_bdC (C := fun y_ => Option.bind y_ K_j21_5) rfl hI
    have hPc := hP.sub (ws' := [(am, .inr (5, [.int zm_thrown, .ref am_there, .ref am_ones, .ref am_others, .ref am_xs, .ref am_ys, .int zm_many, .ref am_a, .ref am_b, .ref am_from, .ref am_to, .ref am_way, .ref am_depth, .ref am_above, .ref am_pile, .ref am_next, .ref am_leader, .ref am_turned, .ref am_piece, .ref am_numbers, .ref am_row])), (am_there, .inl (km_there, 10, .inl zm_there))]) [0, 1] rfl
    have hDc := hD.sub (ws' := [(am, .inr (5, [.int zm_thrown, .ref am_there, .ref am_ones, .ref am_others, .ref am_xs, .ref am_ys, .int zm_many, .ref am_a, .ref am_b, .ref am_from, .ref am_to, .ref am_way, .ref am_depth, .ref am_above, .ref am_pile, .ref am_next, .ref am_leader, .ref am_turned, .ref am_piece, .ref am_numbers, .ref am_row])), (am_there, .inl (km_there, 10, .inl zm_there))]) [0, 1] (by decide) rfl
    have hKc := hK.sub (tys' := [(km_there, .boolean)]) [0] rfl
    have hFc := va_free (wc := [(am, .inr (5, [.int zm_thrown, .ref am_there, .ref am_ones, .ref am_others, .ref am_xs, .ref am_ys, .int zm_many, .ref am_a, .ref am_b, .ref am_from, .ref am_to, .ref am_way, .ref am_depth, .ref am_above, .ref am_pile, .ref am_next, .ref am_leader, .ref am_turned, .ref am_piece, .ref am_numbers, .ref am_row])), (am_there, .inl (km_there, 10, .inl zm_there))]) hD hS hA [0, 1] rfl
    refine va_calli (va_runV (As := [.int v2]) (rest := []) ⟨hx, hb, hml, hown, hts⟩ (c_isThereM l dC dI H.size am am_there am_ones am_others am_xs am_ys am_a am_b am_from am_to am_way am_depth am_above am_pile am_next am_leader am_turned am_piece am_numbers am_row km_there zm_thrown zm_many zm_there v2 p_10 hg_10) (cwV 1 hts (gi4 mw_3_232 mw_3_234 mw_p_30 mw_1_6 mw_3_235) rfl rfl rfl (by decide +kernel) ⟨Nat.le_of_ble_eq_true rfl, Nat.le_of_ble_eq_true rfl⟩) ⟨fb_, va_recv (q0 := 0) (ci := 5) hK hP rfl rfl, pre_ hPc hKc hDc hN⟩ rfl rfl hl.1 rfl (lv_room (Nat.le_of_ble_eq_true rfl)) d_Mod_line_10 ⟨Nat.le_of_ble_eq_true rfl, Nat.le_of_ble_eq_true rfl⟩) hS (fun q _ h => hFc q h) hFc (fun r_10 u t H locs ht hvm hp_10 hB hz1 hk1 hS => ?_)
    obtain ⟨hP1, -, hD1⟩ := hB
    rw [ht] at hP1
    obtain ⟨hP, hD⟩ := va_join (wr := [(am_ones, .inl (km_ones, 24, .inl zm_ones)), (am_others, .inl (km_others, 24, .inl zm_others))]) (w1 := [(am, .inr (5, [.int zm_thrown, .ref am_there, .ref am_ones, .ref am_others, .ref am_xs, .ref am_ys, .int zm_many, .ref am_a, .ref am_b, .ref am_from, .ref am_to, .ref am_way, .ref am_depth, .ref am_above, .ref am_pile, .ref am_next, .ref am_leader, .ref am_turned, .ref am_piece, .ref am_numbers, .ref am_row])), (am_there, .inl (km_there, 10, .inl zm_there))]) hP hD [0, 1] [2, 3] rfl rfl (by decide) (by decide) hk1 hFc hP1 hD1
    obtain ⟨hp_10, hz_10⟩ := hp_10
    have hp_10 : (r_10) = p_10 := hp_10
    subst hp_10
    have hP : va_P (dC, dI) classes [(am_ones, .inl (km_ones, 24, .inl zm_ones)), (am_others, .inl (km_others, 24, .inl zm_others)), (am, .inr (5, [.int zm_thrown, .ref am_there, .ref am_ones, .ref am_others, .ref am_xs, .ref am_ys, .int zm_many, .ref am_a, .ref am_b, .ref am_from, .ref am_to, .ref am_way, .ref am_depth, .ref am_above, .ref am_pile, .ref am_next, .ref am_leader, .ref am_turned, .ref am_piece, .ref am_numbers, .ref am_row])), (am_there, .inl (km_there, 10, .inl zm_there))] H := hP
    have hD : va_D A [(am_ones, .inl (km_ones, 24, .inl zm_ones)), (am_others, .inl (km_others, 24, .inl zm_others)), (am, .inr (5, [.int zm_thrown, .ref am_there, .ref am_ones, .ref am_others, .ref am_xs, .ref am_ys, .int zm_many, .ref am_a, .ref am_b, .ref am_from, .ref am_to, .ref am_way, .ref am_depth, .ref am_above, .ref am_pile, .ref am_next, .ref am_leader, .ref am_turned, .ref am_piece, .ref am_numbers, .ref am_row])), (am_there, .inl (km_there, 10, .inl zm_there))] := hD
    refine lv_if_ne (tgt := 20) hx hb d_Mod_line_13 rfl (fun hc_13 => ?_) (fun hc_13 => ?_)
    · skip
      have hI := ob_elC (C := fun y_ => Option.bind y_ K_j21_5) hc_13 hI
      refine lv_iconst (v := 0) hx hb d_Mod_line_20 (by decide) ?_
      have hP := hP.sub (ws' := [(am, .inr (5, [.int zm_thrown, .ref am_there, .ref am_ones, .ref am_others, .ref am_xs, .ref am_ys, .int zm_many, .ref am_a, .ref am_b, .ref am_from, .ref am_to, .ref am_way, .ref am_depth, .ref am_above, .ref am_pile, .ref am_next, .ref am_leader, .ref am_turned, .ref am_piece, .ref am_numbers, .ref am_row])), (am_there, .inl (km_there, 10, .inl zm_there)), (am_ones, .inl (km_ones, 24, .inl zm_ones)), (am_others, .inl (km_others, 24, .inl zm_others))]) [2, 3, 0, 1] rfl
      have hD := hD.sub (ws' := [(am, .inr (5, [.int zm_thrown, .ref am_there, .ref am_ones, .ref am_others, .ref am_xs, .ref am_ys, .int zm_many, .ref am_a, .ref am_b, .ref am_from, .ref am_to, .ref am_way, .ref am_depth, .ref am_above, .ref am_pile, .ref am_next, .ref am_leader, .ref am_turned, .ref am_piece, .ref am_numbers, .ref am_row])), (am_there, .inl (km_there, 10, .inl zm_there)), (am_ones, .inl (km_ones, 24, .inl zm_ones)), (am_others, .inl (km_others, 24, .inl zm_others))]) [2, 3, 0, 1] (by decide) rfl
      have hl := lv_sub hl [0, 1, 2] rfl
      exact J_21_5 _ _ _ _ hI hP hD hS hl
    · skip
      have hI := ob_ifC (C := fun y_ => Option.bind y_ K_j21_5) hc_13 hI
      refine lv_iconst (v := 1) hx hb d_Mod_line_16 (by decide) ?_
      refine lv_goto (tgt := 21) hx hb d_Mod_line_17 rfl ?_
      have hP := hP.sub (ws' := [(am, .inr (5, [.int zm_thrown, .ref am_there, .ref am_ones, .ref am_others, .ref am_xs, .ref am_ys, .int zm_many, .ref am_a, .ref am_b, .ref am_from, .ref am_to, .ref am_way, .ref am_depth, .ref am_above, .ref am_pile, .ref am_next, .ref am_leader, .ref am_turned, .ref am_piece, .ref am_numbers, .ref am_row])), (am_there, .inl (km_there, 10, .inl zm_there)), (am_ones, .inl (km_ones, 24, .inl zm_ones)), (am_others, .inl (km_others, 24, .inl zm_others))]) [2, 3, 0, 1] rfl
      have hD := hD.sub (ws' := [(am, .inr (5, [.int zm_thrown, .ref am_there, .ref am_ones, .ref am_others, .ref am_xs, .ref am_ys, .int zm_many, .ref am_a, .ref am_b, .ref am_from, .ref am_to, .ref am_way, .ref am_depth, .ref am_above, .ref am_pile, .ref am_next, .ref am_leader, .ref am_turned, .ref am_piece, .ref am_numbers, .ref am_row])), (am_there, .inl (km_there, 10, .inl zm_there)), (am_ones, .inl (km_ones, 24, .inl zm_ones)), (am_others, .inl (km_others, 24, .inl zm_others))]) [2, 3, 0, 1] (by decide) rfl
      have hl := lv_sub hl [0, 1, 2] rfl
      exact J_21_5 _ _ _ _ hI hP hD hS hl
set_option maxHeartbeats 4000000 in
set_option maxRecDepth 100000 in
theorem c_cutM (l : Launch) (dC : Nat → ClassId) (dI : Nat → Nat → Nat) (sz : Nat) (am am_there am_ones am_others am_xs am_ys am_a am_b am_from am_to am_way am_depth am_above am_pile am_next am_leader am_turned am_piece am_numbers am_row : Nat) (km_ones : ClassId) (zm_thrown : Int32) (zm_many : Int32) (zm_ones : Nat → Int32) (v1 : Int32) (R : Int32 × Int32 × (Nat → Int32)) (hR : F_cutM zm_ones v1 = some R) : Met l y_Mod_cut w_Mod_cut ({ frames := 1, cells := 0, slots := 0, locals := 23 }) (Pre_ dC dI sz [.ref am, .int v1] [(am, .inr (5, [.int zm_thrown, .ref am_there, .ref am_ones, .ref am_others, .ref am_xs, .ref am_ys, .int zm_many, .ref am_a, .ref am_b, .ref am_from, .ref am_to, .ref am_way, .ref am_depth, .ref am_above, .ref am_pile, .ref am_next, .ref am_leader, .ref am_turned, .ref am_piece, .ref am_numbers, .ref am_row])), (am_ones, .inl (km_ones, 24, .inl zm_ones))] [(km_ones, .int)]) (va_Qi (fun (r : Int32) (u : Int32 × (Nat → Int32)) => (r, u) = R) (fun u t => End_ dC dI (va_A [(am, .inr (5, [.int zm_thrown, .ref am_there, .ref am_ones, .ref am_others, .ref am_xs, .ref am_ys, .int zm_many, .ref am_a, .ref am_b, .ref am_from, .ref am_to, .ref am_way, .ref am_depth, .ref am_above, .ref am_pile, .ref am_next, .ref am_leader, .ref am_turned, .ref am_piece, .ref am_numbers, .ref am_row])), (am_ones, .inl (km_ones, 24, .inl zm_ones))] sz) [(km_ones, .int)] [(am, .inr (5, [.int u.1, .ref am_there, .ref am_ones, .ref am_others, .ref am_xs, .ref am_ys, .int zm_many, .ref am_a, .ref am_b, .ref am_from, .ref am_to, .ref am_way, .ref am_depth, .ref am_above, .ref am_pile, .ref am_next, .ref am_leader, .ref am_turned, .ref am_piece, .ref am_numbers, .ref am_row])), (am_ones, .inl (km_ones, 24, .inl u.2))] t) (va_A [(am, .inr (5, [.int zm_thrown, .ref am_there, .ref am_ones, .ref am_others, .ref am_xs, .ref am_ys, .int zm_many, .ref am_a, .ref am_b, .ref am_from, .ref am_to, .ref am_way, .ref am_depth, .ref am_above, .ref am_pile, .ref am_next, .ref am_leader, .ref am_turned, .ref am_piece, .ref am_numbers, .ref am_row])), (am_ones, .inl (km_ones, 24, .inl zm_ones))] sz)) 0 0 (va_A [(am, .inr (5, [.int zm_thrown, .ref am_there, .ref am_ones, .ref am_others, .ref am_xs, .ref am_ys, .int zm_many, .ref am_a, .ref am_b, .ref am_from, .ref am_to, .ref am_way, .ref am_depth, .ref am_above, .ref am_pile, .ref am_next, .ref am_leader, .ref am_turned, .ref am_piece, .ref am_numbers, .ref am_row])), (am_ones, .inl (km_ones, 24, .inl zm_ones))] sz) := by
  refine Met.ofW (cc := b_Mod_cut) (maxL := 2) (ret := (some .int)) (by decide) rfl ?_
  intro p e s m args below meth c s₁ B hml hv
  obtain ⟨hargs, hsz, hP, hK, hD0, hN⟩ := hv
  have hx := B.exec
  have hb := B.bytes
  have hr := B.returns
  have hts := atoms_spec (ws := w_Mod_cut) B.pre
  have hown : s.vm.findClass R_Mod = some m.cls := findClass_of_methodNamed B.named
  have hlocks := B.notSynchronized
  subst hsz
  have hD := hD0.self (sz := s.heap.size)
  generalize hAe : va_A [(am, .inr (5, [.int zm_thrown, .ref am_there, .ref am_ones, .ref am_others, .ref am_xs, .ref am_ys, .int zm_many, .ref am_a, .ref am_b, .ref am_from, .ref am_to, .ref am_way, .ref am_depth, .ref am_above, .ref am_pile, .ref am_next, .ref am_leader, .ref am_turned, .ref am_piece, .ref am_numbers, .ref am_row])), (am_ones, .inl (km_ones, 24, .inl zm_ones))] s.heap.size = A at hD ⊢
  have hA : ∀ q : Nat, s.heap.size ≤ q → A q := fun q h => by rw [← hAe]; exact Or.inr h
  have hS : va_S A s.heap s.heap [] := va_S.rf
  have hl := lv_entry ([.ref am, .int v1]) (n := 2) (Nat.le_of_ble_eq_true rfl)
  refine W.eq (congrArg (fun a => entryFrame m a 2) hargs) ?_
  rw [lg_entry_eq]
  generalize (lg_sl ([.ref am, .int v1]) ++ List.replicate (2 - (lg_sl ([.ref am, .int v1])).length) Slot.unset).toArray = ls at hl ⊢
  have hl : lv_has ls 2 [(0, .ref am), (1, .int v1)] := hl
  generalize hH0 : ([] : List Loc) = locs at hS ⊢
  have hI := hR.symm
  rw [F_cutM] at hI
  refine lv_aload_n hx hb d_Mod_cut_0 rfl (lv_at hl 0 rfl) ?_
  refine lv_aload_n hx hb d_Mod_cut_1 rfl (lv_at hl 0 rfl) ?_
  refine lv_iload_n hx hb d_Mod_cut_2 rfl (lv_at hl 1 rfl) ?_
  obtain ⟨p_3, hg_3, hI⟩ := ob_bd hI
  have hPc := hP.sub (ws' := [(am, .inr (5, [.int zm_thrown, .ref am_there, .ref am_ones, .ref am_others, .ref am_xs, .ref am_ys, .int zm_many, .ref am_a, .ref am_b, .ref am_from, .ref am_to, .ref am_way, .ref am_depth, .ref am_above, .ref am_pile, .ref am_next, .ref am_leader, .ref am_turned, .ref am_piece, .ref am_numbers, .ref am_row])), (am_ones, .inl (km_ones, 24, .inl zm_ones))]) [0, 1] rfl
  have hDc := hD.sub (ws' := [(am, .inr (5, [.int zm_thrown, .ref am_there, .ref am_ones, .ref am_others, .ref am_xs, .ref am_ys, .int zm_many, .ref am_a, .ref am_b, .ref am_from, .ref am_to, .ref am_way, .ref am_depth, .ref am_above, .ref am_pile, .ref am_next, .ref am_leader, .ref am_turned, .ref am_piece, .ref am_numbers, .ref am_row])), (am_ones, .inl (km_ones, 24, .inl zm_ones))]) [0, 1] (by decide) rfl
  have hKc := hK.sub (tys' := [(km_ones, .int)]) [0] rfl
  have hFc := va_free (wc := [(am, .inr (5, [.int zm_thrown, .ref am_there, .ref am_ones, .ref am_others, .ref am_xs, .ref am_ys, .int zm_many, .ref am_a, .ref am_b, .ref am_from, .ref am_to, .ref am_way, .ref am_depth, .ref am_above, .ref am_pile, .ref am_next, .ref am_leader, .ref am_turned, .ref am_piece, .ref am_numbers, .ref am_row])), (am_ones, .inl (km_ones, 24, .inl zm_ones))]) hD hS hA [0, 1] rfl
  refine va_calli (va_runV (As := [.int v1]) (rest := [.ref am]) ⟨hx, hb, hml, hown, hts⟩ (c_isLineM l dC dI s.heap.size am am_there am_ones am_others am_xs am_ys am_a am_b am_from am_to am_way am_depth am_above am_pile am_next am_leader am_turned am_piece am_numbers am_row km_ones zm_thrown zm_many zm_ones v1 p_3 hg_3) (cwV 1 hts (gi4 mw_4_20 mw_4_22 mw_p_35 mw_1_6 mw_4_23) rfl rfl rfl (by decide +kernel) ⟨Nat.le_of_ble_eq_true rfl, Nat.le_of_ble_eq_true rfl⟩) ⟨fb_, va_recv (q0 := 0) (ci := 5) hK hP rfl rfl, pre_ hPc hKc hDc hN⟩ rfl rfl hl.1 rfl (lv_room (Nat.le_of_ble_eq_true rfl)) d_Mod_cut_3 ⟨Nat.le_of_ble_eq_true rfl, Nat.le_of_ble_eq_true rfl⟩) hS (fun q _ h => hFc q h) hFc (fun r_3 u t H locs ht hvm hp_3 hB hz1 hk1 hS => ?_)
  obtain ⟨hP1, -, hD1⟩ := hB
  rw [ht] at hP1
  obtain ⟨hP, hD⟩ := va_join (wr := []) (w1 := [(am, .inr (5, [.int zm_thrown, .ref am_there, .ref am_ones, .ref am_others, .ref am_xs, .ref am_ys, .int zm_many, .ref am_a, .ref am_b, .ref am_from, .ref am_to, .ref am_way, .ref am_depth, .ref am_above, .ref am_pile, .ref am_next, .ref am_leader, .ref am_turned, .ref am_piece, .ref am_numbers, .ref am_row])), (am_ones, .inl (km_ones, 24, .inl zm_ones))]) hP hD [0, 1] [] rfl rfl (by decide) (by decide) hk1 hFc hP1 hD1
  obtain ⟨hp_3, hz_3⟩ := hp_3
  have hp_3 : (r_3) = p_3 := hp_3
  subst hp_3
  have hP : va_P (dC, dI) classes [(am, .inr (5, [.int zm_thrown, .ref am_there, .ref am_ones, .ref am_others, .ref am_xs, .ref am_ys, .int zm_many, .ref am_a, .ref am_b, .ref am_from, .ref am_to, .ref am_way, .ref am_depth, .ref am_above, .ref am_pile, .ref am_next, .ref am_leader, .ref am_turned, .ref am_piece, .ref am_numbers, .ref am_row])), (am_ones, .inl (km_ones, 24, .inl zm_ones))] H := hP
  have hD : va_D A [(am, .inr (5, [.int zm_thrown, .ref am_there, .ref am_ones, .ref am_others, .ref am_xs, .ref am_ys, .int zm_many, .ref am_a, .ref am_b, .ref am_from, .ref am_to, .ref am_way, .ref am_depth, .ref am_above, .ref am_pile, .ref am_next, .ref am_leader, .ref am_turned, .ref am_piece, .ref am_numbers, .ref am_row])), (am_ones, .inl (km_ones, 24, .inl zm_ones))] := hD
  obtain ⟨K_j14_6, hK_j14_6⟩ : ∃ K : Int32 → Option (Int32 × Int32 × (Nat → Int32)), K = (fun (j_14_6 : Int32) => ((F_refusedM j_14_6 ((0 : Int32)) ((0 : Int32))).bind (fun p_16 => (if p_16.1 = 0 then (if inb v1 24 = true then ((F_countLinesM (upd zm_ones (Int32.toNatClampNeg v1) ((-1)))).bind (fun p_32 => some (p_32, p_16.2, upd zm_ones (Int32.toNatClampNeg v1) ((-1))))) else none) else some ((0 : Int32), p_16.2, zm_ones))))) := ⟨_, rfl⟩
  have J_14_6 : ∀ (s0_14_6 : Int32) (H : Heap) (locs : List Loc) (ls : Array Slot), some R = (K_j14_6 s0_14_6) → va_P (dC, dI) classes [(am, .inr (5, [.int zm_thrown, .ref am_there, .ref am_ones, .ref am_others, .ref am_xs, .ref am_ys, .int zm_many, .ref am_a, .ref am_b, .ref am_from, .ref am_to, .ref am_way, .ref am_depth, .ref am_above, .ref am_pile, .ref am_next, .ref am_leader, .ref am_turned, .ref am_piece, .ref am_numbers, .ref am_row])), (am_ones, .inl (km_ones, 24, .inl zm_ones))] H → va_D A [(am, .inr (5, [.int zm_thrown, .ref am_there, .ref am_ones, .ref am_others, .ref am_xs, .ref am_ys, .int zm_many, .ref am_a, .ref am_b, .ref am_from, .ref am_to, .ref am_way, .ref am_depth, .ref am_above, .ref am_pile, .ref am_next, .ref am_leader, .ref am_turned, .ref am_piece, .ref am_numbers, .ref am_row])), (am_ones, .inl (km_ones, 24, .inl zm_ones))] → va_S A s.heap H locs → lv_has ls 2 [(0, .ref am), (1, .int v1)] → W p l e (headSpec w_Mod_cut ({ frames := 1, cells := 0, slots := 0, locals := 23 })).room s m args below meth c H locs 0 0 (MQ below (va_Qi (fun (r : Int32) (u : Int32 × (Nat → Int32)) => (r, u) = R) (fun u t => End_ dC dI A [(km_ones, .int)] [(am, .inr (5, [.int u.1, .ref am_there, .ref am_ones, .ref am_others, .ref am_xs, .ref am_ys, .int zm_many, .ref am_a, .ref am_b, .ref am_from, .ref am_to, .ref am_way, .ref am_depth, .ref am_above, .ref am_pile, .ref am_next, .ref am_leader, .ref am_turned, .ref am_piece, .ref am_numbers, .ref am_row])), (am_ones, .inl (km_ones, 24, .inl u.2))] t) A) args s 0 0 A) (F0 m 14 ls [.int s0_14_6, .ref am]) := by
    intro s0_14_6 H locs ls hI hP hD hS hl
    rw [hK_j14_6] at hI
    refine lv_iconst (v := 0) hx hb d_Mod_cut_14 (by decide) ?_
    refine lv_iconst (v := 0) hx hb d_Mod_cut_15 (by decide) ?_
    obtain ⟨p_16, hg_16, hI⟩ := ob_bd hI
    have hPc := hP.sub (ws' := [(am, .inr (5, [.int zm_thrown, .ref am_there, .ref am_ones, .ref am_others, .ref am_xs, .ref am_ys, .int zm_many, .ref am_a, .ref am_b, .ref am_from, .ref am_to, .ref am_way, .ref am_depth, .ref am_above, .ref am_pile, .ref am_next, .ref am_leader, .ref am_turned, .ref am_piece, .ref am_numbers, .ref am_row]))]) [0] rfl
    have hDc := hD.sub (ws' := [(am, .inr (5, [.int zm_thrown, .ref am_there, .ref am_ones, .ref am_others, .ref am_xs, .ref am_ys, .int zm_many, .ref am_a, .ref am_b, .ref am_from, .ref am_to, .ref am_way, .ref am_depth, .ref am_above, .ref am_pile, .ref am_next, .ref am_leader, .ref am_turned, .ref am_piece, .ref am_numbers, .ref am_row]))]) [0] (by decide) rfl
    have hKc := hK.sub (tys' := []) [] rfl
    have hFc := va_free (wc := [(am, .inr (5, [.int zm_thrown, .ref am_there, .ref am_ones, .ref am_others, .ref am_xs, .ref am_ys, .int zm_many, .ref am_a, .ref am_b, .ref am_from, .ref am_to, .ref am_way, .ref am_depth, .ref am_above, .ref am_pile, .ref am_next, .ref am_leader, .ref am_turned, .ref am_piece, .ref am_numbers, .ref am_row]))]) hD hS hA [0] rfl
    refine va_calli (va_runV (As := [.int s0_14_6, .int 0, .int 0]) (rest := []) ⟨hx, hb, hml, hown, hts⟩ (c_refusedM l dC dI H.size am am_there am_ones am_others am_xs am_ys am_a am_b am_from am_to am_way am_depth am_above am_pile am_next am_leader am_turned am_piece am_numbers am_row zm_thrown zm_many s0_14_6 0 0 p_16 hg_16) (cwV 3 hts (gi4 mw_3_236 mw_3_238 mw_p_31 mw_1_6 mw_3_239) rfl rfl rfl (by decide +kernel) ⟨Nat.le_of_ble_eq_true rfl, Nat.le_of_ble_eq_true rfl⟩) ⟨fb_, va_recv (q0 := 0) (ci := 5) hK hP rfl rfl, pre_ hPc hKc hDc hN⟩ rfl rfl hl.1 rfl (lv_room (Nat.le_of_ble_eq_true rfl)) d_Mod_cut_16 ⟨Nat.le_of_ble_eq_true rfl, Nat.le_of_ble_eq_true rfl⟩) hS (fun q _ h => hFc q h) hFc (fun r_16 wm_thrown_16 t H locs ht hvm hp_16 hB hz1 hk1 hS => ?_)
    obtain ⟨hP1, -, hD1⟩ := hB
    rw [ht] at hP1
    obtain ⟨hP, hD⟩ := va_join (wr := [(am_ones, .inl (km_ones, 24, .inl zm_ones))]) (w1 := [(am, .inr (5, [.int wm_thrown_16, .ref am_there, .ref am_ones, .ref am_others, .ref am_xs, .ref am_ys, .int zm_many, .ref am_a, .ref am_b, .ref am_from, .ref am_to, .ref am_way, .ref am_depth, .ref am_above, .ref am_pile, .ref am_next, .ref am_leader, .ref am_turned, .ref am_piece, .ref am_numbers, .ref am_row]))]) hP hD [0] [1] rfl rfl (by decide) (by decide) hk1 hFc hP1 hD1
    obtain ⟨hp_16, hz_16⟩ := hp_16
    have hp_16 : (r_16, wm_thrown_16) = p_16 := hp_16
    subst hp_16
    have hP : va_P (dC, dI) classes [(am_ones, .inl (km_ones, 24, .inl zm_ones)), (am, .inr (5, [.int wm_thrown_16, .ref am_there, .ref am_ones, .ref am_others, .ref am_xs, .ref am_ys, .int zm_many, .ref am_a, .ref am_b, .ref am_from, .ref am_to, .ref am_way, .ref am_depth, .ref am_above, .ref am_pile, .ref am_next, .ref am_leader, .ref am_turned, .ref am_piece, .ref am_numbers, .ref am_row]))] H := hP
    have hD : va_D A [(am_ones, .inl (km_ones, 24, .inl zm_ones)), (am, .inr (5, [.int wm_thrown_16, .ref am_there, .ref am_ones, .ref am_others, .ref am_xs, .ref am_ys, .int zm_many, .ref am_a, .ref am_b, .ref am_from, .ref am_to, .ref am_way, .ref am_depth, .ref am_above, .ref am_pile, .ref am_next, .ref am_leader, .ref am_turned, .ref am_piece, .ref am_numbers, .ref am_row]))] := hD
    refine lv_if_eq (tgt := 24) hx hb d_Mod_cut_19 rfl (fun hc_19 => ?_) (fun hc_19 => ?_)
    · skip
      have hI := hI.trans (if_pos hc_19)
      refine lv_aload_n hx hb d_Mod_cut_24 rfl (lv_at hl 0 rfl) ?_
      refine va_get (D := (dC, dI)) (ci := 5) (v := .ref am_ones) (C := R_Mod) (T := F_Mod) (N := 21) hx hb hts (fun w h => List.mem_cons_of_mem _ (in_Mod w h)) hown hK hP 1 rfl rfl 2 (by decide) (hts _ (List.mem_cons_of_mem _ mw_3_158)) (fun _ h9 => h9) rfl d_Mod_cut_25 ?_
      refine lv_iload_n hx hb d_Mod_cut_28 rfl (lv_at hl 1 rfl) ?_
      refine lv_iconst (v := -1) hx hb d_Mod_cut_29 (by decide) ?_
      have hi_30 := ob_in hI
      have hI := ob_th hI
      refine va_iast (D := (dC, dI)) hx hb hK hP hD hS 0 0 rfl rfl hi_30 d_Mod_cut_30 (fun H locs hP hD hS => ?_)
      have hP : va_P (dC, dI) classes [(am_ones, .inl (km_ones, 24, .inl (upd zm_ones (Int32.toNatClampNeg v1) ((-1))))), (am, .inr (5, [.int wm_thrown_16, .ref am_there, .ref am_ones, .ref am_others, .ref am_xs, .ref am_ys, .int zm_many, .ref am_a, .ref am_b, .ref am_from, .ref am_to, .ref am_way, .ref am_depth, .ref am_above, .ref am_pile, .ref am_next, .ref am_leader, .ref am_turned, .ref am_piece, .ref am_numbers, .ref am_row]))] H := hP
      have hD : va_D A [(am_ones, .inl (km_ones, 24, .inl (upd zm_ones (Int32.toNatClampNeg v1) ((-1))))), (am, .inr (5, [.int wm_thrown_16, .ref am_there, .ref am_ones, .ref am_others, .ref am_xs, .ref am_ys, .int zm_many, .ref am_a, .ref am_b, .ref am_from, .ref am_to, .ref am_way, .ref am_depth, .ref am_above, .ref am_pile, .ref am_next, .ref am_leader, .ref am_turned, .ref am_piece, .ref am_numbers, .ref am_row]))] := hD
      refine lv_aload_n hx hb d_Mod_cut_31 rfl (lv_at hl 0 rfl) ?_
      obtain ⟨p_32, hg_32, hI⟩ := ob_bd hI
      have hPc := hP.sub (ws' := [(am, .inr (5, [.int wm_thrown_16, .ref am_there, .ref am_ones, .ref am_others, .ref am_xs, .ref am_ys, .int zm_many, .ref am_a, .ref am_b, .ref am_from, .ref am_to, .ref am_way, .ref am_depth, .ref am_above, .ref am_pile, .ref am_next, .ref am_leader, .ref am_turned, .ref am_piece, .ref am_numbers, .ref am_row])), (am_ones, .inl (km_ones, 24, .inl (upd zm_ones (Int32.toNatClampNeg v1) ((-1)))))]) [1, 0] rfl
      have hDc := hD.sub (ws' := [(am, .inr (5, [.int wm_thrown_16, .ref am_there, .ref am_ones, .ref am_others, .ref am_xs, .ref am_ys, .int zm_many, .ref am_a, .ref am_b, .ref am_from, .ref am_to, .ref am_way, .ref am_depth, .ref am_above, .ref am_pile, .ref am_next, .ref am_leader, .ref am_turned, .ref am_piece, .ref am_numbers, .ref am_row])), (am_ones, .inl (km_ones, 24, .inl (upd zm_ones (Int32.toNatClampNeg v1) ((-1)))))]) [1, 0] (by decide) rfl
      have hKc := hK.sub (tys' := [(km_ones, .int)]) [0] rfl
      have hFc := va_free (wc := [(am, .inr (5, [.int wm_thrown_16, .ref am_there, .ref am_ones, .ref am_others, .ref am_xs, .ref am_ys, .int zm_many, .ref am_a, .ref am_b, .ref am_from, .ref am_to, .ref am_way, .ref am_depth, .ref am_above, .ref am_pile, .ref am_next, .ref am_leader, .ref am_turned, .ref am_piece, .ref am_numbers, .ref am_row])), (am_ones, .inl (km_ones, 24, .inl (upd zm_ones (Int32.toNatClampNeg v1) ((-1)))))]) hD hS hA [1, 0] rfl
      refine va_calli (va_runV (As := []) (rest := []) ⟨hx, hb, hml, hown, hts⟩ (c_countLinesM l dC dI H.size am am_there am_ones am_others am_xs am_ys am_a am_b am_from am_to am_way am_depth am_above am_pile am_next am_leader am_turned am_piece am_numbers am_row km_ones wm_thrown_16 zm_many (upd zm_ones (Int32.toNatClampNeg v1) ((-1))) p_32 hg_32) (cwV 0 hts (gi4 mw_4_24 mw_4_26 mw_p_36 mw_1_6 mw_4_27) rfl rfl rfl (by decide +kernel) ⟨Nat.le_of_ble_eq_true rfl, Nat.le_of_ble_eq_true rfl⟩) ⟨fb_, va_recv (q0 := 1) (ci := 5) hK hP rfl rfl, pre_ hPc hKc hDc hN⟩ rfl rfl hl.1 rfl (lv_room (Nat.le_of_ble_eq_true rfl)) d_Mod_cut_32 ⟨Nat.le_of_ble_eq_true rfl, Nat.le_of_ble_eq_true rfl⟩) hS (fun q _ h => hFc q h) hFc (fun r_32 u t H locs ht hvm hp_32 hB hz1 hk1 hS => ?_)
      obtain ⟨hP1, -, hD1⟩ := hB
      rw [ht] at hP1
      obtain ⟨hP, hD⟩ := va_join (wr := []) (w1 := [(am, .inr (5, [.int wm_thrown_16, .ref am_there, .ref am_ones, .ref am_others, .ref am_xs, .ref am_ys, .int zm_many, .ref am_a, .ref am_b, .ref am_from, .ref am_to, .ref am_way, .ref am_depth, .ref am_above, .ref am_pile, .ref am_next, .ref am_leader, .ref am_turned, .ref am_piece, .ref am_numbers, .ref am_row])), (am_ones, .inl (km_ones, 24, .inl (upd zm_ones (Int32.toNatClampNeg v1) ((-1)))))]) hP hD [1, 0] [] rfl rfl (by decide) (by decide) hk1 hFc hP1 hD1
      have hp_32 : (r_32) = p_32 := hp_32
      subst hp_32
      have hP : va_P (dC, dI) classes [(am, .inr (5, [.int wm_thrown_16, .ref am_there, .ref am_ones, .ref am_others, .ref am_xs, .ref am_ys, .int zm_many, .ref am_a, .ref am_b, .ref am_from, .ref am_to, .ref am_way, .ref am_depth, .ref am_above, .ref am_pile, .ref am_next, .ref am_leader, .ref am_turned, .ref am_piece, .ref am_numbers, .ref am_row])), (am_ones, .inl (km_ones, 24, .inl (upd zm_ones (Int32.toNatClampNeg v1) ((-1)))))] H := hP
      have hD : va_D A [(am, .inr (5, [.int wm_thrown_16, .ref am_there, .ref am_ones, .ref am_others, .ref am_xs, .ref am_ys, .int zm_many, .ref am_a, .ref am_b, .ref am_from, .ref am_to, .ref am_way, .ref am_depth, .ref am_above, .ref am_pile, .ref am_next, .ref am_leader, .ref am_turned, .ref am_piece, .ref am_numbers, .ref am_row])), (am_ones, .inl (km_ones, 24, .inl (upd zm_ones (Int32.toNatClampNeg v1) ((-1)))))] := hD
      exact W.iret (v := r_32) hx hb hr (fun t ht hW => ⟨⟨r_32, (wm_thrown_16, upd zm_ones (Int32.toNatClampNeg v1) ((-1))), rfl, (Option.some.inj hI).symm, by rw [ht]; exact hP, va_K.moved hW.alike hK, hD⟩, hS.F ht⟩) hS.2.2 d_Mod_cut_35
    · skip
      have hI := hI.trans (if_neg hc_19)
      refine lv_iconst (v := 0) hx hb d_Mod_cut_22 (by decide) ?_
      have hP := hP.sub (ws' := [(am, .inr (5, [.int wm_thrown_16, .ref am_there, .ref am_ones, .ref am_others, .ref am_xs, .ref am_ys, .int zm_many, .ref am_a, .ref am_b, .ref am_from, .ref am_to, .ref am_way, .ref am_depth, .ref am_above, .ref am_pile, .ref am_next, .ref am_leader, .ref am_turned, .ref am_piece, .ref am_numbers, .ref am_row])), (am_ones, .inl (km_ones, 24, .inl zm_ones))]) [1, 0] rfl
      have hD := hD.sub (ws' := [(am, .inr (5, [.int wm_thrown_16, .ref am_there, .ref am_ones, .ref am_others, .ref am_xs, .ref am_ys, .int zm_many, .ref am_a, .ref am_b, .ref am_from, .ref am_to, .ref am_way, .ref am_depth, .ref am_above, .ref am_pile, .ref am_next, .ref am_leader, .ref am_turned, .ref am_piece, .ref am_numbers, .ref am_row])), (am_ones, .inl (km_ones, 24, .inl zm_ones))]) [1, 0] (by decide) rfl
      exact W.iret (v := 0) hx hb hr (fun t ht hW => ⟨⟨0, (wm_thrown_16, zm_ones), rfl, (Option.some.inj hI).symm, by rw [ht]; exact hP, va_K.moved hW.alike hK, hD⟩, hS.F ht⟩) hS.2.2 d_Mod_cut_23
  have hI : some R = (K_j14_6 (if r_3 = 0 then ((1 : Int32)) else ((0 : Int32)))) := by rw [hK_j14_6]; exact hI
  refine lv_if_ne (tgt := 13) hx hb d_Mod_cut_6 rfl (fun hc_6 => ?_) (fun hc_6 => ?_)
  · skip
    have hI := ob_elC (C := fun y_ => K_j14_6 y_) hc_6 hI
    refine lv_iconst (v := 0) hx hb d_Mod_cut_13 (by decide) ?_
    have hl := lv_sub hl [0, 1] rfl
    exact J_14_6 _ _ _ _ hI hP hD hS hl
  · skip
    have hI := ob_ifC (C := fun y_ => K_j14_6 y_) hc_6 hI
    refine lv_iconst (v := 1) hx hb d_Mod_cut_9 (by decide) ?_
    refine lv_goto (tgt := 14) hx hb d_Mod_cut_10 rfl ?_
    have hl := lv_sub hl [0, 1] rfl
    exact J_14_6 _ _ _ _ hI hP hD hS hl
set_option maxHeartbeats 4000000 in
set_option maxRecDepth 100000 in
theorem c_dropM (l : Launch) (dC : Nat → ClassId) (dI : Nat → Nat → Nat) (sz : Nat) (am am_there am_ones am_others am_xs am_ys am_a am_b am_from am_to am_way am_depth am_above am_pile am_next am_leader am_turned am_piece am_numbers am_row : Nat) (km_there km_ones km_others : ClassId) (zm_thrown : Int32) (zm_many : Int32) (zm_there : Nat → Int32) (zm_ones : Nat → Int32) (zm_others : Nat → Int32) (v1 : Int32) (R : Int32 × Int32 × (Nat → Int32) × (Nat → Int32)) (hR : F_dropM zm_there zm_ones zm_others v1 = some R) : Met l y_Mod_drop w_Mod_drop ({ frames := 2, cells := 0, slots := 0, locals := 41 }) (Pre_ dC dI sz [.ref am, .int v1] [(am, .inr (5, [.int zm_thrown, .ref am_there, .ref am_ones, .ref am_others, .ref am_xs, .ref am_ys, .int zm_many, .ref am_a, .ref am_b, .ref am_from, .ref am_to, .ref am_way, .ref am_depth, .ref am_above, .ref am_pile, .ref am_next, .ref am_leader, .ref am_turned, .ref am_piece, .ref am_numbers, .ref am_row])), (am_there, .inl (km_there, 10, .inl zm_there)), (am_ones, .inl (km_ones, 24, .inl zm_ones)), (am_others, .inl (km_others, 24, .inl zm_others))] [(km_there, .boolean), (km_ones, .int), (km_others, .int)]) (va_Qi (fun (r : Int32) (u : Int32 × (Nat → Int32) × (Nat → Int32)) => (r, u) = R) (fun u t => End_ dC dI (va_A [(am, .inr (5, [.int zm_thrown, .ref am_there, .ref am_ones, .ref am_others, .ref am_xs, .ref am_ys, .int zm_many, .ref am_a, .ref am_b, .ref am_from, .ref am_to, .ref am_way, .ref am_depth, .ref am_above, .ref am_pile, .ref am_next, .ref am_leader, .ref am_turned, .ref am_piece, .ref am_numbers, .ref am_row])), (am_there, .inl (km_there, 10, .inl zm_there)), (am_ones, .inl (km_ones, 24, .inl zm_ones)), (am_others, .inl (km_others, 24, .inl zm_others))] sz) [(km_there, .boolean), (km_ones, .int), (km_others, .int)] [(am, .inr (5, [.int u.1, .ref am_there, .ref am_ones, .ref am_others, .ref am_xs, .ref am_ys, .int zm_many, .ref am_a, .ref am_b, .ref am_from, .ref am_to, .ref am_way, .ref am_depth, .ref am_above, .ref am_pile, .ref am_next, .ref am_leader, .ref am_turned, .ref am_piece, .ref am_numbers, .ref am_row])), (am_there, .inl (km_there, 10, .inl u.2.1)), (am_ones, .inl (km_ones, 24, .inl u.2.2)), (am_others, .inl (km_others, 24, .inl zm_others))] t) (va_A [(am, .inr (5, [.int zm_thrown, .ref am_there, .ref am_ones, .ref am_others, .ref am_xs, .ref am_ys, .int zm_many, .ref am_a, .ref am_b, .ref am_from, .ref am_to, .ref am_way, .ref am_depth, .ref am_above, .ref am_pile, .ref am_next, .ref am_leader, .ref am_turned, .ref am_piece, .ref am_numbers, .ref am_row])), (am_there, .inl (km_there, 10, .inl zm_there)), (am_ones, .inl (km_ones, 24, .inl zm_ones)), (am_others, .inl (km_others, 24, .inl zm_others))] sz)) 0 0 (va_A [(am, .inr (5, [.int zm_thrown, .ref am_there, .ref am_ones, .ref am_others, .ref am_xs, .ref am_ys, .int zm_many, .ref am_a, .ref am_b, .ref am_from, .ref am_to, .ref am_way, .ref am_depth, .ref am_above, .ref am_pile, .ref am_next, .ref am_leader, .ref am_turned, .ref am_piece, .ref am_numbers, .ref am_row])), (am_there, .inl (km_there, 10, .inl zm_there)), (am_ones, .inl (km_ones, 24, .inl zm_ones)), (am_others, .inl (km_others, 24, .inl zm_others))] sz) := by
  refine Met.ofW (cc := b_Mod_drop) (maxL := 4) (ret := (some .int)) (by decide) rfl ?_
  intro p e s m args below meth c s₁ B hml hv
  obtain ⟨hargs, hsz, hP, hK, hD0, hN⟩ := hv
  have hx := B.exec
  have hb := B.bytes
  have hr := B.returns
  have hts := atoms_spec (ws := w_Mod_drop) B.pre
  have hown : s.vm.findClass R_Mod = some m.cls := findClass_of_methodNamed B.named
  have hlocks := B.notSynchronized
  subst hsz
  have hD := hD0.self (sz := s.heap.size)
  generalize hAe : va_A [(am, .inr (5, [.int zm_thrown, .ref am_there, .ref am_ones, .ref am_others, .ref am_xs, .ref am_ys, .int zm_many, .ref am_a, .ref am_b, .ref am_from, .ref am_to, .ref am_way, .ref am_depth, .ref am_above, .ref am_pile, .ref am_next, .ref am_leader, .ref am_turned, .ref am_piece, .ref am_numbers, .ref am_row])), (am_there, .inl (km_there, 10, .inl zm_there)), (am_ones, .inl (km_ones, 24, .inl zm_ones)), (am_others, .inl (km_others, 24, .inl zm_others))] s.heap.size = A at hD ⊢
  have hA : ∀ q : Nat, s.heap.size ≤ q → A q := fun q h => by rw [← hAe]; exact Or.inr h
  have hS : va_S A s.heap s.heap [] := va_S.rf
  have hl := lv_entry ([.ref am, .int v1]) (n := 4) (Nat.le_of_ble_eq_true rfl)
  refine W.eq (congrArg (fun a => entryFrame m a 4) hargs) ?_
  rw [lg_entry_eq]
  generalize (lg_sl ([.ref am, .int v1]) ++ List.replicate (4 - (lg_sl ([.ref am, .int v1])).length) Slot.unset).toArray = ls at hl ⊢
  have hl : lv_has ls 4 [(0, .ref am), (1, .int v1)] := hl
  generalize hH0 : ([] : List Loc) = locs at hS ⊢
  have hI := hR.symm
  rw [F_dropM] at hI
  refine lv_aload_n hx hb d_Mod_drop_0 rfl (lv_at hl 0 rfl) ?_
  refine lv_aload_n hx hb d_Mod_drop_1 rfl (lv_at hl 0 rfl) ?_
  refine lv_iload_n hx hb d_Mod_drop_2 rfl (lv_at hl 1 rfl) ?_
  obtain ⟨p_3, hg_3, hI⟩ := ob_bd hI
  have hPc := hP.sub (ws' := [(am, .inr (5, [.int zm_thrown, .ref am_there, .ref am_ones, .ref am_others, .ref am_xs, .ref am_ys, .int zm_many, .ref am_a, .ref am_b, .ref am_from, .ref am_to, .ref am_way, .ref am_depth, .ref am_above, .ref am_pile, .ref am_next, .ref am_leader, .ref am_turned, .ref am_piece, .ref am_numbers, .ref am_row])), (am_there, .inl (km_there, 10, .inl zm_there))]) [0, 1] rfl
  have hDc := hD.sub (ws' := [(am, .inr (5, [.int zm_thrown, .ref am_there, .ref am_ones, .ref am_others, .ref am_xs, .ref am_ys, .int zm_many, .ref am_a, .ref am_b, .ref am_from, .ref am_to, .ref am_way, .ref am_depth, .ref am_above, .ref am_pile, .ref am_next, .ref am_leader, .ref am_turned, .ref am_piece, .ref am_numbers, .ref am_row])), (am_there, .inl (km_there, 10, .inl zm_there))]) [0, 1] (by decide) rfl
  have hKc := hK.sub (tys' := [(km_there, .boolean)]) [0] rfl
  have hFc := va_free (wc := [(am, .inr (5, [.int zm_thrown, .ref am_there, .ref am_ones, .ref am_others, .ref am_xs, .ref am_ys, .int zm_many, .ref am_a, .ref am_b, .ref am_from, .ref am_to, .ref am_way, .ref am_depth, .ref am_above, .ref am_pile, .ref am_next, .ref am_leader, .ref am_turned, .ref am_piece, .ref am_numbers, .ref am_row])), (am_there, .inl (km_there, 10, .inl zm_there))]) hD hS hA [0, 1] rfl
  refine va_calli (va_runV (As := [.int v1]) (rest := [.ref am]) ⟨hx, hb, hml, hown, hts⟩ (c_isThereM l dC dI s.heap.size am am_there am_ones am_others am_xs am_ys am_a am_b am_from am_to am_way am_depth am_above am_pile am_next am_leader am_turned am_piece am_numbers am_row km_there zm_thrown zm_many zm_there v1 p_3 hg_3) (cwV 1 hts (gi4 mw_3_232 mw_3_234 mw_p_30 mw_1_6 mw_3_235) rfl rfl rfl (by decide +kernel) ⟨Nat.le_of_ble_eq_true rfl, Nat.le_of_ble_eq_true rfl⟩) ⟨fb_, va_recv (q0 := 0) (ci := 5) hK hP rfl rfl, pre_ hPc hKc hDc hN⟩ rfl rfl hl.1 rfl (lv_room (Nat.le_of_ble_eq_true rfl)) d_Mod_drop_3 ⟨Nat.le_of_ble_eq_true rfl, Nat.le_of_ble_eq_true rfl⟩) hS (fun q _ h => hFc q h) hFc (fun r_3 u t H locs ht hvm hp_3 hB hz1 hk1 hS => ?_)
  obtain ⟨hP1, -, hD1⟩ := hB
  rw [ht] at hP1
  obtain ⟨hP, hD⟩ := va_join (wr := [(am_ones, .inl (km_ones, 24, .inl zm_ones)), (am_others, .inl (km_others, 24, .inl zm_others))]) (w1 := [(am, .inr (5, [.int zm_thrown, .ref am_there, .ref am_ones, .ref am_others, .ref am_xs, .ref am_ys, .int zm_many, .ref am_a, .ref am_b, .ref am_from, .ref am_to, .ref am_way, .ref am_depth, .ref am_above, .ref am_pile, .ref am_next, .ref am_leader, .ref am_turned, .ref am_piece, .ref am_numbers, .ref am_row])), (am_there, .inl (km_there, 10, .inl zm_there))]) hP hD [0, 1] [2, 3] rfl rfl (by decide) (by decide) hk1 hFc hP1 hD1
  obtain ⟨hp_3, hz_3⟩ := hp_3
  have hp_3 : (r_3) = p_3 := hp_3
  subst hp_3
  have hP : va_P (dC, dI) classes [(am_ones, .inl (km_ones, 24, .inl zm_ones)), (am_others, .inl (km_others, 24, .inl zm_others)), (am, .inr (5, [.int zm_thrown, .ref am_there, .ref am_ones, .ref am_others, .ref am_xs, .ref am_ys, .int zm_many, .ref am_a, .ref am_b, .ref am_from, .ref am_to, .ref am_way, .ref am_depth, .ref am_above, .ref am_pile, .ref am_next, .ref am_leader, .ref am_turned, .ref am_piece, .ref am_numbers, .ref am_row])), (am_there, .inl (km_there, 10, .inl zm_there))] H := hP
  have hD : va_D A [(am_ones, .inl (km_ones, 24, .inl zm_ones)), (am_others, .inl (km_others, 24, .inl zm_others)), (am, .inr (5, [.int zm_thrown, .ref am_there, .ref am_ones, .ref am_others, .ref am_xs, .ref am_ys, .int zm_many, .ref am_a, .ref am_b, .ref am_from, .ref am_to, .ref am_way, .ref am_depth, .ref am_above, .ref am_pile, .ref am_next, .ref am_leader, .ref am_turned, .ref am_piece, .ref am_numbers, .ref am_row])), (am_there, .inl (km_there, 10, .inl zm_there))] := hD
  have hP := hP.sub (ws' := [(am, .inr (5, [.int zm_thrown, .ref am_there, .ref am_ones, .ref am_others, .ref am_xs, .ref am_ys, .int zm_many, .ref am_a, .ref am_b, .ref am_from, .ref am_to, .ref am_way, .ref am_depth, .ref am_above, .ref am_pile, .ref am_next, .ref am_leader, .ref am_turned, .ref am_piece, .ref am_numbers, .ref am_row])), (am_there, .inl (km_there, 10, .inl zm_there)), (am_ones, .inl (km_ones, 24, .inl zm_ones)), (am_others, .inl (km_others, 24, .inl zm_others))]) [2, 3, 0, 1] rfl
  have hD := hD.sub (ws' := [(am, .inr (5, [.int zm_thrown, .ref am_there, .ref am_ones, .ref am_others, .ref am_xs, .ref am_ys, .int zm_many, .ref am_a, .ref am_b, .ref am_from, .ref am_to, .ref am_way, .ref am_depth, .ref am_above, .ref am_pile, .ref am_next, .ref am_leader, .ref am_turned, .ref am_piece, .ref am_numbers, .ref am_row])), (am_there, .inl (km_there, 10, .inl zm_there)), (am_ones, .inl (km_ones, 24, .inl zm_ones)), (am_others, .inl (km_others, 24, .inl zm_others))]) [2, 3, 0, 1] (by decide) rfl
  obtain ⟨K_j14_6, hK_j14_6⟩ : ∃ K : Int32 → Option (Int32 × Int32 × (Nat → Int32) × (Nat → Int32)), K = (fun (j_14_6 : Int32) => ((F_refusedM j_14_6 ((0 : Int32)) ((0 : Int32))).bind (fun p_16 => (if p_16.1 = 0 then (F_dropM_L28 (fun v2_28 wm_ones_28 => (if inb v1 10 = true then some (v2_28, p_16.2, upd zm_there (Int32.toNatClampNeg v1) 0, wm_ones_28) else none)) zm_others v1 24 0 ((0 : Int32)) zm_ones) else some ((0 : Int32), p_16.2, zm_there, zm_ones))))) := ⟨_, rfl⟩
  have J_14_6 : ∀ (s0_14_6 : Int32) (H : Heap) (locs : List Loc) (ls : Array Slot), some R = (K_j14_6 s0_14_6) → va_P (dC, dI) classes [(am, .inr (5, [.int zm_thrown, .ref am_there, .ref am_ones, .ref am_others, .ref am_xs, .ref am_ys, .int zm_many, .ref am_a, .ref am_b, .ref am_from, .ref am_to, .ref am_way, .ref am_depth, .ref am_above, .ref am_pile, .ref am_next, .ref am_leader, .ref am_turned, .ref am_piece, .ref am_numbers, .ref am_row])), (am_there, .inl (km_there, 10, .inl zm_there)), (am_ones, .inl (km_ones, 24, .inl zm_ones)), (am_others, .inl (km_others, 24, .inl zm_others))] H → va_D A [(am, .inr (5, [.int zm_thrown, .ref am_there, .ref am_ones, .ref am_others, .ref am_xs, .ref am_ys, .int zm_many, .ref am_a, .ref am_b, .ref am_from, .ref am_to, .ref am_way, .ref am_depth, .ref am_above, .ref am_pile, .ref am_next, .ref am_leader, .ref am_turned, .ref am_piece, .ref am_numbers, .ref am_row])), (am_there, .inl (km_there, 10, .inl zm_there)), (am_ones, .inl (km_ones, 24, .inl zm_ones)), (am_others, .inl (km_others, 24, .inl zm_others))] → va_S A s.heap H locs → lv_has ls 4 [(0, .ref am), (1, .int v1)] → W p l e (headSpec w_Mod_drop ({ frames := 2, cells := 0, slots := 0, locals := 41 })).room s m args below meth c H locs 0 0 (MQ below (va_Qi (fun (r : Int32) (u : Int32 × (Nat → Int32) × (Nat → Int32)) => (r, u) = R) (fun u t => End_ dC dI A [(km_there, .boolean), (km_ones, .int), (km_others, .int)] [(am, .inr (5, [.int u.1, .ref am_there, .ref am_ones, .ref am_others, .ref am_xs, .ref am_ys, .int zm_many, .ref am_a, .ref am_b, .ref am_from, .ref am_to, .ref am_way, .ref am_depth, .ref am_above, .ref am_pile, .ref am_next, .ref am_leader, .ref am_turned, .ref am_piece, .ref am_numbers, .ref am_row])), (am_there, .inl (km_there, 10, .inl u.2.1)), (am_ones, .inl (km_ones, 24, .inl u.2.2)), (am_others, .inl (km_others, 24, .inl zm_others))] t) A) args s 0 0 A) (F0 m 14 ls [.int s0_14_6, .ref am]) := by
    intro s0_14_6 H locs ls hI hP hD hS hl
    rw [hK_j14_6] at hI
    refine lv_iconst (v := 0) hx hb d_Mod_drop_14 (by decide) ?_
    refine lv_iconst (v := 0) hx hb d_Mod_drop_15 (by decide) ?_
    obtain ⟨p_16, hg_16, hI⟩ := ob_bd hI
    have hPc := hP.sub (ws' := [(am, .inr (5, [.int zm_thrown, .ref am_there, .ref am_ones, .ref am_others, .ref am_xs, .ref am_ys, .int zm_many, .ref am_a, .ref am_b, .ref am_from, .ref am_to, .ref am_way, .ref am_depth, .ref am_above, .ref am_pile, .ref am_next, .ref am_leader, .ref am_turned, .ref am_piece, .ref am_numbers, .ref am_row]))]) [0] rfl
    have hDc := hD.sub (ws' := [(am, .inr (5, [.int zm_thrown, .ref am_there, .ref am_ones, .ref am_others, .ref am_xs, .ref am_ys, .int zm_many, .ref am_a, .ref am_b, .ref am_from, .ref am_to, .ref am_way, .ref am_depth, .ref am_above, .ref am_pile, .ref am_next, .ref am_leader, .ref am_turned, .ref am_piece, .ref am_numbers, .ref am_row]))]) [0] (by decide) rfl
    have hKc := hK.sub (tys' := []) [] rfl
    have hFc := va_free (wc := [(am, .inr (5, [.int zm_thrown, .ref am_there, .ref am_ones, .ref am_others, .ref am_xs, .ref am_ys, .int zm_many, .ref am_a, .ref am_b, .ref am_from, .ref am_to, .ref am_way, .ref am_depth, .ref am_above, .ref am_pile, .ref am_next, .ref am_leader, .ref am_turned, .ref am_piece, .ref am_numbers, .ref am_row]))]) hD hS hA [0] rfl
    refine va_calli (va_runV (As := [.int s0_14_6, .int 0, .int 0]) (rest := []) ⟨hx, hb, hml, hown, hts⟩ (c_refusedM l dC dI H.size am am_there am_ones am_others am_xs am_ys am_a am_b am_from am_to am_way am_depth am_above am_pile am_next am_leader am_turned am_piece am_numbers am_row zm_thrown zm_many s0_14_6 0 0 p_16 hg_16) (cwV 3 hts (gi4 mw_3_236 mw_3_238 mw_p_31 mw_1_6 mw_3_239) rfl rfl rfl (by decide +kernel) ⟨Nat.le_of_ble_eq_true rfl, Nat.le_of_ble_eq_true rfl⟩) ⟨fb_, va_recv (q0 := 0) (ci := 5) hK hP rfl rfl, pre_ hPc hKc hDc hN⟩ rfl rfl hl.1 rfl (lv_room (Nat.le_of_ble_eq_true rfl)) d_Mod_drop_16 ⟨Nat.le_of_ble_eq_true rfl, Nat.le_of_ble_eq_true rfl⟩) hS (fun q _ h => hFc q h) hFc (fun r_16 wm_thrown_16 t H locs ht hvm hp_16 hB hz1 hk1 hS => ?_)
    obtain ⟨hP1, -, hD1⟩ := hB
    rw [ht] at hP1
    obtain ⟨hP, hD⟩ := va_join (wr := [(am_there, .inl (km_there, 10, .inl zm_there)), (am_ones, .inl (km_ones, 24, .inl zm_ones)), (am_others, .inl (km_others, 24, .inl zm_others))]) (w1 := [(am, .inr (5, [.int wm_thrown_16, .ref am_there, .ref am_ones, .ref am_others, .ref am_xs, .ref am_ys, .int zm_many, .ref am_a, .ref am_b, .ref am_from, .ref am_to, .ref am_way, .ref am_depth, .ref am_above, .ref am_pile, .ref am_next, .ref am_leader, .ref am_turned, .ref am_piece, .ref am_numbers, .ref am_row]))]) hP hD [0] [1, 2, 3] rfl rfl (by decide) (by decide) hk1 hFc hP1 hD1
    obtain ⟨hp_16, hz_16⟩ := hp_16
    have hp_16 : (r_16, wm_thrown_16) = p_16 := hp_16
    subst hp_16
    have hP : va_P (dC, dI) classes [(am_there, .inl (km_there, 10, .inl zm_there)), (am_ones, .inl (km_ones, 24, .inl zm_ones)), (am_others, .inl (km_others, 24, .inl zm_others)), (am, .inr (5, [.int wm_thrown_16, .ref am_there, .ref am_ones, .ref am_others, .ref am_xs, .ref am_ys, .int zm_many, .ref am_a, .ref am_b, .ref am_from, .ref am_to, .ref am_way, .ref am_depth, .ref am_above, .ref am_pile, .ref am_next, .ref am_leader, .ref am_turned, .ref am_piece, .ref am_numbers, .ref am_row]))] H := hP
    have hD : va_D A [(am_there, .inl (km_there, 10, .inl zm_there)), (am_ones, .inl (km_ones, 24, .inl zm_ones)), (am_others, .inl (km_others, 24, .inl zm_others)), (am, .inr (5, [.int wm_thrown_16, .ref am_there, .ref am_ones, .ref am_others, .ref am_xs, .ref am_ys, .int zm_many, .ref am_a, .ref am_b, .ref am_from, .ref am_to, .ref am_way, .ref am_depth, .ref am_above, .ref am_pile, .ref am_next, .ref am_leader, .ref am_turned, .ref am_piece, .ref am_numbers, .ref am_row]))] := hD
    refine lv_if_eq (tgt := 24) hx hb d_Mod_drop_19 rfl (fun hc_19 => ?_) (fun hc_19 => ?_)
    · skip
      have hI := hI.trans (if_pos hc_19)
      refine lv_iconst (v := 0) hx hb d_Mod_drop_24 (by decide) ?_
      refine lv_istore_n (lv' := [(2, .int 0), (0, .ref am), (1, .int v1)]) hx hb d_Mod_drop_25 rfl hl (by decide) rfl (fun ls hl => ?_)
      refine lv_iconst (v := 0) hx hb d_Mod_drop_26 (by decide) ?_
      refine lv_istore_n (lv' := [(3, .int 0), (2, .int 0), (0, .ref am), (1, .int v1)]) hx hb d_Mod_drop_27 rfl hl (by decide) rfl (fun ls hl => ?_)
      have hP := hP.sub (ws' := [(am, .inr (5, [.int wm_thrown_16, .ref am_there, .ref am_ones, .ref am_others, .ref am_xs, .ref am_ys, .int zm_many, .ref am_a, .ref am_b, .ref am_from, .ref am_to, .ref am_way, .ref am_depth, .ref am_above, .ref am_pile, .ref am_next, .ref am_leader, .ref am_turned, .ref am_piece, .ref am_numbers, .ref am_row])), (am_there, .inl (km_there, 10, .inl zm_there)), (am_ones, .inl (km_ones, 24, .inl zm_ones)), (am_others, .inl (km_others, 24, .inl zm_others))]) [3, 0, 1, 2] rfl
      have hD := hD.sub (ws' := [(am, .inr (5, [.int wm_thrown_16, .ref am_there, .ref am_ones, .ref am_others, .ref am_xs, .ref am_ys, .int zm_many, .ref am_a, .ref am_b, .ref am_from, .ref am_to, .ref am_way, .ref am_depth, .ref am_above, .ref am_pile, .ref am_next, .ref am_leader, .ref am_turned, .ref am_piece, .ref am_numbers, .ref am_row])), (am_there, .inl (km_there, 10, .inl zm_there)), (am_ones, .inl (km_ones, 24, .inl zm_ones)), (am_others, .inl (km_others, 24, .inl zm_others))]) [3, 0, 1, 2] (by decide) rfl
      obtain ⟨K_28, hK_28⟩ : ∃ K : Int32 → (Nat → Int32) → Option (Int32 × Int32 × (Nat → Int32) × (Nat → Int32)), K = (fun v2_28 wm_ones_28 => (if inb v1 10 = true then some (v2_28, wm_thrown_16, upd zm_there (Int32.toNatClampNeg v1) 0, wm_ones_28) else none)) := ⟨_, rfl⟩
      have X_28 : ∀ (k_28 : Nat) (v2_28 : Int32) (wm_ones_28 : Nat → Int32) (H : Heap) (locs : List Loc) (ls : Array Slot), some R = K_28 v2_28 wm_ones_28 → va_P (dC, dI) classes [(am, .inr (5, [.int wm_thrown_16, .ref am_there, .ref am_ones, .ref am_others, .ref am_xs, .ref am_ys, .int zm_many, .ref am_a, .ref am_b, .ref am_from, .ref am_to, .ref am_way, .ref am_depth, .ref am_above, .ref am_pile, .ref am_next, .ref am_leader, .ref am_turned, .ref am_piece, .ref am_numbers, .ref am_row])), (am_there, .inl (km_there, 10, .inl zm_there)), (am_ones, .inl (km_ones, 24, .inl wm_ones_28)), (am_others, .inl (km_others, 24, .inl zm_others))] H → va_D A [(am, .inr (5, [.int wm_thrown_16, .ref am_there, .ref am_ones, .ref am_others, .ref am_xs, .ref am_ys, .int zm_many, .ref am_a, .ref am_b, .ref am_from, .ref am_to, .ref am_way, .ref am_depth, .ref am_above, .ref am_pile, .ref am_next, .ref am_leader, .ref am_turned, .ref am_piece, .ref am_numbers, .ref am_row])), (am_there, .inl (km_there, 10, .inl zm_there)), (am_ones, .inl (km_ones, 24, .inl wm_ones_28)), (am_others, .inl (km_others, 24, .inl zm_others))] → va_S A s.heap H locs → lv_has ls 4 [(0, .ref am), (1, .int v1), (2, .int v2_28), (3, .int (nI k_28))] → W p l e (headSpec w_Mod_drop ({ frames := 2, cells := 0, slots := 0, locals := 41 })).room s m args below meth c H locs 0 0 (MQ below (va_Qi (fun (r : Int32) (u : Int32 × (Nat → Int32) × (Nat → Int32)) => (r, u) = R) (fun u t => End_ dC dI A [(km_there, .boolean), (km_ones, .int), (km_others, .int)] [(am, .inr (5, [.int u.1, .ref am_there, .ref am_ones, .ref am_others, .ref am_xs, .ref am_ys, .int zm_many, .ref am_a, .ref am_b, .ref am_from, .ref am_to, .ref am_way, .ref am_depth, .ref am_above, .ref am_pile, .ref am_next, .ref am_leader, .ref am_turned, .ref am_piece, .ref am_numbers, .ref am_row])), (am_there, .inl (km_there, 10, .inl u.2.1)), (am_ones, .inl (km_ones, 24, .inl u.2.2)), (am_others, .inl (km_others, 24, .inl zm_others))] t) A) args s 0 0 A) (F0 m 79 ls []) := by
        intro k_28 v2_28 wm_ones_28 H locs ls hI hP hD hS hl
        rw [hK_28] at hI
        refine lv_aload_n hx hb d_Mod_drop_79 rfl (lv_at hl 0 rfl) ?_
        refine va_get (D := (dC, dI)) (ci := 5) (v := .ref am_there) (C := R_Mod) (T := F_Mod) (N := 21) hx hb hts (fun w h => List.mem_cons_of_mem _ (in_Mod w h)) hown hK hP 0 rfl rfl 1 (by decide) (hts _ (List.mem_cons_of_mem _ mw_3_157)) (fun _ h9 => h9) rfl d_Mod_drop_80 ?_
        refine lv_iload_n hx hb d_Mod_drop_83 rfl (lv_at hl 1 rfl) ?_
        refine lv_iconst (v := 0) hx hb d_Mod_drop_84 (by decide) ?_
        have hi_85 := ob_in hI
        have hI := ob_th hI
        refine va_zast (D := (dC, dI)) hx hb hK hP hD hS 1 0 rfl rfl hi_85 d_Mod_drop_85 (fun H locs hP hD hS => ?_)
        have hP : va_P (dC, dI) classes [(am, .inr (5, [.int wm_thrown_16, .ref am_there, .ref am_ones, .ref am_others, .ref am_xs, .ref am_ys, .int zm_many, .ref am_a, .ref am_b, .ref am_from, .ref am_to, .ref am_way, .ref am_depth, .ref am_above, .ref am_pile, .ref am_next, .ref am_leader, .ref am_turned, .ref am_piece, .ref am_numbers, .ref am_row])), (am_there, .inl (km_there, 10, .inl (upd zm_there (Int32.toNatClampNeg v1) 0))), (am_ones, .inl (km_ones, 24, .inl wm_ones_28)), (am_others, .inl (km_others, 24, .inl zm_others))] H := hP
        have hD : va_D A [(am, .inr (5, [.int wm_thrown_16, .ref am_there, .ref am_ones, .ref am_others, .ref am_xs, .ref am_ys, .int zm_many, .ref am_a, .ref am_b, .ref am_from, .ref am_to, .ref am_way, .ref am_depth, .ref am_above, .ref am_pile, .ref am_next, .ref am_leader, .ref am_turned, .ref am_piece, .ref am_numbers, .ref am_row])), (am_there, .inl (km_there, 10, .inl (upd zm_there (Int32.toNatClampNeg v1) 0))), (am_ones, .inl (km_ones, 24, .inl wm_ones_28)), (am_others, .inl (km_others, 24, .inl zm_others))] := hD
        refine lv_iload_n hx hb d_Mod_drop_86 rfl (lv_at hl 2 rfl) ?_
        exact W.iret (v := v2_28) hx hb hr (fun t ht hW => ⟨⟨v2_28, (wm_thrown_16, upd zm_there (Int32.toNatClampNeg v1) 0, wm_ones_28), rfl, (Option.some.inj hI).symm, by rw [ht]; exact hP, va_K.moved hW.alike hK, hD⟩, hS.F ht⟩) hS.2.2 d_Mod_drop_87
      have L_28 : ∀ (n_28 k_28 : Nat) (v2_28 : Int32) (wm_ones_28 : Nat → Int32) (H : Heap) (locs : List Loc) (ls : Array Slot), k_28 + n_28 = 24 → some R = F_dropM_L28 K_28 zm_others v1 n_28 k_28 v2_28 wm_ones_28 → va_P (dC, dI) classes [(am, .inr (5, [.int wm_thrown_16, .ref am_there, .ref am_ones, .ref am_others, .ref am_xs, .ref am_ys, .int zm_many, .ref am_a, .ref am_b, .ref am_from, .ref am_to, .ref am_way, .ref am_depth, .ref am_above, .ref am_pile, .ref am_next, .ref am_leader, .ref am_turned, .ref am_piece, .ref am_numbers, .ref am_row])), (am_there, .inl (km_there, 10, .inl zm_there)), (am_ones, .inl (km_ones, 24, .inl wm_ones_28)), (am_others, .inl (km_others, 24, .inl zm_others))] H → va_D A [(am, .inr (5, [.int wm_thrown_16, .ref am_there, .ref am_ones, .ref am_others, .ref am_xs, .ref am_ys, .int zm_many, .ref am_a, .ref am_b, .ref am_from, .ref am_to, .ref am_way, .ref am_depth, .ref am_above, .ref am_pile, .ref am_next, .ref am_leader, .ref am_turned, .ref am_piece, .ref am_numbers, .ref am_row])), (am_there, .inl (km_there, 10, .inl zm_there)), (am_ones, .inl (km_ones, 24, .inl wm_ones_28)), (am_others, .inl (km_others, 24, .inl zm_others))] → va_S A s.heap H locs → lv_has ls 4 [(0, .ref am), (1, .int v1), (2, .int v2_28), (3, .int (nI k_28))] → W p l e (headSpec w_Mod_drop ({ frames := 2, cells := 0, slots := 0, locals := 41 })).room s m args below meth c H locs 0 0 (MQ below (va_Qi (fun (r : Int32) (u : Int32 × (Nat → Int32) × (Nat → Int32)) => (r, u) = R) (fun u t => End_ dC dI A [(km_there, .boolean), (km_ones, .int), (km_others, .int)] [(am, .inr (5, [.int u.1, .ref am_there, .ref am_ones, .ref am_others, .ref am_xs, .ref am_ys, .int zm_many, .ref am_a, .ref am_b, .ref am_from, .ref am_to, .ref am_way, .ref am_depth, .ref am_above, .ref am_pile, .ref am_next, .ref am_leader, .ref am_turned, .ref am_piece, .ref am_numbers, .ref am_row])), (am_there, .inl (km_there, 10, .inl u.2.1)), (am_ones, .inl (km_ones, 24, .inl u.2.2)), (am_others, .inl (km_others, 24, .inl zm_others))] t) A) args s 0 0 A) (F0 m 28 ls []) := by
        intro n_28
        induction n_28 with
        | zero =>
          intro k_28 v2_28 wm_ones_28 H locs ls hkn_28 hI hP hD hS hl
          rw [F_dropM_L28] at hI
          refine lv_iload_n hx hb d_Mod_drop_28 rfl (lv_at hl 3 rfl) ?_
          refine lv_bipush (v := 24) hx hb d_Mod_drop_29 (by decide) ?_
          refine lv_icmp_ge (tgt := 79) hx hb d_Mod_drop_31 rfl (fun hc_31 => ?_) (fun hc_31 => absurd (z_exit rfl hkn_28) hc_31)
          have hl := lv_sub hl [0, 1, 2, 3] rfl
          exact X_28 _ _ _ _ _ _ hI hP hD hS hl
        | succ n_28 ih_28 =>
          intro k_28 v2_28 wm_ones_28 H locs ls hkn_28 hI hP hD hS hl
          rw [F_dropM_L28] at hI
          refine lv_iload_n hx hb d_Mod_drop_28 rfl (lv_at hl 3 rfl) ?_
          refine lv_bipush (v := 24) hx hb d_Mod_drop_29 (by decide) ?_
          refine lv_icmp_ge (tgt := 79) hx hb d_Mod_drop_31 rfl (fun hc_31 => absurd hc_31 (z_stay rfl hkn_28 (by decide))) (fun hc_31 => ?_)
          refine lv_aload_n hx hb d_Mod_drop_34 rfl (lv_at hl 0 rfl) ?_
          refine va_get (D := (dC, dI)) (ci := 5) (v := .ref am_ones) (C := R_Mod) (T := F_Mod) (N := 21) hx hb hts (fun w h => List.mem_cons_of_mem _ (in_Mod w h)) hown hK hP 0 rfl rfl 2 (by decide) (hts _ (List.mem_cons_of_mem _ mw_3_158)) (fun _ h9 => h9) rfl d_Mod_drop_35 ?_
          refine lv_iload_n hx hb d_Mod_drop_38 rfl (lv_at hl 3 rfl) ?_
          refine va_iald (D := (dC, dI)) hx hb hK hP 2 1 rfl rfl (vp_in_nI (by omega) (by decide)) d_Mod_drop_39 ?_
          refine lv_topi (fun y_39 e_39 => ?_)
          obtain rfl : y_39 = wm_ones_28 k_28 := e_39.trans (by rw [nI_clamp (by omega)])
          obtain ⟨K_j73_40, hK_j73_40⟩ : ∃ K : Int32 × (Nat → Int32) → Option (Int32 × Int32 × (Nat → Int32) × (Nat → Int32)), K = (fun (j_73_40 : Int32 × (Nat → Int32)) => (F_dropM_L28 K_28 zm_others v1 n_28 (k_28 + 1) j_73_40.1 j_73_40.2)) := ⟨_, rfl⟩
          have J_73_40 : ∀ (v2_73_40 : Int32) (wm_ones_73_40 : Nat → Int32) (H : Heap) (locs : List Loc) (ls : Array Slot), some R = (K_j73_40 (v2_73_40, wm_ones_73_40)) → va_P (dC, dI) classes [(am, .inr (5, [.int wm_thrown_16, .ref am_there, .ref am_ones, .ref am_others, .ref am_xs, .ref am_ys, .int zm_many, .ref am_a, .ref am_b, .ref am_from, .ref am_to, .ref am_way, .ref am_depth, .ref am_above, .ref am_pile, .ref am_next, .ref am_leader, .ref am_turned, .ref am_piece, .ref am_numbers, .ref am_row])), (am_there, .inl (km_there, 10, .inl zm_there)), (am_ones, .inl (km_ones, 24, .inl wm_ones_73_40)), (am_others, .inl (km_others, 24, .inl zm_others))] H → va_D A [(am, .inr (5, [.int wm_thrown_16, .ref am_there, .ref am_ones, .ref am_others, .ref am_xs, .ref am_ys, .int zm_many, .ref am_a, .ref am_b, .ref am_from, .ref am_to, .ref am_way, .ref am_depth, .ref am_above, .ref am_pile, .ref am_next, .ref am_leader, .ref am_turned, .ref am_piece, .ref am_numbers, .ref am_row])), (am_there, .inl (km_there, 10, .inl zm_there)), (am_ones, .inl (km_ones, 24, .inl wm_ones_73_40)), (am_others, .inl (km_others, 24, .inl zm_others))] → va_S A s.heap H locs → lv_has ls 4 [(0, .ref am), (1, .int v1), (2, .int v2_73_40), (3, .int (nI k_28))] → W p l e (headSpec w_Mod_drop ({ frames := 2, cells := 0, slots := 0, locals := 41 })).room s m args below meth c H locs 0 0 (MQ below (va_Qi (fun (r : Int32) (u : Int32 × (Nat → Int32) × (Nat → Int32)) => (r, u) = R) (fun u t => End_ dC dI A [(km_there, .boolean), (km_ones, .int), (km_others, .int)] [(am, .inr (5, [.int u.1, .ref am_there, .ref am_ones, .ref am_others, .ref am_xs, .ref am_ys, .int zm_many, .ref am_a, .ref am_b, .ref am_from, .ref am_to, .ref am_way, .ref am_depth, .ref am_above, .ref am_pile, .ref am_next, .ref am_leader, .ref am_turned, .ref am_piece, .ref am_numbers, .ref am_row])), (am_there, .inl (km_there, 10, .inl u.2.1)), (am_ones, .inl (km_ones, 24, .inl u.2.2)), (am_others, .inl (km_others, 24, .inl zm_others))] t) A) args s 0 0 A) (F0 m 73 ls []) := by
            intro v2_73_40 wm_ones_73_40 H locs ls hI hP hD hS hl
            rw [hK_j73_40] at hI
            refine lv_iinc (lv' := [(3, .int (nI (k_28 + 1))), (0, .ref am), (1, .int v1), (2, .int v2_73_40)]) (k := 3) hx hb d_Mod_drop_73 hl rfl (z_inc _) (by decide) rfl (fun ls hl => ?_)
            refine lv_goto (tgt := 28) hx hb d_Mod_drop_76 rfl ?_
            have hl := lv_sub hl [1, 2, 3, 0] rfl
            exact ih_28 _ _ _ _ _ _ (by omega) hI hP hD hS hl
          have hI : some R = (K_j73_40 (if (wm_ones_28 k_28) < 0 then (v2_28, wm_ones_28) else (if (wm_ones_28 k_28) = v1 then (v2_28 + 1, upd wm_ones_28 k_28 ((-1))) else (if (zm_others k_28) = v1 then (v2_28 + 1, upd wm_ones_28 k_28 ((-1))) else (v2_28, wm_ones_28))))) := by rw [hK_j73_40]; exact hI
          refine lv_if_lt (tgt := 73) hx hb d_Mod_drop_40 rfl (fun hc_40 => ?_) (fun hc_40 => ?_)
          · skip
            have hI := ob_ifC (C := fun y_ => K_j73_40 y_) hc_40 hI
            have hl := lv_sub hl [0, 1, 2, 3] rfl
            exact J_73_40 _ _ _ _ _ hI hP hD hS hl
          · skip
            have hI := ob_elC (C := fun y_ => K_j73_40 y_) hc_40 hI
            refine lv_aload_n hx hb d_Mod_drop_43 rfl (lv_at hl 0 rfl) ?_
            refine va_get (D := (dC, dI)) (ci := 5) (v := .ref am_ones) (C := R_Mod) (T := F_Mod) (N := 21) hx hb hts (fun w h => List.mem_cons_of_mem _ (in_Mod w h)) hown hK hP 0 rfl rfl 2 (by decide) (hts _ (List.mem_cons_of_mem _ mw_3_158)) (fun _ h9 => h9) rfl d_Mod_drop_44 ?_
            refine lv_iload_n hx hb d_Mod_drop_47 rfl (lv_at hl 3 rfl) ?_
            refine va_iald (D := (dC, dI)) hx hb hK hP 2 1 rfl rfl (vp_in_nI (by omega) (by decide)) d_Mod_drop_48 ?_
            refine lv_topi (fun y_48 e_48 => ?_)
            obtain rfl : y_48 = wm_ones_28 k_28 := e_48.trans (by rw [nI_clamp (by omega)])
            refine lv_iload_n hx hb d_Mod_drop_49 rfl (lv_at hl 1 rfl) ?_
            refine lv_icmp_eq (tgt := 63) hx hb d_Mod_drop_50 rfl (fun hc_50 => ?_) (fun hc_50 => ?_)
            · skip
              have hI := ob_ifC (C := fun y_ => K_j73_40 y_) hc_50 hI
              refine lv_aload_n hx hb d_Mod_drop_63 rfl (lv_at hl 0 rfl) ?_
              refine va_get (D := (dC, dI)) (ci := 5) (v := .ref am_ones) (C := R_Mod) (T := F_Mod) (N := 21) hx hb hts (fun w h => List.mem_cons_of_mem _ (in_Mod w h)) hown hK hP 0 rfl rfl 2 (by decide) (hts _ (List.mem_cons_of_mem _ mw_3_158)) (fun _ h9 => h9) rfl d_Mod_drop_64 ?_
              refine lv_iload_n hx hb d_Mod_drop_67 rfl (lv_at hl 3 rfl) ?_
              refine lv_iconst (v := -1) hx hb d_Mod_drop_68 (by decide) ?_
              refine va_iast (D := (dC, dI)) hx hb hK hP hD hS 2 1 rfl rfl (vp_in_nI (by omega) (by decide)) d_Mod_drop_69 (fun H locs hP hD hS => ?_)
              rw [nI_clamp (by omega)] at hP hD
              have hP : va_P (dC, dI) classes [(am, .inr (5, [.int wm_thrown_16, .ref am_there, .ref am_ones, .ref am_others, .ref am_xs, .ref am_ys, .int zm_many, .ref am_a, .ref am_b, .ref am_from, .ref am_to, .ref am_way, .ref am_depth, .ref am_above, .ref am_pile, .ref am_next, .ref am_leader, .ref am_turned, .ref am_piece, .ref am_numbers, .ref am_row])), (am_there, .inl (km_there, 10, .inl zm_there)), (am_ones, .inl (km_ones, 24, .inl (upd wm_ones_28 k_28 ((-1))))), (am_others, .inl (km_others, 24, .inl zm_others))] H := hP
              have hD : va_D A [(am, .inr (5, [.int wm_thrown_16, .ref am_there, .ref am_ones, .ref am_others, .ref am_xs, .ref am_ys, .int zm_many, .ref am_a, .ref am_b, .ref am_from, .ref am_to, .ref am_way, .ref am_depth, .ref am_above, .ref am_pile, .ref am_next, .ref am_leader, .ref am_turned, .ref am_piece, .ref am_numbers, .ref am_row])), (am_there, .inl (km_there, 10, .inl zm_there)), (am_ones, .inl (km_ones, 24, .inl (upd wm_ones_28 k_28 ((-1))))), (am_others, .inl (km_others, 24, .inl zm_others))] := hD
              refine lv_iinc (lv' := [(2, .int (v2_28 + 1)), (0, .ref am), (1, .int v1), (3, .int (nI k_28))]) (k := 2) hx hb d_Mod_drop_70 hl rfl (z_inc1 _) (by decide) rfl (fun ls hl => ?_)
              have hl := lv_sub hl [1, 2, 0, 3] rfl
              exact J_73_40 _ _ _ _ _ hI hP hD hS hl
            · skip
              have hI := ob_elC (C := fun y_ => K_j73_40 y_) hc_50 hI
              refine lv_aload_n hx hb d_Mod_drop_53 rfl (lv_at hl 0 rfl) ?_
              refine va_get (D := (dC, dI)) (ci := 5) (v := .ref am_others) (C := R_Mod) (T := F_Mod) (N := 21) hx hb hts (fun w h => List.mem_cons_of_mem _ (in_Mod w h)) hown hK hP 0 rfl rfl 3 (by decide) (hts _ (List.mem_cons_of_mem _ mw_3_159)) (fun _ h9 => h9) rfl d_Mod_drop_54 ?_
              refine lv_iload_n hx hb d_Mod_drop_57 rfl (lv_at hl 3 rfl) ?_
              refine va_iald (D := (dC, dI)) hx hb hK hP 3 2 rfl rfl (vp_in_nI (by omega) (by decide)) d_Mod_drop_58 ?_
              refine lv_topi (fun y_58 e_58 => ?_)
              obtain rfl : y_58 = zm_others k_28 := e_58.trans (by rw [nI_clamp (by omega)])
              refine lv_iload_n hx hb d_Mod_drop_59 rfl (lv_at hl 1 rfl) ?_
              refine lv_icmp_ne (tgt := 73) hx hb d_Mod_drop_60 rfl (fun hc_60 => ?_) (fun hc_60 => ?_)
              · skip
                have hI := ob_elC (C := fun y_ => K_j73_40 y_) hc_60 hI
                have hl := lv_sub hl [0, 1, 2, 3] rfl
                exact J_73_40 _ _ _ _ _ hI hP hD hS hl
              · skip
                have hI := ob_ifC (C := fun y_ => K_j73_40 y_) hc_60 hI
                refine lv_aload_n hx hb d_Mod_drop_63 rfl (lv_at hl 0 rfl) ?_
                refine va_get (D := (dC, dI)) (ci := 5) (v := .ref am_ones) (C := R_Mod) (T := F_Mod) (N := 21) hx hb hts (fun w h => List.mem_cons_of_mem _ (in_Mod w h)) hown hK hP 0 rfl rfl 2 (by decide) (hts _ (List.mem_cons_of_mem _ mw_3_158)) (fun _ h9 => h9) rfl d_Mod_drop_64 ?_
                refine lv_iload_n hx hb d_Mod_drop_67 rfl (lv_at hl 3 rfl) ?_
                refine lv_iconst (v := -1) hx hb d_Mod_drop_68 (by decide) ?_
                refine va_iast (D := (dC, dI)) hx hb hK hP hD hS 2 1 rfl rfl (vp_in_nI (by omega) (by decide)) d_Mod_drop_69 (fun H locs hP hD hS => ?_)
                rw [nI_clamp (by omega)] at hP hD
                have hP : va_P (dC, dI) classes [(am, .inr (5, [.int wm_thrown_16, .ref am_there, .ref am_ones, .ref am_others, .ref am_xs, .ref am_ys, .int zm_many, .ref am_a, .ref am_b, .ref am_from, .ref am_to, .ref am_way, .ref am_depth, .ref am_above, .ref am_pile, .ref am_next, .ref am_leader, .ref am_turned, .ref am_piece, .ref am_numbers, .ref am_row])), (am_there, .inl (km_there, 10, .inl zm_there)), (am_ones, .inl (km_ones, 24, .inl (upd wm_ones_28 k_28 ((-1))))), (am_others, .inl (km_others, 24, .inl zm_others))] H := hP
                have hD : va_D A [(am, .inr (5, [.int wm_thrown_16, .ref am_there, .ref am_ones, .ref am_others, .ref am_xs, .ref am_ys, .int zm_many, .ref am_a, .ref am_b, .ref am_from, .ref am_to, .ref am_way, .ref am_depth, .ref am_above, .ref am_pile, .ref am_next, .ref am_leader, .ref am_turned, .ref am_piece, .ref am_numbers, .ref am_row])), (am_there, .inl (km_there, 10, .inl zm_there)), (am_ones, .inl (km_ones, 24, .inl (upd wm_ones_28 k_28 ((-1))))), (am_others, .inl (km_others, 24, .inl zm_others))] := hD
                refine lv_iinc (lv' := [(2, .int (v2_28 + 1)), (0, .ref am), (1, .int v1), (3, .int (nI k_28))]) (k := 2) hx hb d_Mod_drop_70 hl rfl (z_inc1 _) (by decide) rfl (fun ls hl => ?_)
                have hl := lv_sub hl [1, 2, 0, 3] rfl
                exact J_73_40 _ _ _ _ _ hI hP hD hS hl
      have hl : lv_has ls 4 [(0, .ref am), (1, .int v1), (2, .int 0), (3, .int (nI 0))] := by first | exact lv_sub hl [2, 3, 1, 0] rfl | (rw [nI_succ]; exact lv_sub hl [2, 3, 1, 0] rfl)
      exact L_28 24 0 _ _ _ _ _ (by omega) (by rw [hK_28]; exact hI) hP hD hS hl
    · skip
      have hI := hI.trans (if_neg hc_19)
      refine lv_iconst (v := 0) hx hb d_Mod_drop_22 (by decide) ?_
      have hP := hP.sub (ws' := [(am, .inr (5, [.int wm_thrown_16, .ref am_there, .ref am_ones, .ref am_others, .ref am_xs, .ref am_ys, .int zm_many, .ref am_a, .ref am_b, .ref am_from, .ref am_to, .ref am_way, .ref am_depth, .ref am_above, .ref am_pile, .ref am_next, .ref am_leader, .ref am_turned, .ref am_piece, .ref am_numbers, .ref am_row])), (am_there, .inl (km_there, 10, .inl zm_there)), (am_ones, .inl (km_ones, 24, .inl zm_ones)), (am_others, .inl (km_others, 24, .inl zm_others))]) [3, 0, 1, 2] rfl
      have hD := hD.sub (ws' := [(am, .inr (5, [.int wm_thrown_16, .ref am_there, .ref am_ones, .ref am_others, .ref am_xs, .ref am_ys, .int zm_many, .ref am_a, .ref am_b, .ref am_from, .ref am_to, .ref am_way, .ref am_depth, .ref am_above, .ref am_pile, .ref am_next, .ref am_leader, .ref am_turned, .ref am_piece, .ref am_numbers, .ref am_row])), (am_there, .inl (km_there, 10, .inl zm_there)), (am_ones, .inl (km_ones, 24, .inl zm_ones)), (am_others, .inl (km_others, 24, .inl zm_others))]) [3, 0, 1, 2] (by decide) rfl
      exact W.iret (v := 0) hx hb hr (fun t ht hW => ⟨⟨0, (wm_thrown_16, zm_there, zm_ones), rfl, (Option.some.inj hI).symm, by rw [ht]; exact hP, va_K.moved hW.alike hK, hD⟩, hS.F ht⟩) hS.2.2 d_Mod_drop_23
  have hI : some R = (K_j14_6 (if r_3 = 0 then ((1 : Int32)) else ((0 : Int32)))) := by rw [hK_j14_6]; exact hI
  refine lv_if_ne (tgt := 13) hx hb d_Mod_drop_6 rfl (fun hc_6 => ?_) (fun hc_6 => ?_)
  · skip
    have hI := ob_elC (C := fun y_ => K_j14_6 y_) hc_6 hI
    refine lv_iconst (v := 0) hx hb d_Mod_drop_13 (by decide) ?_
    have hl := lv_sub hl [0, 1] rfl
    exact J_14_6 _ _ _ _ hI hP hD hS hl
  · skip
    have hI := ob_ifC (C := fun y_ => K_j14_6 y_) hc_6 hI
    refine lv_iconst (v := 1) hx hb d_Mod_drop_9 (by decide) ?_
    refine lv_goto (tgt := 14) hx hb d_Mod_drop_10 rfl ?_
    have hl := lv_sub hl [0, 1] rfl
    exact J_14_6 _ _ _ _ hI hP hD hS hl
set_option maxHeartbeats 4000000 in
set_option maxRecDepth 100000 in
theorem c_nodeBitsM (l : Launch) (dC : Nat → ClassId) (dI : Nat → Nat → Nat) (sz : Nat) (am am_there am_ones am_others am_xs am_ys am_a am_b am_from am_to am_way am_depth am_above am_pile am_next am_leader am_turned am_piece am_numbers am_row : Nat) (km_there : ClassId) (zm_thrown : Int32) (zm_many : Int32) (zm_there : Nat → Int32) (R : Int32) (hR : F_nodeBitsM zm_there = some R) : Met l y_Mod_nodeBits w_Mod_nodeBits ({ frames := 0, cells := 0, slots := 0, locals := 0 }) (Pre_ dC dI sz [.ref am] [(am, .inr (5, [.int zm_thrown, .ref am_there, .ref am_ones, .ref am_others, .ref am_xs, .ref am_ys, .int zm_many, .ref am_a, .ref am_b, .ref am_from, .ref am_to, .ref am_way, .ref am_depth, .ref am_above, .ref am_pile, .ref am_next, .ref am_leader, .ref am_turned, .ref am_piece, .ref am_numbers, .ref am_row])), (am_there, .inl (km_there, 10, .inl zm_there))] [(km_there, .boolean)]) (va_Qi (fun (r : Int32) (u : Unit) => r = R) (fun u t => End_ dC dI (va_A [(am, .inr (5, [.int zm_thrown, .ref am_there, .ref am_ones, .ref am_others, .ref am_xs, .ref am_ys, .int zm_many, .ref am_a, .ref am_b, .ref am_from, .ref am_to, .ref am_way, .ref am_depth, .ref am_above, .ref am_pile, .ref am_next, .ref am_leader, .ref am_turned, .ref am_piece, .ref am_numbers, .ref am_row])), (am_there, .inl (km_there, 10, .inl zm_there))] sz) [(km_there, .boolean)] [(am, .inr (5, [.int zm_thrown, .ref am_there, .ref am_ones, .ref am_others, .ref am_xs, .ref am_ys, .int zm_many, .ref am_a, .ref am_b, .ref am_from, .ref am_to, .ref am_way, .ref am_depth, .ref am_above, .ref am_pile, .ref am_next, .ref am_leader, .ref am_turned, .ref am_piece, .ref am_numbers, .ref am_row])), (am_there, .inl (km_there, 10, .inl zm_there))] t) (va_A [(am, .inr (5, [.int zm_thrown, .ref am_there, .ref am_ones, .ref am_others, .ref am_xs, .ref am_ys, .int zm_many, .ref am_a, .ref am_b, .ref am_from, .ref am_to, .ref am_way, .ref am_depth, .ref am_above, .ref am_pile, .ref am_next, .ref am_leader, .ref am_turned, .ref am_piece, .ref am_numbers, .ref am_row])), (am_there, .inl (km_there, 10, .inl zm_there))] sz)) 0 0 (va_A [(am, .inr (5, [.int zm_thrown, .ref am_there, .ref am_ones, .ref am_others, .ref am_xs, .ref am_ys, .int zm_many, .ref am_a, .ref am_b, .ref am_from, .ref am_to, .ref am_way, .ref am_depth, .ref am_above, .ref am_pile, .ref am_next, .ref am_leader, .ref am_turned, .ref am_piece, .ref am_numbers, .ref am_row])), (am_there, .inl (km_there, 10, .inl zm_there))] sz) := by
  refine Met.ofW (cc := b_Mod_nodeBits) (maxL := 3) (ret := (some .int)) (by decide) rfl ?_
  intro p e s m args below meth c s₁ B hml hv
  obtain ⟨hargs, hsz, hP, hK, hD0, hN⟩ := hv
  have hx := B.exec
  have hb := B.bytes
  have hr := B.returns
  have hts := atoms_spec (ws := w_Mod_nodeBits) B.pre
  have hown : s.vm.findClass R_Mod = some m.cls := findClass_of_methodNamed B.named
  have hlocks := B.notSynchronized
  subst hsz
  have hD := hD0.self (sz := s.heap.size)
  generalize hAe : va_A [(am, .inr (5, [.int zm_thrown, .ref am_there, .ref am_ones, .ref am_others, .ref am_xs, .ref am_ys, .int zm_many, .ref am_a, .ref am_b, .ref am_from, .ref am_to, .ref am_way, .ref am_depth, .ref am_above, .ref am_pile, .ref am_next, .ref am_leader, .ref am_turned, .ref am_piece, .ref am_numbers, .ref am_row])), (am_there, .inl (km_there, 10, .inl zm_there))] s.heap.size = A at hD ⊢
  have hA : ∀ q : Nat, s.heap.size ≤ q → A q := fun q h => by rw [← hAe]; exact Or.inr h
  have hS : va_S A s.heap s.heap [] := va_S.rf
  have hl := lv_entry ([.ref am]) (n := 3) (Nat.le_of_ble_eq_true rfl)
  refine W.eq (congrArg (fun a => entryFrame m a 3) hargs) ?_
  rw [lg_entry_eq]
  generalize (lg_sl ([.ref am]) ++ List.replicate (3 - (lg_sl ([.ref am])).length) Slot.unset).toArray = ls at hl ⊢
  have hl : lv_has ls 3 [(0, .ref am)] := hl
  generalize hH0 : ([] : List Loc) = locs at hS ⊢
  have hI := hR.symm
  rw [F_nodeBitsM] at hI
  refine lv_iconst (v := 0) hx hb d_Mod_nodeBits_0 (by decide) ?_
  refine lv_istore_n (lv' := [(1, .int 0), (0, .ref am)]) hx hb d_Mod_nodeBits_1 rfl hl (by decide) rfl (fun ls hl => ?_)
  refine lv_iconst (v := 0) hx hb d_Mod_nodeBits_2 (by decide) ?_
  refine lv_istore_n (lv' := [(2, .int 0), (1, .int 0), (0, .ref am)]) hx hb d_Mod_nodeBits_3 rfl hl (by decide) rfl (fun ls hl => ?_)
  obtain ⟨K_4, hK_4⟩ : ∃ K : Int32 → Option (Int32), K = (fun v1_4 => some (v1_4)) := ⟨_, rfl⟩
  have X_4 : ∀ (k_4 : Nat) (v1_4 : Int32) (H : Heap) (locs : List Loc) (ls : Array Slot), some R = K_4 v1_4 → va_P (dC, dI) classes [(am, .inr (5, [.int zm_thrown, .ref am_there, .ref am_ones, .ref am_others, .ref am_xs, .ref am_ys, .int zm_many, .ref am_a, .ref am_b, .ref am_from, .ref am_to, .ref am_way, .ref am_depth, .ref am_above, .ref am_pile, .ref am_next, .ref am_leader, .ref am_turned, .ref am_piece, .ref am_numbers, .ref am_row])), (am_there, .inl (km_there, 10, .inl zm_there))] H → va_D A [(am, .inr (5, [.int zm_thrown, .ref am_there, .ref am_ones, .ref am_others, .ref am_xs, .ref am_ys, .int zm_many, .ref am_a, .ref am_b, .ref am_from, .ref am_to, .ref am_way, .ref am_depth, .ref am_above, .ref am_pile, .ref am_next, .ref am_leader, .ref am_turned, .ref am_piece, .ref am_numbers, .ref am_row])), (am_there, .inl (km_there, 10, .inl zm_there))] → va_S A s.heap H locs → lv_has ls 3 [(0, .ref am), (1, .int v1_4), (2, .int (nI k_4))] → W p l e (headSpec w_Mod_nodeBits ({ frames := 0, cells := 0, slots := 0, locals := 0 })).room s m args below meth c H locs 0 0 (MQ below (va_Qi (fun (r : Int32) (u : Unit) => r = R) (fun u t => End_ dC dI A [(km_there, .boolean)] [(am, .inr (5, [.int zm_thrown, .ref am_there, .ref am_ones, .ref am_others, .ref am_xs, .ref am_ys, .int zm_many, .ref am_a, .ref am_b, .ref am_from, .ref am_to, .ref am_way, .ref am_depth, .ref am_above, .ref am_pile, .ref am_next, .ref am_leader, .ref am_turned, .ref am_piece, .ref am_numbers, .ref am_row])), (am_there, .inl (km_there, 10, .inl zm_there))] t) A) args s 0 0 A) (F0 m 35 ls []) := by
    intro k_4 v1_4 H locs ls hI hP hD hS hl
    rw [hK_4] at hI
    refine lv_iload_n hx hb d_Mod_nodeBits_35 rfl (lv_at hl 1 rfl) ?_
    exact W.iret (v := v1_4) hx hb hr (fun t ht hW => ⟨⟨v1_4, (), rfl, (Option.some.inj hI).symm, by rw [ht]; exact hP, va_K.moved hW.alike hK, hD⟩, hS.F ht⟩) hS.2.2 d_Mod_nodeBits_36
  have L_4 : ∀ (n_4 k_4 : Nat) (v1_4 : Int32) (H : Heap) (locs : List Loc) (ls : Array Slot), k_4 + n_4 = 10 → some R = F_nodeBitsM_L4 K_4 zm_there n_4 k_4 v1_4 → va_P (dC, dI) classes [(am, .inr (5, [.int zm_thrown, .ref am_there, .ref am_ones, .ref am_others, .ref am_xs, .ref am_ys, .int zm_many, .ref am_a, .ref am_b, .ref am_from, .ref am_to, .ref am_way, .ref am_depth, .ref am_above, .ref am_pile, .ref am_next, .ref am_leader, .ref am_turned, .ref am_piece, .ref am_numbers, .ref am_row])), (am_there, .inl (km_there, 10, .inl zm_there))] H → va_D A [(am, .inr (5, [.int zm_thrown, .ref am_there, .ref am_ones, .ref am_others, .ref am_xs, .ref am_ys, .int zm_many, .ref am_a, .ref am_b, .ref am_from, .ref am_to, .ref am_way, .ref am_depth, .ref am_above, .ref am_pile, .ref am_next, .ref am_leader, .ref am_turned, .ref am_piece, .ref am_numbers, .ref am_row])), (am_there, .inl (km_there, 10, .inl zm_there))] → va_S A s.heap H locs → lv_has ls 3 [(0, .ref am), (1, .int v1_4), (2, .int (nI k_4))] → W p l e (headSpec w_Mod_nodeBits ({ frames := 0, cells := 0, slots := 0, locals := 0 })).room s m args below meth c H locs 0 0 (MQ below (va_Qi (fun (r : Int32) (u : Unit) => r = R) (fun u t => End_ dC dI A [(km_there, .boolean)] [(am, .inr (5, [.int zm_thrown, .ref am_there, .ref am_ones, .ref am_others, .ref am_xs, .ref am_ys, .int zm_many, .ref am_a, .ref am_b, .ref am_from, .ref am_to, .ref am_way, .ref am_depth, .ref am_above, .ref am_pile, .ref am_next, .ref am_leader, .ref am_turned, .ref am_piece, .ref am_numbers, .ref am_row])), (am_there, .inl (km_there, 10, .inl zm_there))] t) A) args s 0 0 A) (F0 m 4 ls []) := by
    intro n_4
    induction n_4 with
    | zero =>
      intro k_4 v1_4 H locs ls hkn_4 hI hP hD hS hl
      rw [F_nodeBitsM_L4] at hI
      refine lv_iload_n hx hb d_Mod_nodeBits_4 rfl (lv_at hl 2 rfl) ?_
      refine lv_bipush (v := 10) hx hb d_Mod_nodeBits_5 (by decide) ?_
      refine lv_icmp_ge (tgt := 35) hx hb d_Mod_nodeBits_7 rfl (fun hc_7 => ?_) (fun hc_7 => absurd (z_exit rfl hkn_4) hc_7)
      have hl := lv_sub hl [0, 1, 2] rfl
      exact X_4 _ _ _ _ _ hI hP hD hS hl
    | succ n_4 ih_4 =>
      intro k_4 v1_4 H locs ls hkn_4 hI hP hD hS hl
      rw [F_nodeBitsM_L4] at hI
      refine lv_iload_n hx hb d_Mod_nodeBits_4 rfl (lv_at hl 2 rfl) ?_
      refine lv_bipush (v := 10) hx hb d_Mod_nodeBits_5 (by decide) ?_
      refine lv_icmp_ge (tgt := 35) hx hb d_Mod_nodeBits_7 rfl (fun hc_7 => absurd hc_7 (z_stay rfl hkn_4 (by decide))) (fun hc_7 => ?_)
      refine lv_aload_n hx hb d_Mod_nodeBits_10 rfl (lv_at hl 0 rfl) ?_
      refine va_get (D := (dC, dI)) (ci := 5) (v := .ref am_there) (C := R_Mod) (T := F_Mod) (N := 21) hx hb hts (fun w h => List.mem_cons_of_mem _ (in_Mod w h)) hown hK hP 0 rfl rfl 1 (by decide) (hts _ (List.mem_cons_of_mem _ mw_3_157)) (fun _ h9 => h9) rfl d_Mod_nodeBits_11 ?_
      refine lv_iload_n hx hb d_Mod_nodeBits_14 rfl (lv_at hl 2 rfl) ?_
      refine va_zald (D := (dC, dI)) hx hb hK hP 1 0 rfl rfl (vp_in_nI (by omega) (by decide)) d_Mod_nodeBits_15 ?_
      refine lv_topi (fun y_15 e_15 => ?_)
      obtain rfl : y_15 = zm_there k_4 := e_15.trans (by rw [nI_clamp (by omega)])
      refine lv_if_eq (tgt := 27) hx hb d_Mod_nodeBits_16 rfl (fun hc_16 => ?_) (fun hc_16 => ?_)
      · skip
        have hI := hI.trans (if_pos hc_16)
        refine lv_iload_n hx hb d_Mod_nodeBits_27 rfl (lv_at hl 1 rfl) ?_
        refine lv_istore_n (lv' := [(1, .int v1_4), (0, .ref am), (2, .int (nI k_4))]) hx hb d_Mod_nodeBits_28 rfl hl (by decide) rfl (fun ls hl => ?_)
        refine lv_iinc (lv' := [(2, .int (nI (k_4 + 1))), (1, .int v1_4), (0, .ref am)]) (k := 2) hx hb d_Mod_nodeBits_29 hl rfl (z_inc _) (by decide) rfl (fun ls hl => ?_)
        refine lv_goto (tgt := 4) hx hb d_Mod_nodeBits_32 rfl ?_
        have hl := lv_sub hl [2, 1, 0] rfl
        exact ih_4 _ _ _ _ _ (by omega) hI hP hD hS hl
      · skip
        have hI := hI.trans (if_neg hc_16)
        refine lv_iload_n hx hb d_Mod_nodeBits_19 rfl (lv_at hl 1 rfl) ?_
        refine lv_iconst (v := 1) hx hb d_Mod_nodeBits_20 (by decide) ?_
        refine lv_iload_n hx hb d_Mod_nodeBits_21 rfl (lv_at hl 2 rfl) ?_
        refine lv_ishl hx hb d_Mod_nodeBits_22 ?_
        refine lv_ior hx hb d_Mod_nodeBits_23 ?_
        refine lv_goto (tgt := 28) hx hb d_Mod_nodeBits_24 rfl ?_
        refine lv_istore_n (lv' := [(1, .int (v1_4 ||| (((1 : Int32)) <<< ((nI k_4) &&& 31)))), (0, .ref am), (2, .int (nI k_4))]) hx hb d_Mod_nodeBits_28 rfl hl (by decide) rfl (fun ls hl => ?_)
        refine lv_iinc (lv' := [(2, .int (nI (k_4 + 1))), (1, .int (v1_4 ||| (((1 : Int32)) <<< ((nI k_4) &&& 31)))), (0, .ref am)]) (k := 2) hx hb d_Mod_nodeBits_29 hl rfl (z_inc _) (by decide) rfl (fun ls hl => ?_)
        refine lv_goto (tgt := 4) hx hb d_Mod_nodeBits_32 rfl ?_
        have hl := lv_sub hl [2, 1, 0] rfl
        exact ih_4 _ _ _ _ _ (by omega) hI hP hD hS hl
  have hl : lv_has ls 3 [(0, .ref am), (1, .int 0), (2, .int (nI 0))] := by first | exact lv_sub hl [2, 1, 0] rfl | (rw [nI_succ]; exact lv_sub hl [2, 1, 0] rfl)
  exact L_4 10 0 _ _ _ _ (by omega) (by rw [hK_4]; exact hI) hP hD hS hl
set_option maxHeartbeats 4000000 in
set_option maxRecDepth 100000 in
theorem c_lineBitsM (l : Launch) (dC : Nat → ClassId) (dI : Nat → Nat → Nat) (sz : Nat) (am am_there am_ones am_others am_xs am_ys am_a am_b am_from am_to am_way am_depth am_above am_pile am_next am_leader am_turned am_piece am_numbers am_row : Nat) (km_ones : ClassId) (zm_thrown : Int32) (zm_many : Int32) (zm_ones : Nat → Int32) (R : Int32) (hR : F_lineBitsM zm_ones = some R) : Met l y_Mod_lineBits w_Mod_lineBits ({ frames := 0, cells := 0, slots := 0, locals := 0 }) (Pre_ dC dI sz [.ref am] [(am, .inr (5, [.int zm_thrown, .ref am_there, .ref am_ones, .ref am_others, .ref am_xs, .ref am_ys, .int zm_many, .ref am_a, .ref am_b, .ref am_from, .ref am_to, .ref am_way, .ref am_depth, .ref am_above, .ref am_pile, .ref am_next, .ref am_leader, .ref am_turned, .ref am_piece, .ref am_numbers, .ref am_row])), (am_ones, .inl (km_ones, 24, .inl zm_ones))] [(km_ones, .int)]) (va_Qi (fun (r : Int32) (u : Unit) => r = R) (fun u t => End_ dC dI (va_A [(am, .inr (5, [.int zm_thrown, .ref am_there, .ref am_ones, .ref am_others, .ref am_xs, .ref am_ys, .int zm_many, .ref am_a, .ref am_b, .ref am_from, .ref am_to, .ref am_way, .ref am_depth, .ref am_above, .ref am_pile, .ref am_next, .ref am_leader, .ref am_turned, .ref am_piece, .ref am_numbers, .ref am_row])), (am_ones, .inl (km_ones, 24, .inl zm_ones))] sz) [(km_ones, .int)] [(am, .inr (5, [.int zm_thrown, .ref am_there, .ref am_ones, .ref am_others, .ref am_xs, .ref am_ys, .int zm_many, .ref am_a, .ref am_b, .ref am_from, .ref am_to, .ref am_way, .ref am_depth, .ref am_above, .ref am_pile, .ref am_next, .ref am_leader, .ref am_turned, .ref am_piece, .ref am_numbers, .ref am_row])), (am_ones, .inl (km_ones, 24, .inl zm_ones))] t) (va_A [(am, .inr (5, [.int zm_thrown, .ref am_there, .ref am_ones, .ref am_others, .ref am_xs, .ref am_ys, .int zm_many, .ref am_a, .ref am_b, .ref am_from, .ref am_to, .ref am_way, .ref am_depth, .ref am_above, .ref am_pile, .ref am_next, .ref am_leader, .ref am_turned, .ref am_piece, .ref am_numbers, .ref am_row])), (am_ones, .inl (km_ones, 24, .inl zm_ones))] sz)) 0 0 (va_A [(am, .inr (5, [.int zm_thrown, .ref am_there, .ref am_ones, .ref am_others, .ref am_xs, .ref am_ys, .int zm_many, .ref am_a, .ref am_b, .ref am_from, .ref am_to, .ref am_way, .ref am_depth, .ref am_above, .ref am_pile, .ref am_next, .ref am_leader, .ref am_turned, .ref am_piece, .ref am_numbers, .ref am_row])), (am_ones, .inl (km_ones, 24, .inl zm_ones))] sz) := by
  refine Met.ofW (cc := b_Mod_lineBits) (maxL := 3) (ret := (some .int)) (by decide) rfl ?_
  intro p e s m args below meth c s₁ B hml hv
  obtain ⟨hargs, hsz, hP, hK, hD0, hN⟩ := hv
  have hx := B.exec
  have hb := B.bytes
  have hr := B.returns
  have hts := atoms_spec (ws := w_Mod_lineBits) B.pre
  have hown : s.vm.findClass R_Mod = some m.cls := findClass_of_methodNamed B.named
  have hlocks := B.notSynchronized
  subst hsz
  have hD := hD0.self (sz := s.heap.size)
  generalize hAe : va_A [(am, .inr (5, [.int zm_thrown, .ref am_there, .ref am_ones, .ref am_others, .ref am_xs, .ref am_ys, .int zm_many, .ref am_a, .ref am_b, .ref am_from, .ref am_to, .ref am_way, .ref am_depth, .ref am_above, .ref am_pile, .ref am_next, .ref am_leader, .ref am_turned, .ref am_piece, .ref am_numbers, .ref am_row])), (am_ones, .inl (km_ones, 24, .inl zm_ones))] s.heap.size = A at hD ⊢
  have hA : ∀ q : Nat, s.heap.size ≤ q → A q := fun q h => by rw [← hAe]; exact Or.inr h
  have hS : va_S A s.heap s.heap [] := va_S.rf
  have hl := lv_entry ([.ref am]) (n := 3) (Nat.le_of_ble_eq_true rfl)
  refine W.eq (congrArg (fun a => entryFrame m a 3) hargs) ?_
  rw [lg_entry_eq]
  generalize (lg_sl ([.ref am]) ++ List.replicate (3 - (lg_sl ([.ref am])).length) Slot.unset).toArray = ls at hl ⊢
  have hl : lv_has ls 3 [(0, .ref am)] := hl
  generalize hH0 : ([] : List Loc) = locs at hS ⊢
  have hI := hR.symm
  rw [F_lineBitsM] at hI
  refine lv_iconst (v := 0) hx hb d_Mod_lineBits_0 (by decide) ?_
  refine lv_istore_n (lv' := [(1, .int 0), (0, .ref am)]) hx hb d_Mod_lineBits_1 rfl hl (by decide) rfl (fun ls hl => ?_)
  refine lv_iconst (v := 0) hx hb d_Mod_lineBits_2 (by decide) ?_
  refine lv_istore_n (lv' := [(2, .int 0), (1, .int 0), (0, .ref am)]) hx hb d_Mod_lineBits_3 rfl hl (by decide) rfl (fun ls hl => ?_)
  obtain ⟨K_4, hK_4⟩ : ∃ K : Int32 → Option (Int32), K = (fun v1_4 => some (v1_4)) := ⟨_, rfl⟩
  have X_4 : ∀ (k_4 : Nat) (v1_4 : Int32) (H : Heap) (locs : List Loc) (ls : Array Slot), some R = K_4 v1_4 → va_P (dC, dI) classes [(am, .inr (5, [.int zm_thrown, .ref am_there, .ref am_ones, .ref am_others, .ref am_xs, .ref am_ys, .int zm_many, .ref am_a, .ref am_b, .ref am_from, .ref am_to, .ref am_way, .ref am_depth, .ref am_above, .ref am_pile, .ref am_next, .ref am_leader, .ref am_turned, .ref am_piece, .ref am_numbers, .ref am_row])), (am_ones, .inl (km_ones, 24, .inl zm_ones))] H → va_D A [(am, .inr (5, [.int zm_thrown, .ref am_there, .ref am_ones, .ref am_others, .ref am_xs, .ref am_ys, .int zm_many, .ref am_a, .ref am_b, .ref am_from, .ref am_to, .ref am_way, .ref am_depth, .ref am_above, .ref am_pile, .ref am_next, .ref am_leader, .ref am_turned, .ref am_piece, .ref am_numbers, .ref am_row])), (am_ones, .inl (km_ones, 24, .inl zm_ones))] → va_S A s.heap H locs → lv_has ls 3 [(0, .ref am), (1, .int v1_4), (2, .int (nI k_4))] → W p l e (headSpec w_Mod_lineBits ({ frames := 0, cells := 0, slots := 0, locals := 0 })).room s m args below meth c H locs 0 0 (MQ below (va_Qi (fun (r : Int32) (u : Unit) => r = R) (fun u t => End_ dC dI A [(km_ones, .int)] [(am, .inr (5, [.int zm_thrown, .ref am_there, .ref am_ones, .ref am_others, .ref am_xs, .ref am_ys, .int zm_many, .ref am_a, .ref am_b, .ref am_from, .ref am_to, .ref am_way, .ref am_depth, .ref am_above, .ref am_pile, .ref am_next, .ref am_leader, .ref am_turned, .ref am_piece, .ref am_numbers, .ref am_row])), (am_ones, .inl (km_ones, 24, .inl zm_ones))] t) A) args s 0 0 A) (F0 m 35 ls []) := by
    intro k_4 v1_4 H locs ls hI hP hD hS hl
    rw [hK_4] at hI
    refine lv_iload_n hx hb d_Mod_lineBits_35 rfl (lv_at hl 1 rfl) ?_
    exact W.iret (v := v1_4) hx hb hr (fun t ht hW => ⟨⟨v1_4, (), rfl, (Option.some.inj hI).symm, by rw [ht]; exact hP, va_K.moved hW.alike hK, hD⟩, hS.F ht⟩) hS.2.2 d_Mod_lineBits_36
  have L_4 : ∀ (n_4 k_4 : Nat) (v1_4 : Int32) (H : Heap) (locs : List Loc) (ls : Array Slot), k_4 + n_4 = 24 → some R = F_lineBitsM_L4 K_4 zm_ones n_4 k_4 v1_4 → va_P (dC, dI) classes [(am, .inr (5, [.int zm_thrown, .ref am_there, .ref am_ones, .ref am_others, .ref am_xs, .ref am_ys, .int zm_many, .ref am_a, .ref am_b, .ref am_from, .ref am_to, .ref am_way, .ref am_depth, .ref am_above, .ref am_pile, .ref am_next, .ref am_leader, .ref am_turned, .ref am_piece, .ref am_numbers, .ref am_row])), (am_ones, .inl (km_ones, 24, .inl zm_ones))] H → va_D A [(am, .inr (5, [.int zm_thrown, .ref am_there, .ref am_ones, .ref am_others, .ref am_xs, .ref am_ys, .int zm_many, .ref am_a, .ref am_b, .ref am_from, .ref am_to, .ref am_way, .ref am_depth, .ref am_above, .ref am_pile, .ref am_next, .ref am_leader, .ref am_turned, .ref am_piece, .ref am_numbers, .ref am_row])), (am_ones, .inl (km_ones, 24, .inl zm_ones))] → va_S A s.heap H locs → lv_has ls 3 [(0, .ref am), (1, .int v1_4), (2, .int (nI k_4))] → W p l e (headSpec w_Mod_lineBits ({ frames := 0, cells := 0, slots := 0, locals := 0 })).room s m args below meth c H locs 0 0 (MQ below (va_Qi (fun (r : Int32) (u : Unit) => r = R) (fun u t => End_ dC dI A [(km_ones, .int)] [(am, .inr (5, [.int zm_thrown, .ref am_there, .ref am_ones, .ref am_others, .ref am_xs, .ref am_ys, .int zm_many, .ref am_a, .ref am_b, .ref am_from, .ref am_to, .ref am_way, .ref am_depth, .ref am_above, .ref am_pile, .ref am_next, .ref am_leader, .ref am_turned, .ref am_piece, .ref am_numbers, .ref am_row])), (am_ones, .inl (km_ones, 24, .inl zm_ones))] t) A) args s 0 0 A) (F0 m 4 ls []) := by
    intro n_4
    induction n_4 with
    | zero =>
      intro k_4 v1_4 H locs ls hkn_4 hI hP hD hS hl
      rw [F_lineBitsM_L4] at hI
      refine lv_iload_n hx hb d_Mod_lineBits_4 rfl (lv_at hl 2 rfl) ?_
      refine lv_bipush (v := 24) hx hb d_Mod_lineBits_5 (by decide) ?_
      refine lv_icmp_ge (tgt := 35) hx hb d_Mod_lineBits_7 rfl (fun hc_7 => ?_) (fun hc_7 => absurd (z_exit rfl hkn_4) hc_7)
      have hl := lv_sub hl [0, 1, 2] rfl
      exact X_4 _ _ _ _ _ hI hP hD hS hl
    | succ n_4 ih_4 =>
      intro k_4 v1_4 H locs ls hkn_4 hI hP hD hS hl
      rw [F_lineBitsM_L4] at hI
      refine lv_iload_n hx hb d_Mod_lineBits_4 rfl (lv_at hl 2 rfl) ?_
      refine lv_bipush (v := 24) hx hb d_Mod_lineBits_5 (by decide) ?_
      refine lv_icmp_ge (tgt := 35) hx hb d_Mod_lineBits_7 rfl (fun hc_7 => absurd hc_7 (z_stay rfl hkn_4 (by decide))) (fun hc_7 => ?_)
      refine lv_aload_n hx hb d_Mod_lineBits_10 rfl (lv_at hl 0 rfl) ?_
      refine va_get (D := (dC, dI)) (ci := 5) (v := .ref am_ones) (C := R_Mod) (T := F_Mod) (N := 21) hx hb hts (fun w h => List.mem_cons_of_mem _ (in_Mod w h)) hown hK hP 0 rfl rfl 2 (by decide) (hts _ (List.mem_cons_of_mem _ mw_3_158)) (fun _ h9 => h9) rfl d_Mod_lineBits_11 ?_
      refine lv_iload_n hx hb d_Mod_lineBits_14 rfl (lv_at hl 2 rfl) ?_
      refine va_iald (D := (dC, dI)) hx hb hK hP 1 0 rfl rfl (vp_in_nI (by omega) (by decide)) d_Mod_lineBits_15 ?_
      refine lv_topi (fun y_15 e_15 => ?_)
      obtain rfl : y_15 = zm_ones k_4 := e_15.trans (by rw [nI_clamp (by omega)])
      refine lv_if_lt (tgt := 27) hx hb d_Mod_lineBits_16 rfl (fun hc_16 => ?_) (fun hc_16 => ?_)
      · skip
        have hI := hI.trans (if_pos hc_16)
        refine lv_iload_n hx hb d_Mod_lineBits_27 rfl (lv_at hl 1 rfl) ?_
        refine lv_istore_n (lv' := [(1, .int v1_4), (0, .ref am), (2, .int (nI k_4))]) hx hb d_Mod_lineBits_28 rfl hl (by decide) rfl (fun ls hl => ?_)
        refine lv_iinc (lv' := [(2, .int (nI (k_4 + 1))), (1, .int v1_4), (0, .ref am)]) (k := 2) hx hb d_Mod_lineBits_29 hl rfl (z_inc _) (by decide) rfl (fun ls hl => ?_)
        refine lv_goto (tgt := 4) hx hb d_Mod_lineBits_32 rfl ?_
        have hl := lv_sub hl [2, 1, 0] rfl
        exact ih_4 _ _ _ _ _ (by omega) hI hP hD hS hl
      · skip
        have hI := hI.trans (if_neg hc_16)
        refine lv_iload_n hx hb d_Mod_lineBits_19 rfl (lv_at hl 1 rfl) ?_
        refine lv_iconst (v := 1) hx hb d_Mod_lineBits_20 (by decide) ?_
        refine lv_iload_n hx hb d_Mod_lineBits_21 rfl (lv_at hl 2 rfl) ?_
        refine lv_ishl hx hb d_Mod_lineBits_22 ?_
        refine lv_ior hx hb d_Mod_lineBits_23 ?_
        refine lv_goto (tgt := 28) hx hb d_Mod_lineBits_24 rfl ?_
        refine lv_istore_n (lv' := [(1, .int (v1_4 ||| (((1 : Int32)) <<< ((nI k_4) &&& 31)))), (0, .ref am), (2, .int (nI k_4))]) hx hb d_Mod_lineBits_28 rfl hl (by decide) rfl (fun ls hl => ?_)
        refine lv_iinc (lv' := [(2, .int (nI (k_4 + 1))), (1, .int (v1_4 ||| (((1 : Int32)) <<< ((nI k_4) &&& 31)))), (0, .ref am)]) (k := 2) hx hb d_Mod_lineBits_29 hl rfl (z_inc _) (by decide) rfl (fun ls hl => ?_)
        refine lv_goto (tgt := 4) hx hb d_Mod_lineBits_32 rfl ?_
        have hl := lv_sub hl [2, 1, 0] rfl
        exact ih_4 _ _ _ _ _ (by omega) hI hP hD hS hl
  have hl : lv_has ls 3 [(0, .ref am), (1, .int 0), (2, .int (nI 0))] := by first | exact lv_sub hl [2, 1, 0] rfl | (rw [nI_succ]; exact lv_sub hl [2, 1, 0] rfl)
  exact L_4 24 0 _ _ _ _ (by omega) (by rw [hK_4]; exact hI) hP hD hS hl
set_option maxHeartbeats 4000000 in
set_option maxRecDepth 100000 in
theorem c_nodesM (l : Launch) (dC : Nat → ClassId) (dI : Nat → Nat → Nat) (sz : Nat) (am am_there am_ones am_others am_xs am_ys am_a am_b am_from am_to am_way am_depth am_above am_pile am_next am_leader am_turned am_piece am_numbers am_row : Nat) (km_there : ClassId) (zm_thrown : Int32) (zm_many : Int32) (zm_there : Nat → Int32) (R : Int32 × Int32) (hR : F_nodesM zm_there = some R) : Met l y_Mod_nodes w_Mod_nodes ({ frames := 1, cells := 0, slots := 0, locals := 22 }) (Pre_ dC dI sz [.ref am] [(am, .inr (5, [.int zm_thrown, .ref am_there, .ref am_ones, .ref am_others, .ref am_xs, .ref am_ys, .int zm_many, .ref am_a, .ref am_b, .ref am_from, .ref am_to, .ref am_way, .ref am_depth, .ref am_above, .ref am_pile, .ref am_next, .ref am_leader, .ref am_turned, .ref am_piece, .ref am_numbers, .ref am_row])), (am_there, .inl (km_there, 10, .inl zm_there))] [(km_there, .boolean)]) (va_Qi (fun (r : Int32) (u : Int32) => (r, u) = R) (fun u t => End_ dC dI (va_A [(am, .inr (5, [.int zm_thrown, .ref am_there, .ref am_ones, .ref am_others, .ref am_xs, .ref am_ys, .int zm_many, .ref am_a, .ref am_b, .ref am_from, .ref am_to, .ref am_way, .ref am_depth, .ref am_above, .ref am_pile, .ref am_next, .ref am_leader, .ref am_turned, .ref am_piece, .ref am_numbers, .ref am_row])), (am_there, .inl (km_there, 10, .inl zm_there))] sz) [(km_there, .boolean)] [(am, .inr (5, [.int u, .ref am_there, .ref am_ones, .ref am_others, .ref am_xs, .ref am_ys, .int zm_many, .ref am_a, .ref am_b, .ref am_from, .ref am_to, .ref am_way, .ref am_depth, .ref am_above, .ref am_pile, .ref am_next, .ref am_leader, .ref am_turned, .ref am_piece, .ref am_numbers, .ref am_row])), (am_there, .inl (km_there, 10, .inl zm_there))] t) (va_A [(am, .inr (5, [.int zm_thrown, .ref am_there, .ref am_ones, .ref am_others, .ref am_xs, .ref am_ys, .int zm_many, .ref am_a, .ref am_b, .ref am_from, .ref am_to, .ref am_way, .ref am_depth, .ref am_above, .ref am_pile, .ref am_next, .ref am_leader, .ref am_turned, .ref am_piece, .ref am_numbers, .ref am_row])), (am_there, .inl (km_there, 10, .inl zm_there))] sz)) 0 0 (va_A [(am, .inr (5, [.int zm_thrown, .ref am_there, .ref am_ones, .ref am_others, .ref am_xs, .ref am_ys, .int zm_many, .ref am_a, .ref am_b, .ref am_from, .ref am_to, .ref am_way, .ref am_depth, .ref am_above, .ref am_pile, .ref am_next, .ref am_leader, .ref am_turned, .ref am_piece, .ref am_numbers, .ref am_row])), (am_there, .inl (km_there, 10, .inl zm_there))] sz) := by
  refine Met.ofW (cc := b_Mod_nodes) (maxL := 1) (ret := (some .int)) (by decide) rfl ?_
  intro p e s m args below meth c s₁ B hml hv
  obtain ⟨hargs, hsz, hP, hK, hD0, hN⟩ := hv
  have hx := B.exec
  have hb := B.bytes
  have hr := B.returns
  have hts := atoms_spec (ws := w_Mod_nodes) B.pre
  have hown : s.vm.findClass R_Mod = some m.cls := findClass_of_methodNamed B.named
  have hlocks := B.notSynchronized
  subst hsz
  have hD := hD0.self (sz := s.heap.size)
  generalize hAe : va_A [(am, .inr (5, [.int zm_thrown, .ref am_there, .ref am_ones, .ref am_others, .ref am_xs, .ref am_ys, .int zm_many, .ref am_a, .ref am_b, .ref am_from, .ref am_to, .ref am_way, .ref am_depth, .ref am_above, .ref am_pile, .ref am_next, .ref am_leader, .ref am_turned, .ref am_piece, .ref am_numbers, .ref am_row])), (am_there, .inl (km_there, 10, .inl zm_there))] s.heap.size = A at hD ⊢
  have hA : ∀ q : Nat, s.heap.size ≤ q → A q := fun q h => by rw [← hAe]; exact Or.inr h
  have hS : va_S A s.heap s.heap [] := va_S.rf
  have hl := lv_entry ([.ref am]) (n := 1) (Nat.le_of_ble_eq_true rfl)
  refine W.eq (congrArg (fun a => entryFrame m a 1) hargs) ?_
  rw [lg_entry_eq]
  generalize (lg_sl ([.ref am]) ++ List.replicate (1 - (lg_sl ([.ref am])).length) Slot.unset).toArray = ls at hl ⊢
  have hl : lv_has ls 1 [(0, .ref am)] := hl
  generalize hH0 : ([] : List Loc) = locs at hS ⊢
  have hI := hR.symm
  rw [F_nodesM] at hI
  refine lv_aload_n hx hb d_Mod_nodes_0 rfl (lv_at hl 0 rfl) ?_
  refine lv_iconst (v := 0) hx hb d_Mod_nodes_1 (by decide) ?_
  refine va_put (D := (dC, dI)) (ci := 5) (v := .int 0) (ty := .int) (C := R_Mod) (T := F_Mod) (N := 21) hx hb hts (fun w h => List.mem_cons_of_mem _ (in_Mod w h)) t_Mod t_Mod_ok n_Mod hown hK hP hD hS 0 rfl rfl 0 (by decide) (hts _ (List.mem_cons_of_mem _ mw_3_156)) (fun _ h9 => h9) rfl (by decide +kernel) rfl rfl (Nat.le_of_ble_eq_true rfl) d_Mod_nodes_2 (fun H locs hP hD hS => ?_)
  have hP : va_P (dC, dI) classes [(am, .inr (5, [.int 0, .ref am_there, .ref am_ones, .ref am_others, .ref am_xs, .ref am_ys, .int zm_many, .ref am_a, .ref am_b, .ref am_from, .ref am_to, .ref am_way, .ref am_depth, .ref am_above, .ref am_pile, .ref am_next, .ref am_leader, .ref am_turned, .ref am_piece, .ref am_numbers, .ref am_row])), (am_there, .inl (km_there, 10, .inl zm_there))] H := hP
  have hD : va_D A [(am, .inr (5, [.int 0, .ref am_there, .ref am_ones, .ref am_others, .ref am_xs, .ref am_ys, .int zm_many, .ref am_a, .ref am_b, .ref am_from, .ref am_to, .ref am_way, .ref am_depth, .ref am_above, .ref am_pile, .ref am_next, .ref am_leader, .ref am_turned, .ref am_piece, .ref am_numbers, .ref am_row])), (am_there, .inl (km_there, 10, .inl zm_there))] := hD
  refine lv_aload_n hx hb d_Mod_nodes_5 rfl (lv_at hl 0 rfl) ?_
  obtain ⟨p_6, hg_6, hI⟩ := ob_bd hI
  have hPc := hP.sub (ws' := [(am, .inr (5, [.int 0, .ref am_there, .ref am_ones, .ref am_others, .ref am_xs, .ref am_ys, .int zm_many, .ref am_a, .ref am_b, .ref am_from, .ref am_to, .ref am_way, .ref am_depth, .ref am_above, .ref am_pile, .ref am_next, .ref am_leader, .ref am_turned, .ref am_piece, .ref am_numbers, .ref am_row])), (am_there, .inl (km_there, 10, .inl zm_there))]) [0, 1] rfl
  have hDc := hD.sub (ws' := [(am, .inr (5, [.int 0, .ref am_there, .ref am_ones, .ref am_others, .ref am_xs, .ref am_ys, .int zm_many, .ref am_a, .ref am_b, .ref am_from, .ref am_to, .ref am_way, .ref am_depth, .ref am_above, .ref am_pile, .ref am_next, .ref am_leader, .ref am_turned, .ref am_piece, .ref am_numbers, .ref am_row])), (am_there, .inl (km_there, 10, .inl zm_there))]) [0, 1] (by decide) rfl
  have hKc := hK.sub (tys' := [(km_there, .boolean)]) [0] rfl
  have hFc := va_free (wc := [(am, .inr (5, [.int 0, .ref am_there, .ref am_ones, .ref am_others, .ref am_xs, .ref am_ys, .int zm_many, .ref am_a, .ref am_b, .ref am_from, .ref am_to, .ref am_way, .ref am_depth, .ref am_above, .ref am_pile, .ref am_next, .ref am_leader, .ref am_turned, .ref am_piece, .ref am_numbers, .ref am_row])), (am_there, .inl (km_there, 10, .inl zm_there))]) hD hS hA [0, 1] rfl
  refine va_calli (va_runV (As := []) (rest := []) ⟨hx, hb, hml, hown, hts⟩ (c_nodeBitsM l dC dI H.size am am_there am_ones am_others am_xs am_ys am_a am_b am_from am_to am_way am_depth am_above am_pile am_next am_leader am_turned am_piece am_numbers am_row km_there 0 zm_many zm_there p_6 hg_6) (cwV 0 hts (gi4 mw_4_36 mw_4_38 mw_p_37 mw_1_6 mw_4_39) rfl rfl rfl (by decide +kernel) ⟨Nat.le_of_ble_eq_true rfl, Nat.le_of_ble_eq_true rfl⟩) ⟨fb_, va_recv (q0 := 0) (ci := 5) hK hP rfl rfl, pre_ hPc hKc hDc hN⟩ rfl rfl hl.1 rfl (lv_room (Nat.le_of_ble_eq_true rfl)) d_Mod_nodes_6 ⟨Nat.le_of_ble_eq_true rfl, Nat.le_of_ble_eq_true rfl⟩) hS (fun q _ h => hFc q h) hFc (fun r_6 u t H locs ht hvm hp_6 hB hz1 hk1 hS => ?_)
  obtain ⟨hP1, -, hD1⟩ := hB
  rw [ht] at hP1
  obtain ⟨hP, hD⟩ := va_join (wr := []) (w1 := [(am, .inr (5, [.int 0, .ref am_there, .ref am_ones, .ref am_others, .ref am_xs, .ref am_ys, .int zm_many, .ref am_a, .ref am_b, .ref am_from, .ref am_to, .ref am_way, .ref am_depth, .ref am_above, .ref am_pile, .ref am_next, .ref am_leader, .ref am_turned, .ref am_piece, .ref am_numbers, .ref am_row])), (am_there, .inl (km_there, 10, .inl zm_there))]) hP hD [0, 1] [] rfl rfl (by decide) (by decide) hk1 hFc hP1 hD1
  have hp_6 : (r_6) = p_6 := hp_6
  subst hp_6
  have hP : va_P (dC, dI) classes [(am, .inr (5, [.int 0, .ref am_there, .ref am_ones, .ref am_others, .ref am_xs, .ref am_ys, .int zm_many, .ref am_a, .ref am_b, .ref am_from, .ref am_to, .ref am_way, .ref am_depth, .ref am_above, .ref am_pile, .ref am_next, .ref am_leader, .ref am_turned, .ref am_piece, .ref am_numbers, .ref am_row])), (am_there, .inl (km_there, 10, .inl zm_there))] H := hP
  have hD : va_D A [(am, .inr (5, [.int 0, .ref am_there, .ref am_ones, .ref am_others, .ref am_xs, .ref am_ys, .int zm_many, .ref am_a, .ref am_b, .ref am_from, .ref am_to, .ref am_way, .ref am_depth, .ref am_above, .ref am_pile, .ref am_next, .ref am_leader, .ref am_turned, .ref am_piece, .ref am_numbers, .ref am_row])), (am_there, .inl (km_there, 10, .inl zm_there))] := hD
  exact W.iret (v := r_6) hx hb hr (fun t ht hW => ⟨⟨r_6, (0), rfl, (Option.some.inj hI).symm, by rw [ht]; exact hP, va_K.moved hW.alike hK, hD⟩, hS.F ht⟩) hS.2.2 d_Mod_nodes_9
set_option maxHeartbeats 4000000 in
set_option maxRecDepth 100000 in
theorem c_linesM (l : Launch) (dC : Nat → ClassId) (dI : Nat → Nat → Nat) (sz : Nat) (am am_there am_ones am_others am_xs am_ys am_a am_b am_from am_to am_way am_depth am_above am_pile am_next am_leader am_turned am_piece am_numbers am_row : Nat) (km_ones : ClassId) (zm_thrown : Int32) (zm_many : Int32) (zm_ones : Nat → Int32) (R : Int32 × Int32) (hR : F_linesM zm_ones = some R) : Met l y_Mod_lines w_Mod_lines ({ frames := 1, cells := 0, slots := 0, locals := 22 }) (Pre_ dC dI sz [.ref am] [(am, .inr (5, [.int zm_thrown, .ref am_there, .ref am_ones, .ref am_others, .ref am_xs, .ref am_ys, .int zm_many, .ref am_a, .ref am_b, .ref am_from, .ref am_to, .ref am_way, .ref am_depth, .ref am_above, .ref am_pile, .ref am_next, .ref am_leader, .ref am_turned, .ref am_piece, .ref am_numbers, .ref am_row])), (am_ones, .inl (km_ones, 24, .inl zm_ones))] [(km_ones, .int)]) (va_Qi (fun (r : Int32) (u : Int32) => (r, u) = R) (fun u t => End_ dC dI (va_A [(am, .inr (5, [.int zm_thrown, .ref am_there, .ref am_ones, .ref am_others, .ref am_xs, .ref am_ys, .int zm_many, .ref am_a, .ref am_b, .ref am_from, .ref am_to, .ref am_way, .ref am_depth, .ref am_above, .ref am_pile, .ref am_next, .ref am_leader, .ref am_turned, .ref am_piece, .ref am_numbers, .ref am_row])), (am_ones, .inl (km_ones, 24, .inl zm_ones))] sz) [(km_ones, .int)] [(am, .inr (5, [.int u, .ref am_there, .ref am_ones, .ref am_others, .ref am_xs, .ref am_ys, .int zm_many, .ref am_a, .ref am_b, .ref am_from, .ref am_to, .ref am_way, .ref am_depth, .ref am_above, .ref am_pile, .ref am_next, .ref am_leader, .ref am_turned, .ref am_piece, .ref am_numbers, .ref am_row])), (am_ones, .inl (km_ones, 24, .inl zm_ones))] t) (va_A [(am, .inr (5, [.int zm_thrown, .ref am_there, .ref am_ones, .ref am_others, .ref am_xs, .ref am_ys, .int zm_many, .ref am_a, .ref am_b, .ref am_from, .ref am_to, .ref am_way, .ref am_depth, .ref am_above, .ref am_pile, .ref am_next, .ref am_leader, .ref am_turned, .ref am_piece, .ref am_numbers, .ref am_row])), (am_ones, .inl (km_ones, 24, .inl zm_ones))] sz)) 0 0 (va_A [(am, .inr (5, [.int zm_thrown, .ref am_there, .ref am_ones, .ref am_others, .ref am_xs, .ref am_ys, .int zm_many, .ref am_a, .ref am_b, .ref am_from, .ref am_to, .ref am_way, .ref am_depth, .ref am_above, .ref am_pile, .ref am_next, .ref am_leader, .ref am_turned, .ref am_piece, .ref am_numbers, .ref am_row])), (am_ones, .inl (km_ones, 24, .inl zm_ones))] sz) := by
  refine Met.ofW (cc := b_Mod_lines) (maxL := 1) (ret := (some .int)) (by decide) rfl ?_
  intro p e s m args below meth c s₁ B hml hv
  obtain ⟨hargs, hsz, hP, hK, hD0, hN⟩ := hv
  have hx := B.exec
  have hb := B.bytes
  have hr := B.returns
  have hts := atoms_spec (ws := w_Mod_lines) B.pre
  have hown : s.vm.findClass R_Mod = some m.cls := findClass_of_methodNamed B.named
  have hlocks := B.notSynchronized
  subst hsz
  have hD := hD0.self (sz := s.heap.size)
  generalize hAe : va_A [(am, .inr (5, [.int zm_thrown, .ref am_there, .ref am_ones, .ref am_others, .ref am_xs, .ref am_ys, .int zm_many, .ref am_a, .ref am_b, .ref am_from, .ref am_to, .ref am_way, .ref am_depth, .ref am_above, .ref am_pile, .ref am_next, .ref am_leader, .ref am_turned, .ref am_piece, .ref am_numbers, .ref am_row])), (am_ones, .inl (km_ones, 24, .inl zm_ones))] s.heap.size = A at hD ⊢
  have hA : ∀ q : Nat, s.heap.size ≤ q → A q := fun q h => by rw [← hAe]; exact Or.inr h
  have hS : va_S A s.heap s.heap [] := va_S.rf
  have hl := lv_entry ([.ref am]) (n := 1) (Nat.le_of_ble_eq_true rfl)
  refine W.eq (congrArg (fun a => entryFrame m a 1) hargs) ?_
  rw [lg_entry_eq]
  generalize (lg_sl ([.ref am]) ++ List.replicate (1 - (lg_sl ([.ref am])).length) Slot.unset).toArray = ls at hl ⊢
  have hl : lv_has ls 1 [(0, .ref am)] := hl
  generalize hH0 : ([] : List Loc) = locs at hS ⊢
  have hI := hR.symm
  rw [F_linesM] at hI
  refine lv_aload_n hx hb d_Mod_lines_0 rfl (lv_at hl 0 rfl) ?_
  refine lv_iconst (v := 0) hx hb d_Mod_lines_1 (by decide) ?_
  refine va_put (D := (dC, dI)) (ci := 5) (v := .int 0) (ty := .int) (C := R_Mod) (T := F_Mod) (N := 21) hx hb hts (fun w h => List.mem_cons_of_mem _ (in_Mod w h)) t_Mod t_Mod_ok n_Mod hown hK hP hD hS 0 rfl rfl 0 (by decide) (hts _ (List.mem_cons_of_mem _ mw_3_156)) (fun _ h9 => h9) rfl (by decide +kernel) rfl rfl (Nat.le_of_ble_eq_true rfl) d_Mod_lines_2 (fun H locs hP hD hS => ?_)
  have hP : va_P (dC, dI) classes [(am, .inr (5, [.int 0, .ref am_there, .ref am_ones, .ref am_others, .ref am_xs, .ref am_ys, .int zm_many, .ref am_a, .ref am_b, .ref am_from, .ref am_to, .ref am_way, .ref am_depth, .ref am_above, .ref am_pile, .ref am_next, .ref am_leader, .ref am_turned, .ref am_piece, .ref am_numbers, .ref am_row])), (am_ones, .inl (km_ones, 24, .inl zm_ones))] H := hP
  have hD : va_D A [(am, .inr (5, [.int 0, .ref am_there, .ref am_ones, .ref am_others, .ref am_xs, .ref am_ys, .int zm_many, .ref am_a, .ref am_b, .ref am_from, .ref am_to, .ref am_way, .ref am_depth, .ref am_above, .ref am_pile, .ref am_next, .ref am_leader, .ref am_turned, .ref am_piece, .ref am_numbers, .ref am_row])), (am_ones, .inl (km_ones, 24, .inl zm_ones))] := hD
  refine lv_aload_n hx hb d_Mod_lines_5 rfl (lv_at hl 0 rfl) ?_
  obtain ⟨p_6, hg_6, hI⟩ := ob_bd hI
  have hPc := hP.sub (ws' := [(am, .inr (5, [.int 0, .ref am_there, .ref am_ones, .ref am_others, .ref am_xs, .ref am_ys, .int zm_many, .ref am_a, .ref am_b, .ref am_from, .ref am_to, .ref am_way, .ref am_depth, .ref am_above, .ref am_pile, .ref am_next, .ref am_leader, .ref am_turned, .ref am_piece, .ref am_numbers, .ref am_row])), (am_ones, .inl (km_ones, 24, .inl zm_ones))]) [0, 1] rfl
  have hDc := hD.sub (ws' := [(am, .inr (5, [.int 0, .ref am_there, .ref am_ones, .ref am_others, .ref am_xs, .ref am_ys, .int zm_many, .ref am_a, .ref am_b, .ref am_from, .ref am_to, .ref am_way, .ref am_depth, .ref am_above, .ref am_pile, .ref am_next, .ref am_leader, .ref am_turned, .ref am_piece, .ref am_numbers, .ref am_row])), (am_ones, .inl (km_ones, 24, .inl zm_ones))]) [0, 1] (by decide) rfl
  have hKc := hK.sub (tys' := [(km_ones, .int)]) [0] rfl
  have hFc := va_free (wc := [(am, .inr (5, [.int 0, .ref am_there, .ref am_ones, .ref am_others, .ref am_xs, .ref am_ys, .int zm_many, .ref am_a, .ref am_b, .ref am_from, .ref am_to, .ref am_way, .ref am_depth, .ref am_above, .ref am_pile, .ref am_next, .ref am_leader, .ref am_turned, .ref am_piece, .ref am_numbers, .ref am_row])), (am_ones, .inl (km_ones, 24, .inl zm_ones))]) hD hS hA [0, 1] rfl
  refine va_calli (va_runV (As := []) (rest := []) ⟨hx, hb, hml, hown, hts⟩ (c_lineBitsM l dC dI H.size am am_there am_ones am_others am_xs am_ys am_a am_b am_from am_to am_way am_depth am_above am_pile am_next am_leader am_turned am_piece am_numbers am_row km_ones 0 zm_many zm_ones p_6 hg_6) (cwV 0 hts (gi4 mw_4_44 mw_4_46 mw_p_38 mw_1_6 mw_4_47) rfl rfl rfl (by decide +kernel) ⟨Nat.le_of_ble_eq_true rfl, Nat.le_of_ble_eq_true rfl⟩) ⟨fb_, va_recv (q0 := 0) (ci := 5) hK hP rfl rfl, pre_ hPc hKc hDc hN⟩ rfl rfl hl.1 rfl (lv_room (Nat.le_of_ble_eq_true rfl)) d_Mod_lines_6 ⟨Nat.le_of_ble_eq_true rfl, Nat.le_of_ble_eq_true rfl⟩) hS (fun q _ h => hFc q h) hFc (fun r_6 u t H locs ht hvm hp_6 hB hz1 hk1 hS => ?_)
  obtain ⟨hP1, -, hD1⟩ := hB
  rw [ht] at hP1
  obtain ⟨hP, hD⟩ := va_join (wr := []) (w1 := [(am, .inr (5, [.int 0, .ref am_there, .ref am_ones, .ref am_others, .ref am_xs, .ref am_ys, .int zm_many, .ref am_a, .ref am_b, .ref am_from, .ref am_to, .ref am_way, .ref am_depth, .ref am_above, .ref am_pile, .ref am_next, .ref am_leader, .ref am_turned, .ref am_piece, .ref am_numbers, .ref am_row])), (am_ones, .inl (km_ones, 24, .inl zm_ones))]) hP hD [0, 1] [] rfl rfl (by decide) (by decide) hk1 hFc hP1 hD1
  have hp_6 : (r_6) = p_6 := hp_6
  subst hp_6
  have hP : va_P (dC, dI) classes [(am, .inr (5, [.int 0, .ref am_there, .ref am_ones, .ref am_others, .ref am_xs, .ref am_ys, .int zm_many, .ref am_a, .ref am_b, .ref am_from, .ref am_to, .ref am_way, .ref am_depth, .ref am_above, .ref am_pile, .ref am_next, .ref am_leader, .ref am_turned, .ref am_piece, .ref am_numbers, .ref am_row])), (am_ones, .inl (km_ones, 24, .inl zm_ones))] H := hP
  have hD : va_D A [(am, .inr (5, [.int 0, .ref am_there, .ref am_ones, .ref am_others, .ref am_xs, .ref am_ys, .int zm_many, .ref am_a, .ref am_b, .ref am_from, .ref am_to, .ref am_way, .ref am_depth, .ref am_above, .ref am_pile, .ref am_next, .ref am_leader, .ref am_turned, .ref am_piece, .ref am_numbers, .ref am_row])), (am_ones, .inl (km_ones, 24, .inl zm_ones))] := hD
  exact W.iret (v := r_6) hx hb hr (fun t ht hW => ⟨⟨r_6, (0), rfl, (Option.some.inj hI).symm, by rw [ht]; exact hP, va_K.moved hW.alike hK, hD⟩, hS.F ht⟩) hS.2.2 d_Mod_lines_9
set_option maxHeartbeats 4000000 in
set_option maxRecDepth 100000 in
theorem c_endM (l : Launch) (dC : Nat → ClassId) (dI : Nat → Nat → Nat) (sz : Nat) (am am_there am_ones am_others am_xs am_ys am_a am_b am_from am_to am_way am_depth am_above am_pile am_next am_leader am_turned am_piece am_numbers am_row : Nat) (km_ones km_others : ClassId) (zm_thrown : Int32) (zm_many : Int32) (zm_ones : Nat → Int32) (zm_others : Nat → Int32) (v1 v2 : Int32) (R : Int32 × Int32) (hR : F_endM zm_ones zm_others v1 v2 = some R) : Met l y_Mod_end w_Mod_end ({ frames := 1, cells := 0, slots := 0, locals := 23 }) (Pre_ dC dI sz [.ref am, .int v1, .int v2] [(am, .inr (5, [.int zm_thrown, .ref am_there, .ref am_ones, .ref am_others, .ref am_xs, .ref am_ys, .int zm_many, .ref am_a, .ref am_b, .ref am_from, .ref am_to, .ref am_way, .ref am_depth, .ref am_above, .ref am_pile, .ref am_next, .ref am_leader, .ref am_turned, .ref am_piece, .ref am_numbers, .ref am_row])), (am_ones, .inl (km_ones, 24, .inl zm_ones)), (am_others, .inl (km_others, 24, .inl zm_others))] [(km_ones, .int), (km_others, .int)]) (va_Qi (fun (r : Int32) (u : Int32) => (r, u) = R) (fun u t => End_ dC dI (va_A [(am, .inr (5, [.int zm_thrown, .ref am_there, .ref am_ones, .ref am_others, .ref am_xs, .ref am_ys, .int zm_many, .ref am_a, .ref am_b, .ref am_from, .ref am_to, .ref am_way, .ref am_depth, .ref am_above, .ref am_pile, .ref am_next, .ref am_leader, .ref am_turned, .ref am_piece, .ref am_numbers, .ref am_row])), (am_ones, .inl (km_ones, 24, .inl zm_ones)), (am_others, .inl (km_others, 24, .inl zm_others))] sz) [(km_ones, .int), (km_others, .int)] [(am, .inr (5, [.int u, .ref am_there, .ref am_ones, .ref am_others, .ref am_xs, .ref am_ys, .int zm_many, .ref am_a, .ref am_b, .ref am_from, .ref am_to, .ref am_way, .ref am_depth, .ref am_above, .ref am_pile, .ref am_next, .ref am_leader, .ref am_turned, .ref am_piece, .ref am_numbers, .ref am_row])), (am_ones, .inl (km_ones, 24, .inl zm_ones)), (am_others, .inl (km_others, 24, .inl zm_others))] t) (va_A [(am, .inr (5, [.int zm_thrown, .ref am_there, .ref am_ones, .ref am_others, .ref am_xs, .ref am_ys, .int zm_many, .ref am_a, .ref am_b, .ref am_from, .ref am_to, .ref am_way, .ref am_depth, .ref am_above, .ref am_pile, .ref am_next, .ref am_leader, .ref am_turned, .ref am_piece, .ref am_numbers, .ref am_row])), (am_ones, .inl (km_ones, 24, .inl zm_ones)), (am_others, .inl (km_others, 24, .inl zm_others))] sz)) 0 0 (va_A [(am, .inr (5, [.int zm_thrown, .ref am_there, .ref am_ones, .ref am_others, .ref am_xs, .ref am_ys, .int zm_many, .ref am_a, .ref am_b, .ref am_from, .ref am_to, .ref am_way, .ref am_depth, .ref am_above, .ref am_pile, .ref am_next, .ref am_leader, .ref am_turned, .ref am_piece, .ref am_numbers, .ref am_row])), (am_ones, .inl (km_ones, 24, .inl zm_ones)), (am_others, .inl (km_others, 24, .inl zm_others))] sz) := by
  refine Met.ofW (cc := b_Mod_end) (maxL := 3) (ret := (some .int)) (by decide) rfl ?_
  intro p e s m args below meth c s₁ B hml hv
  obtain ⟨hargs, hsz, hP, hK, hD0, hN⟩ := hv
  have hx := B.exec
  have hb := B.bytes
  have hr := B.returns
  have hts := atoms_spec (ws := w_Mod_end) B.pre
  have hown : s.vm.findClass R_Mod = some m.cls := findClass_of_methodNamed B.named
  have hlocks := B.notSynchronized
  subst hsz
  have hD := hD0.self (sz := s.heap.size)
  generalize hAe : va_A [(am, .inr (5, [.int zm_thrown, .ref am_there, .ref am_ones, .ref am_others, .ref am_xs, .ref am_ys, .int zm_many, .ref am_a, .ref am_b, .ref am_from, .ref am_to, .ref am_way, .ref am_depth, .ref am_above, .ref am_pile, .ref am_next, .ref am_leader, .ref am_turned, .ref am_piece, .ref am_numbers, .ref am_row])), (am_ones, .inl (km_ones, 24, .inl zm_ones)), (am_others, .inl (km_others, 24, .inl zm_others))] s.heap.size = A at hD ⊢
  have hA : ∀ q : Nat, s.heap.size ≤ q → A q := fun q h => by rw [← hAe]; exact Or.inr h
  have hS : va_S A s.heap s.heap [] := va_S.rf
  have hl := lv_entry ([.ref am, .int v1, .int v2]) (n := 3) (Nat.le_of_ble_eq_true rfl)
  refine W.eq (congrArg (fun a => entryFrame m a 3) hargs) ?_
  rw [lg_entry_eq]
  generalize (lg_sl ([.ref am, .int v1, .int v2]) ++ List.replicate (3 - (lg_sl ([.ref am, .int v1, .int v2])).length) Slot.unset).toArray = ls at hl ⊢
  have hl : lv_has ls 3 [(0, .ref am), (1, .int v1), (2, .int v2)] := hl
  generalize hH0 : ([] : List Loc) = locs at hS ⊢
  have hI := hR.symm
  rw [F_endM] at hI
  refine lv_aload_n hx hb d_Mod_end_0 rfl (lv_at hl 0 rfl) ?_
  refine lv_aload_n hx hb d_Mod_end_1 rfl (lv_at hl 0 rfl) ?_
  refine lv_iload_n hx hb d_Mod_end_2 rfl (lv_at hl 1 rfl) ?_
  obtain ⟨p_3, hg_3, hI⟩ := ob_bd hI
  have hPc := hP.sub (ws' := [(am, .inr (5, [.int zm_thrown, .ref am_there, .ref am_ones, .ref am_others, .ref am_xs, .ref am_ys, .int zm_many, .ref am_a, .ref am_b, .ref am_from, .ref am_to, .ref am_way, .ref am_depth, .ref am_above, .ref am_pile, .ref am_next, .ref am_leader, .ref am_turned, .ref am_piece, .ref am_numbers, .ref am_row])), (am_ones, .inl (km_ones, 24, .inl zm_ones))]) [0, 1] rfl
  have hDc := hD.sub (ws' := [(am, .inr (5, [.int zm_thrown, .ref am_there, .ref am_ones, .ref am_others, .ref am_xs, .ref am_ys, .int zm_many, .ref am_a, .ref am_b, .ref am_from, .ref am_to, .ref am_way, .ref am_depth, .ref am_above, .ref am_pile, .ref am_next, .ref am_leader, .ref am_turned, .ref am_piece, .ref am_numbers, .ref am_row])), (am_ones, .inl (km_ones, 24, .inl zm_ones))]) [0, 1] (by decide) rfl
  have hKc := hK.sub (tys' := [(km_ones, .int)]) [0] rfl
  have hFc := va_free (wc := [(am, .inr (5, [.int zm_thrown, .ref am_there, .ref am_ones, .ref am_others, .ref am_xs, .ref am_ys, .int zm_many, .ref am_a, .ref am_b, .ref am_from, .ref am_to, .ref am_way, .ref am_depth, .ref am_above, .ref am_pile, .ref am_next, .ref am_leader, .ref am_turned, .ref am_piece, .ref am_numbers, .ref am_row])), (am_ones, .inl (km_ones, 24, .inl zm_ones))]) hD hS hA [0, 1] rfl
  refine va_calli (va_runV (As := [.int v1]) (rest := [.ref am]) ⟨hx, hb, hml, hown, hts⟩ (c_isLineM l dC dI s.heap.size am am_there am_ones am_others am_xs am_ys am_a am_b am_from am_to am_way am_depth am_above am_pile am_next am_leader am_turned am_piece am_numbers am_row km_ones zm_thrown zm_many zm_ones v1 p_3 hg_3) (cwV 1 hts (gi4 mw_4_20 mw_4_22 mw_p_35 mw_1_6 mw_4_23) rfl rfl rfl (by decide +kernel) ⟨Nat.le_of_ble_eq_true rfl, Nat.le_of_ble_eq_true rfl⟩) ⟨fb_, va_recv (q0 := 0) (ci := 5) hK hP rfl rfl, pre_ hPc hKc hDc hN⟩ rfl rfl hl.1 rfl (lv_room (Nat.le_of_ble_eq_true rfl)) d_Mod_end_3 ⟨Nat.le_of_ble_eq_true rfl, Nat.le_of_ble_eq_true rfl⟩) hS (fun q _ h => hFc q h) hFc (fun r_3 u t H locs ht hvm hp_3 hB hz1 hk1 hS => ?_)
  obtain ⟨hP1, -, hD1⟩ := hB
  rw [ht] at hP1
  obtain ⟨hP, hD⟩ := va_join (wr := [(am_others, .inl (km_others, 24, .inl zm_others))]) (w1 := [(am, .inr (5, [.int zm_thrown, .ref am_there, .ref am_ones, .ref am_others, .ref am_xs, .ref am_ys, .int zm_many, .ref am_a, .ref am_b, .ref am_from, .ref am_to, .ref am_way, .ref am_depth, .ref am_above, .ref am_pile, .ref am_next, .ref am_leader, .ref am_turned, .ref am_piece, .ref am_numbers, .ref am_row])), (am_ones, .inl (km_ones, 24, .inl zm_ones))]) hP hD [0, 1] [2] rfl rfl (by decide) (by decide) hk1 hFc hP1 hD1
  obtain ⟨hp_3, hz_3⟩ := hp_3
  have hp_3 : (r_3) = p_3 := hp_3
  subst hp_3
  have hP : va_P (dC, dI) classes [(am_others, .inl (km_others, 24, .inl zm_others)), (am, .inr (5, [.int zm_thrown, .ref am_there, .ref am_ones, .ref am_others, .ref am_xs, .ref am_ys, .int zm_many, .ref am_a, .ref am_b, .ref am_from, .ref am_to, .ref am_way, .ref am_depth, .ref am_above, .ref am_pile, .ref am_next, .ref am_leader, .ref am_turned, .ref am_piece, .ref am_numbers, .ref am_row])), (am_ones, .inl (km_ones, 24, .inl zm_ones))] H := hP
  have hD : va_D A [(am_others, .inl (km_others, 24, .inl zm_others)), (am, .inr (5, [.int zm_thrown, .ref am_there, .ref am_ones, .ref am_others, .ref am_xs, .ref am_ys, .int zm_many, .ref am_a, .ref am_b, .ref am_from, .ref am_to, .ref am_way, .ref am_depth, .ref am_above, .ref am_pile, .ref am_next, .ref am_leader, .ref am_turned, .ref am_piece, .ref am_numbers, .ref am_row])), (am_ones, .inl (km_ones, 24, .inl zm_ones))] := hD
  have hP := hP.sub (ws' := [(am, .inr (5, [.int zm_thrown, .ref am_there, .ref am_ones, .ref am_others, .ref am_xs, .ref am_ys, .int zm_many, .ref am_a, .ref am_b, .ref am_from, .ref am_to, .ref am_way, .ref am_depth, .ref am_above, .ref am_pile, .ref am_next, .ref am_leader, .ref am_turned, .ref am_piece, .ref am_numbers, .ref am_row])), (am_ones, .inl (km_ones, 24, .inl zm_ones)), (am_others, .inl (km_others, 24, .inl zm_others))]) [1, 2, 0] rfl
  have hD := hD.sub (ws' := [(am, .inr (5, [.int zm_thrown, .ref am_there, .ref am_ones, .ref am_others, .ref am_xs, .ref am_ys, .int zm_many, .ref am_a, .ref am_b, .ref am_from, .ref am_to, .ref am_way, .ref am_depth, .ref am_above, .ref am_pile, .ref am_next, .ref am_leader, .ref am_turned, .ref am_piece, .ref am_numbers, .ref am_row])), (am_ones, .inl (km_ones, 24, .inl zm_ones)), (am_others, .inl (km_others, 24, .inl zm_others))]) [1, 2, 0] (by decide) rfl
  obtain ⟨K_j14_6, hK_j14_6⟩ : ∃ K : Int32 → Option (Int32 × Int32), K = (fun (j_14_6 : Int32) => ((fun (j_28_15 : Int32) => ((F_refusedM j_14_6 j_28_15 ((0 : Int32))).bind (fun p_29 => (if p_29.1 = 0 then (if v2 = 0 then (if inb v1 24 = true then some (zm_ones (Int32.toNatClampNeg v1), p_29.2) else none) else (if inb v1 24 = true then some (zm_others (Int32.toNatClampNeg v1), p_29.2) else none)) else some ((0 : Int32), p_29.2))))) (if v2 < 0 then ((1 : Int32)) else (if v2 ≤ 1 then ((0 : Int32)) else ((1 : Int32)))))) := ⟨_, rfl⟩
  have J_14_6 : ∀ (s0_14_6 : Int32) (H : Heap) (locs : List Loc) (ls : Array Slot), some R = (K_j14_6 s0_14_6) → va_P (dC, dI) classes [(am, .inr (5, [.int zm_thrown, .ref am_there, .ref am_ones, .ref am_others, .ref am_xs, .ref am_ys, .int zm_many, .ref am_a, .ref am_b, .ref am_from, .ref am_to, .ref am_way, .ref am_depth, .ref am_above, .ref am_pile, .ref am_next, .ref am_leader, .ref am_turned, .ref am_piece, .ref am_numbers, .ref am_row])), (am_ones, .inl (km_ones, 24, .inl zm_ones)), (am_others, .inl (km_others, 24, .inl zm_others))] H → va_D A [(am, .inr (5, [.int zm_thrown, .ref am_there, .ref am_ones, .ref am_others, .ref am_xs, .ref am_ys, .int zm_many, .ref am_a, .ref am_b, .ref am_from, .ref am_to, .ref am_way, .ref am_depth, .ref am_above, .ref am_pile, .ref am_next, .ref am_leader, .ref am_turned, .ref am_piece, .ref am_numbers, .ref am_row])), (am_ones, .inl (km_ones, 24, .inl zm_ones)), (am_others, .inl (km_others, 24, .inl zm_others))] → va_S A s.heap H locs → lv_has ls 3 [(0, .ref am), (1, .int v1), (2, .int v2)] → W p l e (headSpec w_Mod_end ({ frames := 1, cells := 0, slots := 0, locals := 23 })).room s m args below meth c H locs 0 0 (MQ below (va_Qi (fun (r : Int32) (u : Int32) => (r, u) = R) (fun u t => End_ dC dI A [(km_ones, .int), (km_others, .int)] [(am, .inr (5, [.int u, .ref am_there, .ref am_ones, .ref am_others, .ref am_xs, .ref am_ys, .int zm_many, .ref am_a, .ref am_b, .ref am_from, .ref am_to, .ref am_way, .ref am_depth, .ref am_above, .ref am_pile, .ref am_next, .ref am_leader, .ref am_turned, .ref am_piece, .ref am_numbers, .ref am_row])), (am_ones, .inl (km_ones, 24, .inl zm_ones)), (am_others, .inl (km_others, 24, .inl zm_others))] t) A) args s 0 0 A) (F0 m 14 ls [.int s0_14_6, .ref am]) := by
    intro s0_14_6 H locs ls hI hP hD hS hl
    rw [hK_j14_6] at hI
    refine lv_iload_n hx hb d_Mod_end_14 rfl (lv_at hl 2 rfl) ?_
    obtain ⟨K_j28_15, hK_j28_15⟩ : ∃ K : Int32 → Option (Int32 × Int32), K = (fun (j_28_15 : Int32) => ((F_refusedM s0_14_6 j_28_15 ((0 : Int32))).bind (fun p_29 => (if p_29.1 = 0 then (if v2 = 0 then (if inb v1 24 = true then some (zm_ones (Int32.toNatClampNeg v1), p_29.2) else none) else (if inb v1 24 = true then some (zm_others (Int32.toNatClampNeg v1), p_29.2) else none)) else some ((0 : Int32), p_29.2))))) := ⟨_, rfl⟩
    have J_28_15 : ∀ (s0_28_15 : Int32) (H : Heap) (locs : List Loc) (ls : Array Slot), some R = (K_j28_15 s0_28_15) → va_P (dC, dI) classes [(am, .inr (5, [.int zm_thrown, .ref am_there, .ref am_ones, .ref am_others, .ref am_xs, .ref am_ys, .int zm_many, .ref am_a, .ref am_b, .ref am_from, .ref am_to, .ref am_way, .ref am_depth, .ref am_above, .ref am_pile, .ref am_next, .ref am_leader, .ref am_turned, .ref am_piece, .ref am_numbers, .ref am_row])), (am_ones, .inl (km_ones, 24, .inl zm_ones)), (am_others, .inl (km_others, 24, .inl zm_others))] H → va_D A [(am, .inr (5, [.int zm_thrown, .ref am_there, .ref am_ones, .ref am_others, .ref am_xs, .ref am_ys, .int zm_many, .ref am_a, .ref am_b, .ref am_from, .ref am_to, .ref am_way, .ref am_depth, .ref am_above, .ref am_pile, .ref am_next, .ref am_leader, .ref am_turned, .ref am_piece, .ref am_numbers, .ref am_row])), (am_ones, .inl (km_ones, 24, .inl zm_ones)), (am_others, .inl (km_others, 24, .inl zm_others))] → va_S A s.heap H locs → lv_has ls 3 [(0, .ref am), (1, .int v1), (2, .int v2)] → W p l e (headSpec w_Mod_end ({ frames := 1, cells := 0, slots := 0, locals := 23 })).room s m args below meth c H locs 0 0 (MQ below (va_Qi (fun (r : Int32) (u : Int32) => (r, u) = R) (fun u t => End_ dC dI A [(km_ones, .int), (km_others, .int)] [(am, .inr (5, [.int u, .ref am_there, .ref am_ones, .ref am_others, .ref am_xs, .ref am_ys, .int zm_many, .ref am_a, .ref am_b, .ref am_from, .ref am_to, .ref am_way, .ref am_depth, .ref am_above, .ref am_pile, .ref am_next, .ref am_leader, .ref am_turned, .ref am_piece, .ref am_numbers, .ref am_row])), (am_ones, .inl (km_ones, 24, .inl zm_ones)), (am_others, .inl (km_others, 24, .inl zm_others))] t) A) args s 0 0 A) (F0 m 28 ls [.int s0_28_15, .int s0_14_6, .ref am]) := by
      intro s0_28_15 H locs ls hI hP hD hS hl
      rw [hK_j28_15] at hI
      refine lv_iconst (v := 0) hx hb d_Mod_end_28 (by decide) ?_
      obtain ⟨p_29, hg_29, hI⟩ := ob_bd hI
      have hPc := hP.sub (ws' := [(am, .inr (5, [.int zm_thrown, .ref am_there, .ref am_ones, .ref am_others, .ref am_xs, .ref am_ys, .int zm_many, .ref am_a, .ref am_b, .ref am_from, .ref am_to, .ref am_way, .ref am_depth, .ref am_above, .ref am_pile, .ref am_next, .ref am_leader, .ref am_turned, .ref am_piece, .ref am_numbers, .ref am_row]))]) [0] rfl
      have hDc := hD.sub (ws' := [(am, .inr (5, [.int zm_thrown, .ref am_there, .ref am_ones, .ref am_others, .ref am_xs, .ref am_ys, .int zm_many, .ref am_a, .ref am_b, .ref am_from, .ref am_to, .ref am_way, .ref am_depth, .ref am_above, .ref am_pile, .ref am_next, .ref am_leader, .ref am_turned, .ref am_piece, .ref am_numbers, .ref am_row]))]) [0] (by decide) rfl
      have hKc := hK.sub (tys' := []) [] rfl
      have hFc := va_free (wc := [(am, .inr (5, [.int zm_thrown, .ref am_there, .ref am_ones, .ref am_others, .ref am_xs, .ref am_ys, .int zm_many, .ref am_a, .ref am_b, .ref am_from, .ref am_to, .ref am_way, .ref am_depth, .ref am_above, .ref am_pile, .ref am_next, .ref am_leader, .ref am_turned, .ref am_piece, .ref am_numbers, .ref am_row]))]) hD hS hA [0] rfl
      refine va_calli (va_runV (As := [.int s0_14_6, .int s0_28_15, .int 0]) (rest := []) ⟨hx, hb, hml, hown, hts⟩ (c_refusedM l dC dI H.size am am_there am_ones am_others am_xs am_ys am_a am_b am_from am_to am_way am_depth am_above am_pile am_next am_leader am_turned am_piece am_numbers am_row zm_thrown zm_many s0_14_6 s0_28_15 0 p_29 hg_29) (cwV 3 hts (gi4 mw_3_236 mw_3_238 mw_p_31 mw_1_6 mw_3_239) rfl rfl rfl (by decide +kernel) ⟨Nat.le_of_ble_eq_true rfl, Nat.le_of_ble_eq_true rfl⟩) ⟨fb_, va_recv (q0 := 0) (ci := 5) hK hP rfl rfl, pre_ hPc hKc hDc hN⟩ rfl rfl hl.1 rfl (lv_room (Nat.le_of_ble_eq_true rfl)) d_Mod_end_29 ⟨Nat.le_of_ble_eq_true rfl, Nat.le_of_ble_eq_true rfl⟩) hS (fun q _ h => hFc q h) hFc (fun r_29 wm_thrown_29 t H locs ht hvm hp_29 hB hz1 hk1 hS => ?_)
      obtain ⟨hP1, -, hD1⟩ := hB
      rw [ht] at hP1
      obtain ⟨hP, hD⟩ := va_join (wr := [(am_ones, .inl (km_ones, 24, .inl zm_ones)), (am_others, .inl (km_others, 24, .inl zm_others))]) (w1 := [(am, .inr (5, [.int wm_thrown_29, .ref am_there, .ref am_ones, .ref am_others, .ref am_xs, .ref am_ys, .int zm_many, .ref am_a, .ref am_b, .ref am_from, .ref am_to, .ref am_way, .ref am_depth, .ref am_above, .ref am_pile, .ref am_next, .ref am_leader, .ref am_turned, .ref am_piece, .ref am_numbers, .ref am_row]))]) hP hD [0] [1, 2] rfl rfl (by decide) (by decide) hk1 hFc hP1 hD1
      obtain ⟨hp_29, hz_29⟩ := hp_29
      have hp_29 : (r_29, wm_thrown_29) = p_29 := hp_29
      subst hp_29
      have hP : va_P (dC, dI) classes [(am_ones, .inl (km_ones, 24, .inl zm_ones)), (am_others, .inl (km_others, 24, .inl zm_others)), (am, .inr (5, [.int wm_thrown_29, .ref am_there, .ref am_ones, .ref am_others, .ref am_xs, .ref am_ys, .int zm_many, .ref am_a, .ref am_b, .ref am_from, .ref am_to, .ref am_way, .ref am_depth, .ref am_above, .ref am_pile, .ref am_next, .ref am_leader, .ref am_turned, .ref am_piece, .ref am_numbers, .ref am_row]))] H := hP
      have hD : va_D A [(am_ones, .inl (km_ones, 24, .inl zm_ones)), (am_others, .inl (km_others, 24, .inl zm_others)), (am, .inr (5, [.int wm_thrown_29, .ref am_there, .ref am_ones, .ref am_others, .ref am_xs, .ref am_ys, .int zm_many, .ref am_a, .ref am_b, .ref am_from, .ref am_to, .ref am_way, .ref am_depth, .ref am_above, .ref am_pile, .ref am_next, .ref am_leader, .ref am_turned, .ref am_piece, .ref am_numbers, .ref am_row]))] := hD
      refine lv_if_eq (tgt := 37) hx hb d_Mod_end_32 rfl (fun hc_32 => ?_) (fun hc_32 => ?_)
      · skip
        have hI := hI.trans (if_pos hc_32)
        refine lv_iload_n hx hb d_Mod_end_37 rfl (lv_at hl 2 rfl) ?_
        refine lv_if_ne (tgt := 50) hx hb d_Mod_end_38 rfl (fun hc_38 => ?_) (fun hc_38 => ?_)
        · skip
          have hI := hI.trans (if_neg hc_38)
          refine lv_aload_n hx hb d_Mod_end_50 rfl (lv_at hl 0 rfl) ?_
          refine va_get (D := (dC, dI)) (ci := 5) (v := .ref am_others) (C := R_Mod) (T := F_Mod) (N := 21) hx hb hts (fun w h => List.mem_cons_of_mem _ (in_Mod w h)) hown hK hP 2 rfl rfl 3 (by decide) (hts _ (List.mem_cons_of_mem _ mw_3_159)) (fun _ h9 => h9) rfl d_Mod_end_51 ?_
          refine lv_iload_n hx hb d_Mod_end_54 rfl (lv_at hl 1 rfl) ?_
          have hi_55 := ob_in hI
          have hI := ob_th hI
          refine va_iald (D := (dC, dI)) hx hb hK hP 1 1 rfl rfl hi_55 d_Mod_end_55 ?_
          have hP := hP.sub (ws' := [(am, .inr (5, [.int wm_thrown_29, .ref am_there, .ref am_ones, .ref am_others, .ref am_xs, .ref am_ys, .int zm_many, .ref am_a, .ref am_b, .ref am_from, .ref am_to, .ref am_way, .ref am_depth, .ref am_above, .ref am_pile, .ref am_next, .ref am_leader, .ref am_turned, .ref am_piece, .ref am_numbers, .ref am_row])), (am_ones, .inl (km_ones, 24, .inl zm_ones)), (am_others, .inl (km_others, 24, .inl zm_others))]) [2, 0, 1] rfl
          have hD := hD.sub (ws' := [(am, .inr (5, [.int wm_thrown_29, .ref am_there, .ref am_ones, .ref am_others, .ref am_xs, .ref am_ys, .int zm_many, .ref am_a, .ref am_b, .ref am_from, .ref am_to, .ref am_way, .ref am_depth, .ref am_above, .ref am_pile, .ref am_next, .ref am_leader, .ref am_turned, .ref am_piece, .ref am_numbers, .ref am_row])), (am_ones, .inl (km_ones, 24, .inl zm_ones)), (am_others, .inl (km_others, 24, .inl zm_others))]) [2, 0, 1] (by decide) rfl
          exact W.iret (v := zm_others (Int32.toNatClampNeg v1)) hx hb hr (fun t ht hW => ⟨⟨zm_others (Int32.toNatClampNeg v1), (wm_thrown_29), rfl, (Option.some.inj hI).symm, by rw [ht]; exact hP, va_K.moved hW.alike hK, hD⟩, hS.F ht⟩) hS.2.2 d_Mod_end_56
        · skip
          have hI := hI.trans (if_pos hc_38)
          refine lv_aload_n hx hb d_Mod_end_41 rfl (lv_at hl 0 rfl) ?_
          refine va_get (D := (dC, dI)) (ci := 5) (v := .ref am_ones) (C := R_Mod) (T := F_Mod) (N := 21) hx hb hts (fun w h => List.mem_cons_of_mem _ (in_Mod w h)) hown hK hP 2 rfl rfl 2 (by decide) (hts _ (List.mem_cons_of_mem _ mw_3_158)) (fun _ h9 => h9) rfl d_Mod_end_42 ?_
          refine lv_iload_n hx hb d_Mod_end_45 rfl (lv_at hl 1 rfl) ?_
          have hi_46 := ob_in hI
          have hI := ob_th hI
          refine va_iald (D := (dC, dI)) hx hb hK hP 0 0 rfl rfl hi_46 d_Mod_end_46 ?_
          refine lv_goto (tgt := 56) hx hb d_Mod_end_47 rfl ?_
          have hP := hP.sub (ws' := [(am, .inr (5, [.int wm_thrown_29, .ref am_there, .ref am_ones, .ref am_others, .ref am_xs, .ref am_ys, .int zm_many, .ref am_a, .ref am_b, .ref am_from, .ref am_to, .ref am_way, .ref am_depth, .ref am_above, .ref am_pile, .ref am_next, .ref am_leader, .ref am_turned, .ref am_piece, .ref am_numbers, .ref am_row])), (am_ones, .inl (km_ones, 24, .inl zm_ones)), (am_others, .inl (km_others, 24, .inl zm_others))]) [2, 0, 1] rfl
          have hD := hD.sub (ws' := [(am, .inr (5, [.int wm_thrown_29, .ref am_there, .ref am_ones, .ref am_others, .ref am_xs, .ref am_ys, .int zm_many, .ref am_a, .ref am_b, .ref am_from, .ref am_to, .ref am_way, .ref am_depth, .ref am_above, .ref am_pile, .ref am_next, .ref am_leader, .ref am_turned, .ref am_piece, .ref am_numbers, .ref am_row])), (am_ones, .inl (km_ones, 24, .inl zm_ones)), (am_others, .inl (km_others, 24, .inl zm_others))]) [2, 0, 1] (by decide) rfl
          exact W.iret (v := zm_ones (Int32.toNatClampNeg v1)) hx hb hr (fun t ht hW => ⟨⟨zm_ones (Int32.toNatClampNeg v1), (wm_thrown_29), rfl, (Option.some.inj hI).symm, by rw [ht]; exact hP, va_K.moved hW.alike hK, hD⟩, hS.F ht⟩) hS.2.2 d_Mod_end_56
      · skip
        have hI := hI.trans (if_neg hc_32)
        refine lv_iconst (v := 0) hx hb d_Mod_end_35 (by decide) ?_
        have hP := hP.sub (ws' := [(am, .inr (5, [.int wm_thrown_29, .ref am_there, .ref am_ones, .ref am_others, .ref am_xs, .ref am_ys, .int zm_many, .ref am_a, .ref am_b, .ref am_from, .ref am_to, .ref am_way, .ref am_depth, .ref am_above, .ref am_pile, .ref am_next, .ref am_leader, .ref am_turned, .ref am_piece, .ref am_numbers, .ref am_row])), (am_ones, .inl (km_ones, 24, .inl zm_ones)), (am_others, .inl (km_others, 24, .inl zm_others))]) [2, 0, 1] rfl
        have hD := hD.sub (ws' := [(am, .inr (5, [.int wm_thrown_29, .ref am_there, .ref am_ones, .ref am_others, .ref am_xs, .ref am_ys, .int zm_many, .ref am_a, .ref am_b, .ref am_from, .ref am_to, .ref am_way, .ref am_depth, .ref am_above, .ref am_pile, .ref am_next, .ref am_leader, .ref am_turned, .ref am_piece, .ref am_numbers, .ref am_row])), (am_ones, .inl (km_ones, 24, .inl zm_ones)), (am_others, .inl (km_others, 24, .inl zm_others))]) [2, 0, 1] (by decide) rfl
        exact W.iret (v := 0) hx hb hr (fun t ht hW => ⟨⟨0, (wm_thrown_29), rfl, (Option.some.inj hI).symm, by rw [ht]; exact hP, va_K.moved hW.alike hK, hD⟩, hS.F ht⟩) hS.2.2 d_Mod_end_36
    have hI : some R = (K_j28_15 (if v2 < 0 then ((1 : Int32)) else (if v2 ≤ 1 then ((0 : Int32)) else ((1 : Int32))))) := by rw [hK_j28_15]; exact hI
    refine lv_if_lt (tgt := 23) hx hb d_Mod_end_15 rfl (fun hc_15 => ?_) (fun hc_15 => ?_)
    · skip
      have hI := ob_ifC (C := fun y_ => K_j28_15 y_) hc_15 hI
      refine lv_iconst (v := 1) hx hb d_Mod_end_23 (by decide) ?_
      refine lv_goto (tgt := 28) hx hb d_Mod_end_24 rfl ?_
      have hl := lv_sub hl [0, 1, 2] rfl
      exact J_28_15 _ _ _ _ hI hP hD hS hl
    · skip
      have hI := ob_elC (C := fun y_ => K_j28_15 y_) hc_15 hI
      refine lv_iload_n hx hb d_Mod_end_18 rfl (lv_at hl 2 rfl) ?_
      refine lv_iconst (v := 1) hx hb d_Mod_end_19 (by decide) ?_
      refine lv_icmp_le (tgt := 27) hx hb d_Mod_end_20 rfl (fun hc_20 => ?_) (fun hc_20 => ?_)
      · skip
        have hI := ob_ifC (C := fun y_ => K_j28_15 y_) hc_20 hI
        refine lv_iconst (v := 0) hx hb d_Mod_end_27 (by decide) ?_
        have hl := lv_sub hl [0, 1, 2] rfl
        exact J_28_15 _ _ _ _ hI hP hD hS hl
      · skip
        have hI := ob_elC (C := fun y_ => K_j28_15 y_) hc_20 hI
        refine lv_iconst (v := 1) hx hb d_Mod_end_23 (by decide) ?_
        refine lv_goto (tgt := 28) hx hb d_Mod_end_24 rfl ?_
        have hl := lv_sub hl [0, 1, 2] rfl
        exact J_28_15 _ _ _ _ hI hP hD hS hl
  have hI : some R = (K_j14_6 (if r_3 = 0 then ((1 : Int32)) else ((0 : Int32)))) := by rw [hK_j14_6]; exact hI
  refine lv_if_ne (tgt := 13) hx hb d_Mod_end_6 rfl (fun hc_6 => ?_) (fun hc_6 => ?_)
  · skip
    have hI := ob_elC (C := fun y_ => K_j14_6 y_) hc_6 hI
    refine lv_iconst (v := 0) hx hb d_Mod_end_13 (by decide) ?_
    have hl := lv_sub hl [0, 1, 2] rfl
    exact J_14_6 _ _ _ _ hI hP hD hS hl
  · skip
    have hI := ob_ifC (C := fun y_ => K_j14_6 y_) hc_6 hI
    refine lv_iconst (v := 1) hx hb d_Mod_end_9 (by decide) ?_
    refine lv_goto (tgt := 14) hx hb d_Mod_end_10 rfl ?_
    have hl := lv_sub hl [0, 1, 2] rfl
    exact J_14_6 _ _ _ _ hI hP hD hS hl
