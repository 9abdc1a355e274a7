set_option maxHeartbeats 4000000 in
set_option maxRecDepth 100000 in
theorem c_isNode (l : Launch) (dC : Nat → ClassId) (dI : Nat → Nat → Nat) (sz : Nat) (vi : Int32) : Met l y_Mod_isNode w_Mod_isNode ({ frames := 0, cells := 0, slots := 0, locals := 0 }) (Pre_ dC dI sz [.int vi] [] []) (va_Qi (fun (r : Int32) (u : Unit) => r = f_isNN vi) (fun u t => End_ dC dI (va_A [] sz) [] [] t) (va_A [] sz)) 0 0 (va_A [] sz) := by
  refine Met.ofW (cc := b_Mod_isNode) (maxL := 1) (ret := (some .boolean)) (by decide) rfl ?_
  intro p e s m args below meth c s₁ B hml hv
  obtain ⟨hargs, hsz, hP, hK, hD0, hN⟩ := hv
  have hx := B.exec
  have hb := B.bytes
  have hr := B.returns
  have hts := atoms_spec (ws := w_Mod_isNode) B.pre
  have hown : s.vm.findClass R_Mod = some m.cls := findClass_of_methodNamed B.named
  have hlocks := B.notSynchronized
  subst hsz
  have hD := hD0.self (sz := s.heap.size)
  generalize hAe : va_A [] s.heap.size = A at hD ⊢
  have hA : ∀ q : Nat, s.heap.size ≤ q → A q := fun q h => by rw [← hAe]; exact Or.inr h
  have hS : va_S A s.heap s.heap [] := va_S.rf
  have hl := lv_entry ([.int vi]) (n := 1) (Nat.le_of_ble_eq_true rfl)
  refine W.eq (congrArg (fun a => entryFrame m a 1) hargs) ?_
  rw [lg_entry_eq]
  generalize (lg_sl ([.int vi]) ++ List.replicate (1 - (lg_sl ([.int vi])).length) Slot.unset).toArray = ls at hl ⊢
  have hl : lv_has ls 1 [(0, .int vi)] := hl
  generalize hH0 : ([] : List Loc) = locs at hS ⊢
  refine lv_iload_n hx hb d_Mod_isNode_0 rfl (lv_at hl 0 rfl) ?_
  refine lv_if_lt (tgt := 14) hx hb d_Mod_isNode_1 rfl (fun hc_1 => ?_) (fun hc_1 => ?_)
  · skip
    refine lv_iconst (v := 0) hx hb d_Mod_isNode_14 (by decide) ?_
    exact W.zret (v := 0) (ty := .boolean) hx hb hr rfl (fun t ht hW => ⟨⟨0, (), rfl, (by rw [f_isNN, if_pos hc_1]), by rw [ht]; exact hP, va_K.moved hW.alike hK, hD⟩, hS.F ht⟩) hS.2.2 d_Mod_isNode_15
  · skip
    refine lv_iload_n hx hb d_Mod_isNode_4 rfl (lv_at hl 0 rfl) ?_
    refine lv_bipush (v := 10) hx hb d_Mod_isNode_5 (by decide) ?_
    refine lv_icmp_ge (tgt := 14) hx hb d_Mod_isNode_7 rfl (fun hc_7 => ?_) (fun hc_7 => ?_)
    · skip
      refine lv_iconst (v := 0) hx hb d_Mod_isNode_14 (by decide) ?_
      exact W.zret (v := 0) (ty := .boolean) hx hb hr rfl (fun t ht hW => ⟨⟨0, (), rfl, (by rw [f_isNN, if_neg hc_1, if_pos hc_7]), by rw [ht]; exact hP, va_K.moved hW.alike hK, hD⟩, hS.F ht⟩) hS.2.2 d_Mod_isNode_15
    · skip
      refine lv_iconst (v := 1) hx hb d_Mod_isNode_10 (by decide) ?_
      refine lv_goto (tgt := 15) hx hb d_Mod_isNode_11 rfl ?_
      exact W.zret (v := 1) (ty := .boolean) hx hb hr rfl (fun t ht hW => ⟨⟨1, (), rfl, (by rw [f_isNN, if_neg hc_1, if_neg hc_7]), by rw [ht]; exact hP, va_K.moved hW.alike hK, hD⟩, hS.F ht⟩) hS.2.2 d_Mod_isNode_15
set_option maxHeartbeats 4000000 in
set_option maxRecDepth 100000 in
theorem c_thrown (l : Launch) (dC : Nat → ClassId) (dI : Nat → Nat → Nat) (sz : Nat) (am am_there am_ones am_others am_xs am_ys am_a am_b am_from am_to am_way am_depth am_above am_pile am_next am_leader am_turned am_piece am_numbers am_row : Nat) (zm_thrown : Int32) (zm_many : Int32) : Met l y_Mod_thrown w_Mod_thrown ({ frames := 0, cells := 0, slots := 0, locals := 0 }) (Pre_ dC dI sz [.ref am] [(am, .inr (5, [.int zm_thrown, .ref am_there, .ref am_ones, .ref am_others, .ref am_xs, .ref am_ys, .int zm_many, .ref am_a, .ref am_b, .ref am_from, .ref am_to, .ref am_way, .ref am_depth, .ref am_above, .ref am_pile, .ref am_next, .ref am_leader, .ref am_turned, .ref am_piece, .ref am_numbers, .ref am_row]))] []) (va_Qi (fun (r : Int32) (u : Unit) => r = zm_thrown) (fun u t => End_ dC dI (va_A [(am, .inr (5, [.int zm_thrown, .ref am_there, .ref am_ones, .ref am_others, .ref am_xs, .ref am_ys, .int zm_many, .ref am_a, .ref am_b, .ref am_from, .ref am_to, .ref am_way, .ref am_depth, .ref am_above, .ref am_pile, .ref am_next, .ref am_leader, .ref am_turned, .ref am_piece, .ref am_numbers, .ref am_row]))] sz) [] [(am, .inr (5, [.int zm_thrown, .ref am_there, .ref am_ones, .ref am_others, .ref am_xs, .ref am_ys, .int zm_many, .ref am_a, .ref am_b, .ref am_from, .ref am_to, .ref am_way, .ref am_depth, .ref am_above, .ref am_pile, .ref am_next, .ref am_leader, .ref am_turned, .ref am_piece, .ref am_numbers, .ref am_row]))] t) (va_A [(am, .inr (5, [.int zm_thrown, .ref am_there, .ref am_ones, .ref am_others, .ref am_xs, .ref am_ys, .int zm_many, .ref am_a, .ref am_b, .ref am_from, .ref am_to, .ref am_way, .ref am_depth, .ref am_above, .ref am_pile, .ref am_next, .ref am_leader, .ref am_turned, .ref am_piece, .ref am_numbers, .ref am_row]))] sz)) 0 0 (va_A [(am, .inr (5, [.int zm_thrown, .ref am_there, .ref am_ones, .ref am_others, .ref am_xs, .ref am_ys, .int zm_many, .ref am_a, .ref am_b, .ref am_from, .ref am_to, .ref am_way, .ref am_depth, .ref am_above, .ref am_pile, .ref am_next, .ref am_leader, .ref am_turned, .ref am_piece, .ref am_numbers, .ref am_row]))] sz) := by
  refine Met.ofW (cc := b_Mod_thrown) (maxL := 1) (ret := (some .int)) (by decide) rfl ?_
  intro p e s m args below meth c s₁ B hml hv
  obtain ⟨hargs, hsz, hP, hK, hD0, hN⟩ := hv
  have hx := B.exec
  have hb := B.bytes
  have hr := B.returns
  have hts := atoms_spec (ws := w_Mod_thrown) B.pre
  have hown : s.vm.findClass R_Mod = some m.cls := findClass_of_methodNamed B.named
  have hlocks := B.notSynchronized
  subst hsz
  have hD := hD0.self (sz := s.heap.size)
  generalize hAe : va_A [(am, .inr (5, [.int zm_thrown, .ref am_there, .ref am_ones, .ref am_others, .ref am_xs, .ref am_ys, .int zm_many, .ref am_a, .ref am_b, .ref am_from, .ref am_to, .ref am_way, .ref am_depth, .ref am_above, .ref am_pile, .ref am_next, .ref am_leader, .ref am_turned, .ref am_piece, .ref am_numbers, .ref am_row]))] s.heap.size = A at hD ⊢
  have hA : ∀ q : Nat, s.heap.size ≤ q → A q := fun q h => by rw [← hAe]; exact Or.inr h
  have hS : va_S A s.heap s.heap [] := va_S.rf
  have hl := lv_entry ([.ref am]) (n := 1) (Nat.le_of_ble_eq_true rfl)
  refine W.eq (congrArg (fun a => entryFrame m a 1) hargs) ?_
  rw [lg_entry_eq]
  generalize (lg_sl ([.ref am]) ++ List.replicate (1 - (lg_sl ([.ref am])).length) Slot.unset).toArray = ls at hl ⊢
  have hl : lv_has ls 1 [(0, .ref am)] := hl
  generalize hH0 : ([] : List Loc) = locs at hS ⊢
  refine lv_aload_n hx hb d_Mod_thrown_0 rfl (lv_at hl 0 rfl) ?_
  refine va_get (D := (dC, dI)) (ci := 5) (v := .int zm_thrown) (C := R_Mod) (T := F_Mod) (N := 21) hx hb hts (fun w h => List.mem_cons_of_mem _ (in_Mod w h)) hown hK hP 0 rfl rfl 0 (by decide) (hts _ (List.mem_cons_of_mem _ mw_3_156)) (fun _ h9 => h9) rfl d_Mod_thrown_1 ?_
  exact W.iret (v := zm_thrown) hx hb hr (fun t ht hW => ⟨⟨zm_thrown, (), rfl, rfl, by rw [ht]; exact hP, va_K.moved hW.alike hK, hD⟩, hS.F ht⟩) hS.2.2 d_Mod_thrown_4
set_option maxHeartbeats 4000000 in
set_option maxRecDepth 100000 in
theorem c_refused (l : Launch) (dC : Nat → ClassId) (dI : Nat → Nat → Nat) (sz : Nat) (am am_there am_ones am_others am_xs am_ys am_a am_b am_from am_to am_way am_depth am_above am_pile am_next am_leader am_turned am_piece am_numbers am_row : Nat) (zm_thrown : Int32) (zm_many : Int32) (v1 v2 v3 : Int32) : Met l y_Mod_refused w_Mod_refused ({ frames := 0, cells := 0, slots := 0, locals := 0 }) (Pre_ dC dI sz [.ref am, .int v1, .int v2, .int v3] [(am, .inr (5, [.int zm_thrown, .ref am_there, .ref am_ones, .ref am_others, .ref am_xs, .ref am_ys, .int zm_many, .ref am_a, .ref am_b, .ref am_from, .ref am_to, .ref am_way, .ref am_depth, .ref am_above, .ref am_pile, .ref am_next, .ref am_leader, .ref am_turned, .ref am_piece, .ref am_numbers, .ref am_row]))] []) (va_Qi (fun (r : Int32) (u : Int32) => u = f_ref v1 v2 v3 ∧ r = (if 0 < f_ref v1 v2 v3 then 1 else 0)) (fun u t => End_ dC dI (va_A [(am, .inr (5, [.int zm_thrown, .ref am_there, .ref am_ones, .ref am_others, .ref am_xs, .ref am_ys, .int zm_many, .ref am_a, .ref am_b, .ref am_from, .ref am_to, .ref am_way, .ref am_depth, .ref am_above, .ref am_pile, .ref am_next, .ref am_leader, .ref am_turned, .ref am_piece, .ref am_numbers, .ref am_row]))] sz) [] [(am, .inr (5, [.int u, .ref am_there, .ref am_ones, .ref am_others, .ref am_xs, .ref am_ys, .int zm_many, .ref am_a, .ref am_b, .ref am_from, .ref am_to, .ref am_way, .ref am_depth, .ref am_above, .ref am_pile, .ref am_next, .ref am_leader, .ref am_turned, .ref am_piece, .ref am_numbers, .ref am_row]))] t) (va_A [(am, .inr (5, [.int zm_thrown, .ref am_there, .ref am_ones, .ref am_others, .ref am_xs, .ref am_ys, .int zm_many, .ref am_a, .ref am_b, .ref am_from, .ref am_to, .ref am_way, .ref am_depth, .ref am_above, .ref am_pile, .ref am_next, .ref am_leader, .ref am_turned, .ref am_piece, .ref am_numbers, .ref am_row]))] sz)) 0 0 (va_A [(am, .inr (5, [.int zm_thrown, .ref am_there, .ref am_ones, .ref am_others, .ref am_xs, .ref am_ys, .int zm_many, .ref am_a, .ref am_b, .ref am_from, .ref am_to, .ref am_way, .ref am_depth, .ref am_above, .ref am_pile, .ref am_next, .ref am_leader, .ref am_turned, .ref am_piece, .ref am_numbers, .ref am_row]))] sz) := by
  refine Met.ofW (cc := b_Mod_refused) (maxL := 4) (ret := (some .boolean)) (by decide) rfl ?_
  intro p e s m args below meth c s₁ B hml hv
  obtain ⟨hargs, hsz, hP, hK, hD0, hN⟩ := hv
  have hx := B.exec
  have hb := B.bytes
  have hr := B.returns
  have hts := atoms_spec (ws := w_Mod_refused) B.pre
  have hown : s.vm.findClass R_Mod = some m.cls := findClass_of_methodNamed B.named
  have hlocks := B.notSynchronized
  subst hsz
  have hD := hD0.self (sz := s.heap.size)
  generalize hAe : va_A [(am, .inr (5, [.int zm_thrown, .ref am_there, .ref am_ones, .ref am_others, .ref am_xs, .ref am_ys, .int zm_many, .ref am_a, .ref am_b, .ref am_from, .ref am_to, .ref am_way, .ref am_depth, .ref am_above, .ref am_pile, .ref am_next, .ref am_leader, .ref am_turned, .ref am_piece, .ref am_numbers, .ref am_row]))] s.heap.size = A at hD ⊢
  have hA : ∀ q : Nat, s.heap.size ≤ q → A q := fun q h => by rw [← hAe]; exact Or.inr h
  have hS : va_S A s.heap s.heap [] := va_S.rf
  have hl := lv_entry ([.ref am, .int v1, .int v2, .int v3]) (n := 4) (Nat.le_of_ble_eq_true rfl)
  refine W.eq (congrArg (fun a => entryFrame m a 4) hargs) ?_
  rw [lg_entry_eq]
  generalize (lg_sl ([.ref am, .int v1, .int v2, .int v3]) ++ List.replicate (4 - (lg_sl ([.ref am, .int v1, .int v2, .int v3])).length) Slot.unset).toArray = ls at hl ⊢
  have hl : lv_has ls 4 [(0, .ref am), (1, .int v1), (2, .int v2), (3, .int v3)] := hl
  generalize hH0 : ([] : List Loc) = locs at hS ⊢
  refine lv_aload_n hx hb d_Mod_refused_0 rfl (lv_at hl 0 rfl) ?_
  refine lv_iload_n hx hb d_Mod_refused_1 rfl (lv_at hl 1 rfl) ?_
  refine lv_if_eq (tgt := 9) hx hb d_Mod_refused_2 rfl (fun hc_2 => ?_) (fun hc_2 => ?_)
  · skip
    refine lv_iload_n hx hb d_Mod_refused_9 rfl (lv_at hl 2 rfl) ?_
    refine lv_if_eq (tgt := 17) hx hb d_Mod_refused_10 rfl (fun hc_10 => ?_) (fun hc_10 => ?_)
    · skip
      refine lv_iload_n hx hb d_Mod_refused_17 rfl (lv_at hl 3 rfl) ?_
      refine lv_if_eq (tgt := 25) hx hb d_Mod_refused_18 rfl (fun hc_18 => ?_) (fun hc_18 => ?_)
      · skip
        refine lv_iconst (v := 0) hx hb d_Mod_refused_25 (by decide) ?_
        refine va_put (D := (dC, dI)) (ci := 5) (v := .int 0) (ty := .int) (C := R_Mod) (T := F_Mod) (N := 21) hx hb hts (fun w h => List.mem_cons_of_mem _ (in_Mod w h)) t_Mod t_Mod_ok n_Mod hown hK hP hD hS 0 rfl rfl 0 (by decide) (hts _ (List.mem_cons_of_mem _ mw_3_156)) (fun _ h9 => h9) rfl (by decide +kernel) rfl rfl (Nat.le_of_ble_eq_true rfl) d_Mod_refused_26 (fun H locs hP hD hS => ?_)
        have hP : va_P (dC, dI) classes [(am, .inr (5, [.int 0, .ref am_there, .ref am_ones, .ref am_others, .ref am_xs, .ref am_ys, .int zm_many, .ref am_a, .ref am_b, .ref am_from, .ref am_to, .ref am_way, .ref am_depth, .ref am_above, .ref am_pile, .ref am_next, .ref am_leader, .ref am_turned, .ref am_piece, .ref am_numbers, .ref am_row]))] H := hP
        have hD : va_D A [(am, .inr (5, [.int 0, .ref am_there, .ref am_ones, .ref am_others, .ref am_xs, .ref am_ys, .int zm_many, .ref am_a, .ref am_b, .ref am_from, .ref am_to, .ref am_way, .ref am_depth, .ref am_above, .ref am_pile, .ref am_next, .ref am_leader, .ref am_turned, .ref am_piece, .ref am_numbers, .ref am_row]))] := hD
        refine lv_aload_n hx hb d_Mod_refused_29 rfl (lv_at hl 0 rfl) ?_
        refine va_get (D := (dC, dI)) (ci := 5) (v := .int 0) (C := R_Mod) (T := F_Mod) (N := 21) hx hb hts (fun w h => List.mem_cons_of_mem _ (in_Mod w h)) hown hK hP 0 rfl rfl 0 (by decide) (hts _ (List.mem_cons_of_mem _ mw_3_156)) (fun _ h9 => h9) rfl d_Mod_refused_30 ?_
        refine lv_if_le (tgt := 40) hx hb d_Mod_refused_33 rfl (fun hc_33 => ?_) (fun hc_33 => absurd (by decide) hc_33)
        refine lv_iconst (v := 0) hx hb d_Mod_refused_40 (by decide) ?_
        exact W.zret (v := 0) (ty := .boolean) hx hb hr rfl (fun t ht hW => ⟨⟨0, (0), rfl, ⟨by rw [f_ref, if_pos hc_2, if_pos hc_10, if_pos hc_18], by rw [f_ref, if_pos hc_2, if_pos hc_10, if_pos hc_18] <;> rfl⟩, by rw [ht]; exact hP, va_K.moved hW.alike hK, hD⟩, hS.F ht⟩) hS.2.2 d_Mod_refused_41
      · skip
        refine lv_iconst (v := 3) hx hb d_Mod_refused_21 (by decide) ?_
        refine lv_goto (tgt := 26) hx hb d_Mod_refused_22 rfl ?_
        refine va_put (D := (dC, dI)) (ci := 5) (v := .int 3) (ty := .int) (C := R_Mod) (T := F_Mod) (N := 21) hx hb hts (fun w h => List.mem_cons_of_mem _ (in_Mod w h)) t_Mod t_Mod_ok n_Mod hown hK hP hD hS 0 rfl rfl 0 (by decide) (hts _ (List.mem_cons_of_mem _ mw_3_156)) (fun _ h9 => h9) rfl (by decide +kernel) rfl rfl (Nat.le_of_ble_eq_true rfl) d_Mod_refused_26 (fun H locs hP hD hS => ?_)
        have hP : va_P (dC, dI) classes [(am, .inr (5, [.int 3, .ref am_there, .ref am_ones, .ref am_others, .ref am_xs, .ref am_ys, .int zm_many, .ref am_a, .ref am_b, .ref am_from, .ref am_to, .ref am_way, .ref am_depth, .ref am_above, .ref am_pile, .ref am_next, .ref am_leader, .ref am_turned, .ref am_piece, .ref am_numbers, .ref am_row]))] H := hP
        have hD : va_D A [(am, .inr (5, [.int 3, .ref am_there, .ref am_ones, .ref am_others, .ref am_xs, .ref am_ys, .int zm_many, .ref am_a, .ref am_b, .ref am_from, .ref am_to, .ref am_way, .ref am_depth, .ref am_above, .ref am_pile, .ref am_next, .ref am_leader, .ref am_turned, .ref am_piece, .ref am_numbers, .ref am_row]))] := hD
        refine lv_aload_n hx hb d_Mod_refused_29 rfl (lv_at hl 0 rfl) ?_
        refine va_get (D := (dC, dI)) (ci := 5) (v := .int 3) (C := R_Mod) (T := F_Mod) (N := 21) hx hb hts (fun w h => List.mem_cons_of_mem _ (in_Mod w h)) hown hK hP 0 rfl rfl 0 (by decide) (hts _ (List.mem_cons_of_mem _ mw_3_156)) (fun _ h9 => h9) rfl d_Mod_refused_30 ?_
        refine lv_if_le (tgt := 40) hx hb d_Mod_refused_33 rfl (fun hc_33 => absurd hc_33 (by decide)) (fun hc_33 => ?_)
        refine lv_iconst (v := 1) hx hb d_Mod_refused_36 (by decide) ?_
        refine lv_goto (tgt := 41) hx hb d_Mod_refused_37 rfl ?_
        exact W.zret (v := 1) (ty := .boolean) hx hb hr rfl (fun t ht hW => ⟨⟨1, (3), rfl, ⟨by rw [f_ref, if_pos hc_2, if_pos hc_10, if_neg hc_18], by rw [f_ref, if_pos hc_2, if_pos hc_10, if_neg hc_18] <;> rfl⟩, by rw [ht]; exact hP, va_K.moved hW.alike hK, hD⟩, hS.F ht⟩) hS.2.2 d_Mod_refused_41
    · skip
      refine lv_iconst (v := 2) hx hb d_Mod_refused_13 (by decide) ?_
      refine lv_goto (tgt := 26) hx hb d_Mod_refused_14 rfl ?_
      refine va_put (D := (dC, dI)) (ci := 5) (v := .int 2) (ty := .int) (C := R_Mod) (T := F_Mod) (N := 21) hx hb hts (fun w h => List.mem_cons_of_mem _ (in_Mod w h)) t_Mod t_Mod_ok n_Mod hown hK hP hD hS 0 rfl rfl 0 (by decide) (hts _ (List.mem_cons_of_mem _ mw_3_156)) (fun _ h9 => h9) rfl (by decide +kernel) rfl rfl (Nat.le_of_ble_eq_true rfl) d_Mod_refused_26 (fun H locs hP hD hS => ?_)
      have hP : va_P (dC, dI) classes [(am, .inr (5, [.int 2, .ref am_there, .ref am_ones, .ref am_others, .ref am_xs, .ref am_ys, .int zm_many, .ref am_a, .ref am_b, .ref am_from, .ref am_to, .ref am_way, .ref am_depth, .ref am_above, .ref am_pile, .ref am_next, .ref am_leader, .ref am_turned, .ref am_piece, .ref am_numbers, .ref am_row]))] H := hP
      have hD : va_D A [(am, .inr (5, [.int 2, .ref am_there, .ref am_ones, .ref am_others, .ref am_xs, .ref am_ys, .int zm_many, .ref am_a, .ref am_b, .ref am_from, .ref am_to, .ref am_way, .ref am_depth, .ref am_above, .ref am_pile, .ref am_next, .ref am_leader, .ref am_turned, .ref am_piece, .ref am_numbers, .ref am_row]))] := hD
      refine lv_aload_n hx hb d_Mod_refused_29 rfl (lv_at hl 0 rfl) ?_
      refine va_get (D := (dC, dI)) (ci := 5) (v := .int 2) (C := R_Mod) (T := F_Mod) (N := 21) hx hb hts (fun w h => List.mem_cons_of_mem _ (in_Mod w h)) hown hK hP 0 rfl rfl 0 (by decide) (hts _ (List.mem_cons_of_mem _ mw_3_156)) (fun _ h9 => h9) rfl d_Mod_refused_30 ?_
      refine lv_if_le (tgt := 40) hx hb d_Mod_refused_33 rfl (fun hc_33 => absurd hc_33 (by decide)) (fun hc_33 => ?_)
      refine lv_iconst (v := 1) hx hb d_Mod_refused_36 (by decide) ?_
      refine lv_goto (tgt := 41) hx hb d_Mod_refused_37 rfl ?_
      exact W.zret (v := 1) (ty := .boolean) hx hb hr rfl (fun t ht hW => ⟨⟨1, (2), rfl, ⟨by rw [f_ref, if_pos hc_2, if_neg hc_10], by rw [f_ref, if_pos hc_2, if_neg hc_10] <;> rfl⟩, by rw [ht]; exact hP, va_K.moved hW.alike hK, hD⟩, hS.F ht⟩) hS.2.2 d_Mod_refused_41
  · skip
    refine lv_iconst (v := 1) hx hb d_Mod_refused_5 (by decide) ?_
    refine lv_goto (tgt := 26) hx hb d_Mod_refused_6 rfl ?_
    refine va_put (D := (dC, dI)) (ci := 5) (v := .int 1) (ty := .int) (C := R_Mod) (T := F_Mod) (N := 21) hx hb hts (fun w h => List.mem_cons_of_mem _ (in_Mod w h)) t_Mod t_Mod_ok n_Mod hown hK hP hD hS 0 rfl rfl 0 (by decide) (hts _ (List.mem_cons_of_mem _ mw_3_156)) (fun _ h9 => h9) rfl (by decide +kernel) rfl rfl (Nat.le_of_ble_eq_true rfl) d_Mod_refused_26 (fun H locs hP hD hS => ?_)
    have hP : va_P (dC, dI) classes [(am, .inr (5, [.int 1, .ref am_there, .ref am_ones, .ref am_others, .ref am_xs, .ref am_ys, .int zm_many, .ref am_a, .ref am_b, .ref am_from, .ref am_to, .ref am_way, .ref am_depth, .ref am_above, .ref am_pile, .ref am_next, .ref am_leader, .ref am_turned, .ref am_piece, .ref am_numbers, .ref am_row]))] H := hP
    have hD : va_D A [(am, .inr (5, [.int 1, .ref am_there, .ref am_ones, .ref am_others, .ref am_xs, .ref am_ys, .int zm_many, .ref am_a, .ref am_b, .ref am_from, .ref am_to, .ref am_way, .ref am_depth, .ref am_above, .ref am_pile, .ref am_next, .ref am_leader, .ref am_turned, .ref am_piece, .ref am_numbers, .ref am_row]))] := hD
    refine lv_aload_n hx hb d_Mod_refused_29 rfl (lv_at hl 0 rfl) ?_
    refine va_get (D := (dC, dI)) (ci := 5) (v := .int 1) (C := R_Mod) (T := F_Mod) (N := 21) hx hb hts (fun w h => List.mem_cons_of_mem _ (in_Mod w h)) hown hK hP 0 rfl rfl 0 (by decide) (hts _ (List.mem_cons_of_mem _ mw_3_156)) (fun _ h9 => h9) rfl d_Mod_refused_30 ?_
    refine lv_if_le (tgt := 40) hx hb d_Mod_refused_33 rfl (fun hc_33 => absurd hc_33 (by decide)) (fun hc_33 => ?_)
    refine lv_iconst (v := 1) hx hb d_Mod_refused_36 (by decide) ?_
    refine lv_goto (tgt := 41) hx hb d_Mod_refused_37 rfl ?_
    exact W.zret (v := 1) (ty := .boolean) hx hb hr rfl (fun t ht hW => ⟨⟨1, (1), rfl, ⟨by rw [f_ref, if_neg hc_2], by rw [f_ref, if_neg hc_2] <;> rfl⟩, by rw [ht]; exact hP, va_K.moved hW.alike hK, hD⟩, hS.F ht⟩) hS.2.2 d_Mod_refused_41
set_option maxHeartbeats 4000000 in
set_option maxRecDepth 100000 in
theorem c_isThere0 (l : Launch) (dC : Nat → ClassId) (dI : Nat → Nat → Nat) (sz : Nat) (am am_there am_ones am_others am_xs am_ys am_a am_b am_from am_to am_way am_depth am_above am_pile am_next am_leader am_turned am_piece am_numbers am_row : Nat) (km_there : ClassId) (zm_thrown : Int32) (zm_many : Int32) (zm_there : Nat → Int32) (vi : Int32) (hz : ∀ j : Nat, j < 10 → zm_there j = 0) : Met l y_Mod_isThere w_Mod_isThere ({ frames := 1, cells := 0, slots := 0, locals := 20 }) (Pre_ dC dI sz [.ref am, .int vi] [(am, .inr (5, [.int zm_thrown, .ref am_there, .ref am_ones, .ref am_others, .ref am_xs, .ref am_ys, .int zm_many, .ref am_a, .ref am_b, .ref am_from, .ref am_to, .ref am_way, .ref am_depth, .ref am_above, .ref am_pile, .ref am_next, .ref am_leader, .ref am_turned, .ref am_piece, .ref am_numbers, .ref am_row])), (am_there, .inl (km_there, 10, .inl zm_there))] [(km_there, .boolean)]) (va_Qi (fun (r : Int32) (u : Unit) => r = 0) (fun u t => End_ dC dI (va_A [(am, .inr (5, [.int zm_thrown, .ref am_there, .ref am_ones, .ref am_others, .ref am_xs, .ref am_ys, .int zm_many, .ref am_a, .ref am_b, .ref am_from, .ref am_to, .ref am_way, .ref am_depth, .ref am_above, .ref am_pile, .ref am_next, .ref am_leader, .ref am_turned, .ref am_piece, .ref am_numbers, .ref am_row])), (am_there, .inl (km_there, 10, .inl zm_there))] sz) [(km_there, .boolean)] [(am, .inr (5, [.int zm_thrown, .ref am_there, .ref am_ones, .ref am_others, .ref am_xs, .ref am_ys, .int zm_many, .ref am_a, .ref am_b, .ref am_from, .ref am_to, .ref am_way, .ref am_depth, .ref am_above, .ref am_pile, .ref am_next, .ref am_leader, .ref am_turned, .ref am_piece, .ref am_numbers, .ref am_row])), (am_there, .inl (km_there, 10, .inl zm_there))] t) (va_A [(am, .inr (5, [.int zm_thrown, .ref am_there, .ref am_ones, .ref am_others, .ref am_xs, .ref am_ys, .int zm_many, .ref am_a, .ref am_b, .ref am_from, .ref am_to, .ref am_way, .ref am_depth, .ref am_above, .ref am_pile, .ref am_next, .ref am_leader, .ref am_turned, .ref am_piece, .ref am_numbers, .ref am_row])), (am_there, .inl (km_there, 10, .inl zm_there))] sz)) 0 0 (va_A [(am, .inr (5, [.int zm_thrown, .ref am_there, .ref am_ones, .ref am_others, .ref am_xs, .ref am_ys, .int zm_many, .ref am_a, .ref am_b, .ref am_from, .ref am_to, .ref am_way, .ref am_depth, .ref am_above, .ref am_pile, .ref am_next, .ref am_leader, .ref am_turned, .ref am_piece, .ref am_numbers, .ref am_row])), (am_there, .inl (km_there, 10, .inl zm_there))] sz) := by
  refine Met.ofW (cc := b_Mod_isThere) (maxL := 2) (ret := (some .boolean)) (by decide) rfl ?_
  intro p e s m args below meth c s₁ B hml hv
  obtain ⟨hargs, hsz, hP, hK, hD0, hN⟩ := hv
  have hx := B.exec
  have hb := B.bytes
  have hr := B.returns
  have hts := atoms_spec (ws := w_Mod_isThere) B.pre
  have hown : s.vm.findClass R_Mod = some m.cls := findClass_of_methodNamed B.named
  have hlocks := B.notSynchronized
  subst hsz
  have hD := hD0.self (sz := s.heap.size)
  generalize hAe : va_A [(am, .inr (5, [.int zm_thrown, .ref am_there, .ref am_ones, .ref am_others, .ref am_xs, .ref am_ys, .int zm_many, .ref am_a, .ref am_b, .ref am_from, .ref am_to, .ref am_way, .ref am_depth, .ref am_above, .ref am_pile, .ref am_next, .ref am_leader, .ref am_turned, .ref am_piece, .ref am_numbers, .ref am_row])), (am_there, .inl (km_there, 10, .inl zm_there))] s.heap.size = A at hD ⊢
  have hA : ∀ q : Nat, s.heap.size ≤ q → A q := fun q h => by rw [← hAe]; exact Or.inr h
  have hS : va_S A s.heap s.heap [] := va_S.rf
  have hl := lv_entry ([.ref am, .int vi]) (n := 2) (Nat.le_of_ble_eq_true rfl)
  refine W.eq (congrArg (fun a => entryFrame m a 2) hargs) ?_
  rw [lg_entry_eq]
  generalize (lg_sl ([.ref am, .int vi]) ++ List.replicate (2 - (lg_sl ([.ref am, .int vi])).length) Slot.unset).toArray = ls at hl ⊢
  have hl : lv_has ls 2 [(0, .ref am), (1, .int vi)] := hl
  generalize hH0 : ([] : List Loc) = locs at hS ⊢
  refine lv_iload_n hx hb d_Mod_isThere_0 rfl (lv_at hl 1 rfl) ?_
  have hPc := hP.sub (ws' := []) [] rfl
  have hDc := hD.sub (ws' := []) [] (by decide) rfl
  have hKc := hK.sub (tys' := []) [] rfl
  have hFc := va_free (wc := []) hD hS hA [] rfl
  refine va_calli (va_runS (As := [.int vi]) (rest := []) ⟨hx, hb, hml, hown, hts⟩ (c_isNode l dC dI s.heap.size vi) (cwS 1 hts (gi3 mw_3_229 mw_3_230 mw_1_6 mw_3_231) rfl rfl rfl (by decide +kernel) ⟨Nat.le_of_ble_eq_true rfl, Nat.le_of_ble_eq_true rfl⟩) ⟨fb_, pre_ hPc hKc hDc hN⟩ rfl rfl hl.1 rfl (lv_room (Nat.le_of_ble_eq_true rfl)) d_Mod_isThere_1 ⟨Nat.le_of_ble_eq_true rfl, Nat.le_of_ble_eq_true rfl⟩) hS (fun q _ h => hFc q h) hFc (fun r_1 u t H locs ht hvm hp_1 hB hz1 hk1 hS => ?_)
  have hp_1 : r_1 = f_isNN vi := hp_1
  obtain ⟨hP1, -, hD1⟩ := hB
  rw [ht] at hP1
  obtain ⟨hP, hD⟩ := va_join (wr := [(am, .inr (5, [.int zm_thrown, .ref am_there, .ref am_ones, .ref am_others, .ref am_xs, .ref am_ys, .int zm_many, .ref am_a, .ref am_b, .ref am_from, .ref am_to, .ref am_way, .ref am_depth, .ref am_above, .ref am_pile, .ref am_next, .ref am_leader, .ref am_turned, .ref am_piece, .ref am_numbers, .ref am_row])), (am_there, .inl (km_there, 10, .inl zm_there))]) (w1 := []) hP hD [] [0, 1] rfl rfl (by decide) (by decide) hk1 hFc hP1 hD1
  have hP : va_P (dC, dI) classes [(am, .inr (5, [.int zm_thrown, .ref am_there, .ref am_ones, .ref am_others, .ref am_xs, .ref am_ys, .int zm_many, .ref am_a, .ref am_b, .ref am_from, .ref am_to, .ref am_way, .ref am_depth, .ref am_above, .ref am_pile, .ref am_next, .ref am_leader, .ref am_turned, .ref am_piece, .ref am_numbers, .ref am_row])), (am_there, .inl (km_there, 10, .inl zm_there))] H := hP
  have hD : va_D A [(am, .inr (5, [.int zm_thrown, .ref am_there, .ref am_ones, .ref am_others, .ref am_xs, .ref am_ys, .int zm_many, .ref am_a, .ref am_b, .ref am_from, .ref am_to, .ref am_way, .ref am_depth, .ref am_above, .ref am_pile, .ref am_next, .ref am_leader, .ref am_turned, .ref am_piece, .ref am_numbers, .ref am_row])), (am_there, .inl (km_there, 10, .inl zm_there))] := hD
  refine lv_if_eq (tgt := 20) hx hb d_Mod_isThere_4 rfl (fun hc_4 => ?_) (fun hc_4 => ?_)
  · skip
    refine lv_iconst (v := 0) hx hb d_Mod_isThere_20 (by decide) ?_
    exact W.zret (v := 0) (ty := .boolean) hx hb hr rfl (fun t ht hW => ⟨⟨0, (), rfl, rfl, by rw [ht]; exact hP, va_K.moved hW.alike hK, hD⟩, hS.F ht⟩) hS.2.2 d_Mod_isThere_21
  · skip
    refine lv_aload_n hx hb d_Mod_isThere_7 rfl (lv_at hl 0 rfl) ?_
    refine va_get (D := (dC, dI)) (ci := 5) (v := .ref am_there) (C := R_Mod) (T := F_Mod) (N := 21) hx hb hts (fun w h => List.mem_cons_of_mem _ (in_Mod w h)) hown hK hP 0 rfl rfl 1 (by decide) (hts _ (List.mem_cons_of_mem _ mw_3_157)) (fun _ h9 => h9) rfl d_Mod_isThere_8 ?_
    refine lv_iload_n hx hb d_Mod_isThere_11 rfl (lv_at hl 1 rfl) ?_
    refine va_zald (D := (dC, dI)) hx hb hK hP 1 0 rfl rfl (isNN_in (by rw [← hp_1]; exact hc_4)) d_Mod_isThere_12 ?_
    refine lv_if_eq (tgt := 20) hx hb d_Mod_isThere_13 rfl (fun hc_13 => ?_) (fun hc_13 => absurd (hz _ (in_lt (isNN_in (by rw [← hp_1]; exact hc_4)))) hc_13)
    refine lv_iconst (v := 0) hx hb d_Mod_isThere_20 (by decide) ?_
    exact W.zret (v := 0) (ty := .boolean) hx hb hr rfl (fun t ht hW => ⟨⟨0, (), rfl, rfl, by rw [ht]; exact hP, va_K.moved hW.alike hK, hD⟩, hS.F ht⟩) hS.2.2 d_Mod_isThere_21
set_option maxHeartbeats 4000000 in
set_option maxRecDepth 100000 in
theorem c_isLine0 (l : Launch) (dC : Nat → ClassId) (dI : Nat → Nat → Nat) (sz : Nat) (am am_there am_ones am_others am_xs am_ys am_a am_b am_from am_to am_way am_depth am_above am_pile am_next am_leader am_turned am_piece am_numbers am_row : Nat) (km_ones : ClassId) (zm_thrown : Int32) (zm_many : Int32) (zm_ones : Nat → Int32) (vi : Int32) (ho : ∀ j : Nat, j < 24 → zm_ones j = (-1)) : Met l y_Mod_isLine w_Mod_isLine ({ frames := 0, cells := 0, slots := 0, locals := 0 }) (Pre_ dC dI sz [.ref am, .int vi] [(am, .inr (5, [.int zm_thrown, .ref am_there, .ref am_ones, .ref am_others, .ref am_xs, .ref am_ys, .int zm_many, .ref am_a, .ref am_b, .ref am_from, .ref am_to, .ref am_way, .ref am_depth, .ref am_above, .ref am_pile, .ref am_next, .ref am_leader, .ref am_turned, .ref am_piece, .ref am_numbers, .ref am_row])), (am_ones, .inl (km_ones, 24, .inl zm_ones))] [(km_ones, .int)]) (va_Qi (fun (r : Int32) (u : Unit) => r = 0) (fun u t => End_ dC dI (va_A [(am, .inr (5, [.int zm_thrown, .ref am_there, .ref am_ones, .ref am_others, .ref am_xs, .ref am_ys, .int zm_many, .ref am_a, .ref am_b, .ref am_from, .ref am_to, .ref am_way, .ref am_depth, .ref am_above, .ref am_pile, .ref am_next, .ref am_leader, .ref am_turned, .ref am_piece, .ref am_numbers, .ref am_row])), (am_ones, .inl (km_ones, 24, .inl zm_ones))] sz) [(km_ones, .int)] [(am, .inr (5, [.int zm_thrown, .ref am_there, .ref am_ones, .ref am_others, .ref am_xs, .ref am_ys, .int zm_many, .ref am_a, .ref am_b, .ref am_from, .ref am_to, .ref am_way, .ref am_depth, .ref am_above, .ref am_pile, .ref am_next, .ref am_leader, .ref am_turned, .ref am_piece, .ref am_numbers, .ref am_row])), (am_ones, .inl (km_ones, 24, .inl zm_ones))] t) (va_A [(am, .inr (5, [.int zm_thrown, .ref am_there, .ref am_ones, .ref am_others, .ref am_xs, .ref am_ys, .int zm_many, .ref am_a, .ref am_b, .ref am_from, .ref am_to, .ref am_way, .ref am_depth, .ref am_above, .ref am_pile, .ref am_next, .ref am_leader, .ref am_turned, .ref am_piece, .ref am_numbers, .ref am_row])), (am_ones, .inl (km_ones, 24, .inl zm_ones))] sz)) 0 0 (va_A [(am, .inr (5, [.int zm_thrown, .ref am_there, .ref am_ones, .ref am_others, .ref am_xs, .ref am_ys, .int zm_many, .ref am_a, .ref am_b, .ref am_from, .ref am_to, .ref am_way, .ref am_depth, .ref am_above, .ref am_pile, .ref am_next, .ref am_leader, .ref am_turned, .ref am_piece, .ref am_numbers, .ref am_row])), (am_ones, .inl (km_ones, 24, .inl zm_ones))] sz) := by
  refine Met.ofW (cc := b_Mod_isLine) (maxL := 2) (ret := (some .boolean)) (by decide) rfl ?_
  intro p e s m args below meth c s₁ B hml hv
  obtain ⟨hargs, hsz, hP, hK, hD0, hN⟩ := hv
  have hx := B.exec
  have hb := B.bytes
  have hr := B.returns
  have hts := atoms_spec (ws := w_Mod_isLine) B.pre
  have hown : s.vm.findClass R_Mod = some m.cls := findClass_of_methodNamed B.named
  have hlocks := B.notSynchronized
  subst hsz
  have hD := hD0.self (sz := s.heap.size)
  generalize hAe : va_A [(am, .inr (5, [.int zm_thrown, .ref am_there, .ref am_ones, .ref am_others, .ref am_xs, .ref am_ys, .int zm_many, .ref am_a, .ref am_b, .ref am_from, .ref am_to, .ref am_way, .ref am_depth, .ref am_above, .ref am_pile, .ref am_next, .ref am_leader, .ref am_turned, .ref am_piece, .ref am_numbers, .ref am_row])), (am_ones, .inl (km_ones, 24, .inl zm_ones))] s.heap.size = A at hD ⊢
  have hA : ∀ q : Nat, s.heap.size ≤ q → A q := fun q h => by rw [← hAe]; exact Or.inr h
  have hS : va_S A s.heap s.heap [] := va_S.rf
  have hl := lv_entry ([.ref am, .int vi]) (n := 2) (Nat.le_of_ble_eq_true rfl)
  refine W.eq (congrArg (fun a => entryFrame m a 2) hargs) ?_
  rw [lg_entry_eq]
  generalize (lg_sl ([.ref am, .int vi]) ++ List.replicate (2 - (lg_sl ([.ref am, .int vi])).length) Slot.unset).toArray = ls at hl ⊢
  have hl : lv_has ls 2 [(0, .ref am), (1, .int vi)] := hl
  generalize hH0 : ([] : List Loc) = locs at hS ⊢
  refine lv_iload_n hx hb d_Mod_isLine_0 rfl (lv_at hl 1 rfl) ?_
  refine lv_if_lt (tgt := 23) hx hb d_Mod_isLine_1 rfl (fun hc_1 => ?_) (fun hc_1 => ?_)
  · skip
    refine lv_iconst (v := 0) hx hb d_Mod_isLine_23 (by decide) ?_
    exact W.zret (v := 0) (ty := .boolean) hx hb hr rfl (fun t ht hW => ⟨⟨0, (), rfl, rfl, by rw [ht]; exact hP, va_K.moved hW.alike hK, hD⟩, hS.F ht⟩) hS.2.2 d_Mod_isLine_24
  · skip
    refine lv_iload_n hx hb d_Mod_isLine_4 rfl (lv_at hl 1 rfl) ?_
    refine lv_bipush (v := 24) hx hb d_Mod_isLine_5 (by decide) ?_
    refine lv_icmp_ge (tgt := 23) hx hb d_Mod_isLine_7 rfl (fun hc_7 => ?_) (fun hc_7 => ?_)
    · skip
      refine lv_iconst (v := 0) hx hb d_Mod_isLine_23 (by decide) ?_
      exact W.zret (v := 0) (ty := .boolean) hx hb hr rfl (fun t ht hW => ⟨⟨0, (), rfl, rfl, by rw [ht]; exact hP, va_K.moved hW.alike hK, hD⟩, hS.F ht⟩) hS.2.2 d_Mod_isLine_24
    · skip
      refine lv_aload_n hx hb d_Mod_isLine_10 rfl (lv_at hl 0 rfl) ?_
      refine va_get (D := (dC, dI)) (ci := 5) (v := .ref am_ones) (C := R_Mod) (T := F_Mod) (N := 21) hx hb hts (fun w h => List.mem_cons_of_mem _ (in_Mod w h)) hown hK hP 0 rfl rfl 2 (by decide) (hts _ (List.mem_cons_of_mem _ mw_3_158)) (fun _ h9 => h9) rfl d_Mod_isLine_11 ?_
      refine lv_iload_n hx hb d_Mod_isLine_14 rfl (lv_at hl 1 rfl) ?_
      refine va_iald (D := (dC, dI)) hx hb hK hP 1 0 rfl rfl (in_of 24 rfl (by decide) hc_1 hc_7) d_Mod_isLine_15 ?_
      refine lv_if_lt (tgt := 23) hx hb d_Mod_isLine_16 rfl (fun hc_16 => ?_) (fun hc_16 => absurd (by rw [ho _ (in_lt (in_of 24 rfl (by decide) hc_1 hc_7))]; decide) hc_16)
      refine lv_iconst (v := 0) hx hb d_Mod_isLine_23 (by decide) ?_
      exact W.zret (v := 0) (ty := .boolean) hx hb hr rfl (fun t ht hW => ⟨⟨0, (), rfl, rfl, by rw [ht]; exact hP, va_K.moved hW.alike hK, hD⟩, hS.F ht⟩) hS.2.2 d_Mod_isLine_24
set_option maxHeartbeats 4000000 in
set_option maxRecDepth 100000 in
theorem c_lineBetween0 (l : Launch) (dC : Nat → ClassId) (dI : Nat → Nat → Nat) (sz : Nat) (am am_there am_ones am_others am_xs am_ys am_a am_b am_from am_to am_way am_depth am_above am_pile am_next am_leader am_turned am_piece am_numbers am_row : Nat) (km_ones : ClassId) (zm_thrown : Int32) (zm_many : Int32) (zm_ones : Nat → Int32) (vi vj : Int32) (ho : ∀ j : Nat, j < 24 → zm_ones j = (-1)) : Met l y_Mod_lineBetween w_Mod_lineBetween ({ frames := 0, cells := 0, slots := 0, locals := 0 }) (Pre_ dC dI sz [.ref am, .int vi, .int vj] [(am, .inr (5, [.int zm_thrown, .ref am_there, .ref am_ones, .ref am_others, .ref am_xs, .ref am_ys, .int zm_many, .ref am_a, .ref am_b, .ref am_from, .ref am_to, .ref am_way, .ref am_depth, .ref am_above, .ref am_pile, .ref am_next, .ref am_leader, .ref am_turned, .ref am_piece, .ref am_numbers, .ref am_row])), (am_ones, .inl (km_ones, 24, .inl zm_ones))] [(km_ones, .int)]) (va_Qi (fun (r : Int32) (u : Unit) => r = (-1)) (fun u t => End_ dC dI (va_A [(am, .inr (5, [.int zm_thrown, .ref am_there, .ref am_ones, .ref am_others, .ref am_xs, .ref am_ys, .int zm_many, .ref am_a, .ref am_b, .ref am_from, .ref am_to, .ref am_way, .ref am_depth, .ref am_above, .ref am_pile, .ref am_next, .ref am_leader, .ref am_turned, .ref am_piece, .ref am_numbers, .ref am_row])), (am_ones, .inl (km_ones, 24, .inl zm_ones))] sz) [(km_ones, .int)] [(am, .inr (5, [.int zm_thrown, .ref am_there, .ref am_ones, .ref am_others, .ref am_xs, .ref am_ys, .int zm_many, .ref am_a, .ref am_b, .ref am_from, .ref am_to, .ref am_way, .ref am_depth, .ref am_above, .ref am_pile, .ref am_next, .ref am_leader, .ref am_turned, .ref am_piece, .ref am_numbers, .ref am_row])), (am_ones, .inl (km_ones, 24, .inl zm_ones))] t) (va_A [(am, .inr (5, [.int zm_thrown, .ref am_there, .ref am_ones, .ref am_others, .ref am_xs, .ref am_ys, .int zm_many, .ref am_a, .ref am_b, .ref am_from, .ref am_to, .ref am_way, .ref am_depth, .ref am_above, .ref am_pile, .ref am_next, .ref am_leader, .ref am_turned, .ref am_piece, .ref am_numbers, .ref am_row])), (am_ones, .inl (km_ones, 24, .inl zm_ones))] sz)) 0 0 (va_A [(am, .inr (5, [.int zm_thrown, .ref am_there, .ref am_ones, .ref am_others, .ref am_xs, .ref am_ys, .int zm_many, .ref am_a, .ref am_b, .ref am_from, .ref am_to, .ref am_way, .ref am_depth, .ref am_above, .ref am_pile, .ref am_next, .ref am_leader, .ref am_turned, .ref am_piece, .ref am_numbers, .ref am_row])), (am_ones, .inl (km_ones, 24, .inl zm_ones))] sz) := by
  refine Met.ofW (cc := b_Mod_lineBetween) (maxL := 5) (ret := (some .int)) (by decide) rfl ?_
  intro p e s m args below meth c s₁ B hml hv
  obtain ⟨hargs, hsz, hP, hK, hD0, hN⟩ := hv
  have hx := B.exec
  have hb := B.bytes
  have hr := B.returns
  have hts := atoms_spec (ws := w_Mod_lineBetween) B.pre
  have hown : s.vm.findClass R_Mod = some m.cls := findClass_of_methodNamed B.named
  have hlocks := B.notSynchronized
  subst hsz
  have hD := hD0.self (sz := s.heap.size)
  generalize hAe : va_A [(am, .inr (5, [.int zm_thrown, .ref am_there, .ref am_ones, .ref am_others, .ref am_xs, .ref am_ys, .int zm_many, .ref am_a, .ref am_b, .ref am_from, .ref am_to, .ref am_way, .ref am_depth, .ref am_above, .ref am_pile, .ref am_next, .ref am_leader, .ref am_turned, .ref am_piece, .ref am_numbers, .ref am_row])), (am_ones, .inl (km_ones, 24, .inl zm_ones))] s.heap.size = A at hD ⊢
  have hA : ∀ q : Nat, s.heap.size ≤ q → A q := fun q h => by rw [← hAe]; exact Or.inr h
  have hS : va_S A s.heap s.heap [] := va_S.rf
  have hl := lv_entry ([.ref am, .int vi, .int vj]) (n := 5) (Nat.le_of_ble_eq_true rfl)
  refine W.eq (congrArg (fun a => entryFrame m a 5) hargs) ?_
  rw [lg_entry_eq]
  generalize (lg_sl ([.ref am, .int vi, .int vj]) ++ List.replicate (5 - (lg_sl ([.ref am, .int vi, .int vj])).length) Slot.unset).toArray = ls at hl ⊢
  have hl : lv_has ls 5 [(0, .ref am), (1, .int vi), (2, .int vj)] := hl
  generalize hH0 : ([] : List Loc) = locs at hS ⊢
  refine lv_iconst (v := -1) hx hb d_Mod_lineBetween_0 (by decide) ?_
  refine lv_istore_n (lv' := [(3, .int ((-1))), (0, .ref am), (1, .int vi), (2, .int vj)]) hx hb d_Mod_lineBetween_1 rfl hl (by decide) rfl (fun ls hl => ?_)
  refine lv_iconst (v := 0) hx hb d_Mod_lineBetween_2 (by decide) ?_
  refine lv_istore (lv' := [(4, .int 0), (3, .int ((-1))), (0, .ref am), (1, .int vi), (2, .int vj)]) hx hb d_Mod_lineBetween_3 hl (by decide) rfl (fun ls hl => ?_)
  have X_5 : ∀ (k_5 : Nat) (H : Heap) (locs : List Loc) (ls : Array Slot), (True) → va_P (dC, dI) classes [(am, .inr (5, [.int zm_thrown, .ref am_there, .ref am_ones, .ref am_others, .ref am_xs, .ref am_ys, .int zm_many, .ref am_a, .ref am_b, .ref am_from, .ref am_to, .ref am_way, .ref am_depth, .ref am_above, .ref am_pile, .ref am_next, .ref am_leader, .ref am_turned, .ref am_piece, .ref am_numbers, .ref am_row])), (am_ones, .inl (km_ones, 24, .inl zm_ones))] H → va_D A [(am, .inr (5, [.int zm_thrown, .ref am_there, .ref am_ones, .ref am_others, .ref am_xs, .ref am_ys, .int zm_many, .ref am_a, .ref am_b, .ref am_from, .ref am_to, .ref am_way, .ref am_depth, .ref am_above, .ref am_pile, .ref am_next, .ref am_leader, .ref am_turned, .ref am_piece, .ref am_numbers, .ref am_row])), (am_ones, .inl (km_ones, 24, .inl zm_ones))] → va_S A s.heap H locs → lv_has ls 5 [(0, .ref am), (1, .int vi), (2, .int vj), (3, .int ((-1))), (4, .int (nI k_5))] → W p l e (headSpec w_Mod_lineBetween ({ frames := 0, cells := 0, slots := 0, locals := 0 })).room s m args below meth c H locs 0 0 (MQ below (va_Qi (fun (r : Int32) (u : Unit) => r = (-1)) (fun u t => End_ dC dI A [(km_ones, .int)] [(am, .inr (5, [.int zm_thrown, .ref am_there, .ref am_ones, .ref am_others, .ref am_xs, .ref am_ys, .int zm_many, .ref am_a, .ref am_b, .ref am_from, .ref am_to, .ref am_way, .ref am_depth, .ref am_above, .ref am_pile, .ref am_next, .ref am_leader, .ref am_turned, .ref am_piece, .ref am_numbers, .ref am_row])), (am_ones, .inl (km_ones, 24, .inl zm_ones))] t) A) args s 0 0 A) (F0 m 79 ls []) := by
    intro k_5  H locs ls hI_5 hP hD hS hl
    refine lv_iload_n hx hb d_Mod_lineBetween_79 rfl (lv_at hl 3 rfl) ?_
    exact W.iret (v := (-1)) hx hb hr (fun t ht hW => ⟨⟨(-1), (), rfl, rfl, by rw [ht]; exact hP, va_K.moved hW.alike hK, hD⟩, hS.F ht⟩) hS.2.2 d_Mod_lineBetween_80
  have L_5 : ∀ (n_5 k_5 : Nat) (H : Heap) (locs : List Loc) (ls : Array Slot), k_5 + n_5 = 24 → (True) → va_P (dC, dI) classes [(am, .inr (5, [.int zm_thrown, .ref am_there, .ref am_ones, .ref am_others, .ref am_xs, .ref am_ys, .int zm_many, .ref am_a, .ref am_b, .ref am_from, .ref am_to, .ref am_way, .ref am_depth, .ref am_above, .ref am_pile, .ref am_next, .ref am_leader, .ref am_turned, .ref am_piece, .ref am_numbers, .ref am_row])), (am_ones, .inl (km_ones, 24, .inl zm_ones))] H → va_D A [(am, .inr (5, [.int zm_thrown, .ref am_there, .ref am_ones, .ref am_others, .ref am_xs, .ref am_ys, .int zm_many, .ref am_a, .ref am_b, .ref am_from, .ref am_to, .ref am_way, .ref am_depth, .ref am_above, .ref am_pile, .ref am_next, .ref am_leader, .ref am_turned, .ref am_piece, .ref am_numbers, .ref am_row])), (am_ones, .inl (km_ones, 24, .inl zm_ones))] → va_S A s.heap H locs → lv_has ls 5 [(0, .ref am), (1, .int vi), (2, .int vj), (3, .int ((-1))), (4, .int (nI k_5))] → W p l e (headSpec w_Mod_lineBetween ({ frames := 0, cells := 0, slots := 0, locals := 0 })).room s m args below meth c H locs 0 0 (MQ below (va_Qi (fun (r : Int32) (u : Unit) => r = (-1)) (fun u t => End_ dC dI A [(km_ones, .int)] [(am, .inr (5, [.int zm_thrown, .ref am_there, .ref am_ones, .ref am_others, .ref am_xs, .ref am_ys, .int zm_many, .ref am_a, .ref am_b, .ref am_from, .ref am_to, .ref am_way, .ref am_depth, .ref am_above, .ref am_pile, .ref am_next, .ref am_leader, .ref am_turned, .ref am_piece, .ref am_numbers, .ref am_row])), (am_ones, .inl (km_ones, 24, .inl zm_ones))] t) A) args s 0 0 A) (F0 m 5 ls []) := by
    intro n_5
    induction n_5 with
    | zero =>
      intro k_5  H locs ls hkn_5 hI_5 hP hD hS hl
      refine lv_iload hx hb d_Mod_lineBetween_5 (lv_at hl 4 rfl) ?_
      refine lv_bipush (v := 24) hx hb d_Mod_lineBetween_7 (by decide) ?_
      refine lv_icmp_ge (tgt := 79) hx hb d_Mod_lineBetween_9 rfl (fun hc_9 => ?_) (fun hc_9 => absurd (z_exit rfl hkn_5) hc_9)
      have hl := lv_sub hl [0, 1, 2, 3, 4] rfl
      exact X_5 _  _ _ _ hI_5 hP hD hS hl
    | succ n_5 ih_5 =>
      intro k_5  H locs ls hkn_5 hI_5 hP hD hS hl
      refine lv_iload hx hb d_Mod_lineBetween_5 (lv_at hl 4 rfl) ?_
      refine lv_bipush (v := 24) hx hb d_Mod_lineBetween_7 (by decide) ?_
      refine lv_icmp_ge (tgt := 79) hx hb d_Mod_lineBetween_9 rfl (fun hc_9 => absurd hc_9 (z_stay rfl hkn_5 (by decide))) (fun hc_9 => ?_)
      refine lv_aload_n hx hb d_Mod_lineBetween_12 rfl (lv_at hl 0 rfl) ?_
      refine va_get (D := (dC, dI)) (ci := 5) (v := .ref am_ones) (C := R_Mod) (T := F_Mod) (N := 21) hx hb hts (fun w h => List.mem_cons_of_mem _ (in_Mod w h)) hown hK hP 0 rfl rfl 2 (by decide) (hts _ (List.mem_cons_of_mem _ mw_3_158)) (fun _ h9 => h9) rfl d_Mod_lineBetween_13 ?_
      refine lv_iload hx hb d_Mod_lineBetween_16 (lv_at hl 4 rfl) ?_
      refine va_iald (D := (dC, dI)) hx hb hK hP 1 0 rfl rfl (vp_in_nI (by omega) (by decide)) d_Mod_lineBetween_18 ?_
      refine lv_if_lt (tgt := 71) hx hb d_Mod_lineBetween_19 rfl (fun hc_19 => ?_) (fun hc_19 => absurd (by rw [nI_clamp (by omega), ho _ (by omega)]; decide) hc_19)
      refine lv_iload_n hx hb d_Mod_lineBetween_71 rfl (lv_at hl 3 rfl) ?_
      refine lv_istore_n (lv' := [(3, .int ((-1))), (0, .ref am), (1, .int vi), (2, .int vj), (4, .int (nI k_5))]) hx hb d_Mod_lineBetween_72 rfl hl (by decide) rfl (fun ls hl => ?_)
      refine lv_iinc (lv' := [(4, .int (nI (k_5 + 1))), (3, .int ((-1))), (0, .ref am), (1, .int vi), (2, .int vj)]) (k := 4) hx hb d_Mod_lineBetween_73 hl rfl (z_inc _) (by decide) rfl (fun ls hl => ?_)
      refine lv_goto (tgt := 5) hx hb d_Mod_lineBetween_76 rfl ?_
      have hl := lv_sub hl [2, 3, 4, 1, 0] rfl
      exact ih_5 _  _ _ _ (by omega) trivial hP hD hS hl
  have hl : lv_has ls 5 [(0, .ref am), (1, .int vi), (2, .int vj), (3, .int ((-1))), (4, .int (nI 0))] := by first | exact lv_sub hl [2, 3, 4, 1, 0] rfl | (rw [nI_succ]; exact lv_sub hl [2, 3, 4, 1, 0] rfl)
  exact L_5 24 0  _ _ _ rfl trivial hP hD hS hl
set_option maxHeartbeats 4000000 in
set_option maxRecDepth 100000 in
theorem c_firstFree0 (l : Launch) (dC : Nat → ClassId) (dI : Nat → Nat → Nat) (sz : Nat) (am am_there am_ones am_others am_xs am_ys am_a am_b am_from am_to am_way am_depth am_above am_pile am_next am_leader am_turned am_piece am_numbers am_row : Nat) (km_ones : ClassId) (zm_thrown : Int32) (zm_many : Int32) (zm_ones : Nat → Int32) (ho : ∀ j : Nat, j < 24 → zm_ones j = (-1)) : Met l y_Mod_firstFree w_Mod_firstFree ({ frames := 0, cells := 0, slots := 0, locals := 0 }) (Pre_ dC dI sz [.ref am] [(am, .inr (5, [.int zm_thrown, .ref am_there, .ref am_ones, .ref am_others, .ref am_xs, .ref am_ys, .int zm_many, .ref am_a, .ref am_b, .ref am_from, .ref am_to, .ref am_way, .ref am_depth, .ref am_above, .ref am_pile, .ref am_next, .ref am_leader, .ref am_turned, .ref am_piece, .ref am_numbers, .ref am_row])), (am_ones, .inl (km_ones, 24, .inl zm_ones))] [(km_ones, .int)]) (va_Qi (fun (r : Int32) (u : Unit) => r = 0) (fun u t => End_ dC dI (va_A [(am, .inr (5, [.int zm_thrown, .ref am_there, .ref am_ones, .ref am_others, .ref am_xs, .ref am_ys, .int zm_many, .ref am_a, .ref am_b, .ref am_from, .ref am_to, .ref am_way, .ref am_depth, .ref am_above, .ref am_pile, .ref am_next, .ref am_leader, .ref am_turned, .ref am_piece, .ref am_numbers, .ref am_row])), (am_ones, .inl (km_ones, 24, .inl zm_ones))] sz) [(km_ones, .int)] [(am, .inr (5, [.int zm_thrown, .ref am_there, .ref am_ones, .ref am_others, .ref am_xs, .ref am_ys, .int zm_many, .ref am_a, .ref am_b, .ref am_from, .ref am_to, .ref am_way, .ref am_depth, .ref am_above, .ref am_pile, .ref am_next, .ref am_leader, .ref am_turned, .ref am_piece, .ref am_numbers, .ref am_row])), (am_ones, .inl (km_ones, 24, .inl zm_ones))] t) (va_A [(am, .inr (5, [.int zm_thrown, .ref am_there, .ref am_ones, .ref am_others, .ref am_xs, .ref am_ys, .int zm_many, .ref am_a, .ref am_b, .ref am_from, .ref am_to, .ref am_way, .ref am_depth, .ref am_above, .ref am_pile, .ref am_next, .ref am_leader, .ref am_turned, .ref am_piece, .ref am_numbers, .ref am_row])), (am_ones, .inl (km_ones, 24, .inl zm_ones))] sz)) 0 0 (va_A [(am, .inr (5, [.int zm_thrown, .ref am_there, .ref am_ones, .ref am_others, .ref am_xs, .ref am_ys, .int zm_many, .ref am_a, .ref am_b, .ref am_from, .ref am_to, .ref am_way, .ref am_depth, .ref am_above, .ref am_pile, .ref am_next, .ref am_leader, .ref am_turned, .ref am_piece, .ref am_numbers, .ref am_row])), (am_ones, .inl (km_ones, 24, .inl zm_ones))] sz) := by
  refine Met.ofW (cc := b_Mod_firstFree) (maxL := 2) (ret := (some .int)) (by decide) rfl ?_
  intro p e s m args below meth c s₁ B hml hv
  obtain ⟨hargs, hsz, hP, hK, hD0, hN⟩ := hv
  have hx := B.exec
  have hb := B.bytes
  have hr := B.returns
  have hts := atoms_spec (ws := w_Mod_firstFree) B.pre
  have hown : s.vm.findClass R_Mod = some m.cls := findClass_of_methodNamed B.named
  have hlocks := B.notSynchronized
  subst hsz
  have hD := hD0.self (sz := s.heap.size)
  generalize hAe : va_A [(am, .inr (5, [.int zm_thrown, .ref am_there, .ref am_ones, .ref am_others, .ref am_xs, .ref am_ys, .int zm_many, .ref am_a, .ref am_b, .ref am_from, .ref am_to, .ref am_way, .ref am_depth, .ref am_above, .ref am_pile, .ref am_next, .ref am_leader, .ref am_turned, .ref am_piece, .ref am_numbers, .ref am_row])), (am_ones, .inl (km_ones, 24, .inl zm_ones))] s.heap.size = A at hD ⊢
  have hA : ∀ q : Nat, s.heap.size ≤ q → A q := fun q h => by rw [← hAe]; exact Or.inr h
  have hS : va_S A s.heap s.heap [] := va_S.rf
  have hl := lv_entry ([.ref am]) (n := 2) (Nat.le_of_ble_eq_true rfl)
  refine W.eq (congrArg (fun a => entryFrame m a 2) hargs) ?_
  rw [lg_entry_eq]
  generalize (lg_sl ([.ref am]) ++ List.replicate (2 - (lg_sl ([.ref am])).length) Slot.unset).toArray = ls at hl ⊢
  have hl : lv_has ls 2 [(0, .ref am)] := hl
  generalize hH0 : ([] : List Loc) = locs at hS ⊢
  refine lv_iconst (v := 0) hx hb d_Mod_firstFree_0 (by decide) ?_
  refine lv_istore_n (lv' := [(1, .int 0), (0, .ref am)]) hx hb d_Mod_firstFree_1 rfl hl (by decide) rfl (fun ls hl => ?_)
  refine lv_iload_n hx hb d_Mod_firstFree_2 rfl (lv_at hl 0 rfl) ?_
  refine lv_bipush (v := 24) hx hb d_Mod_firstFree_3 (by decide) ?_
  refine lv_icmp_ge (tgt := 23) hx hb d_Mod_firstFree_5 rfl (fun hc_5 => absurd hc_5 (by decide)) (fun hc_5 => ?_)
  refine lv_aload_n hx hb d_Mod_firstFree_8 rfl (lv_at hl 1 rfl) ?_
  refine va_get (D := (dC, dI)) (ci := 5) (v := .ref am_ones) (C := R_Mod) (T := F_Mod) (N := 21) hx hb hts (fun w h => List.mem_cons_of_mem _ (in_Mod w h)) hown hK hP 0 rfl rfl 2 (by decide) (hts _ (List.mem_cons_of_mem _ mw_3_158)) (fun _ h9 => h9) rfl d_Mod_firstFree_9 ?_
  refine lv_iload_n hx hb d_Mod_firstFree_12 rfl (lv_at hl 0 rfl) ?_
  refine va_iald (D := (dC, dI)) hx hb hK hP 1 0 rfl rfl (by unfold vp_in; decide +kernel) d_Mod_firstFree_13 ?_
  refine lv_if_lt (tgt := 23) hx hb d_Mod_firstFree_14 rfl (fun hc_14 => ?_) (fun hc_14 => absurd (by rw [show (0 : Int32).toNatClampNeg = 0 from rfl, ho 0 (by omega)]; decide) hc_14)
  refine lv_iload_n hx hb d_Mod_firstFree_23 rfl (lv_at hl 0 rfl) ?_
  exact W.iret (v := 0) hx hb hr (fun t ht hW => ⟨⟨0, (), rfl, rfl, by rw [ht]; exact hP, va_K.moved hW.alike hK, hD⟩, hS.F ht⟩) hS.2.2 d_Mod_firstFree_24
set_option maxHeartbeats 4000000 in
set_option maxRecDepth 100000 in
theorem c_countNodes (l : Launch) (dC : Nat → ClassId) (dI : Nat → Nat → Nat) (sz : Nat) (am am_there am_ones am_others am_xs am_ys am_a am_b am_from am_to am_way am_depth am_above am_pile am_next am_leader am_turned am_piece am_numbers am_row : Nat) (km_there : ClassId) (zm_thrown : Int32) (zm_many : Int32) (zm_there : Nat → Int32) : Met l y_Mod_countNodes w_Mod_countNodes ({ frames := 0, cells := 0, slots := 0, locals := 0 }) (Pre_ dC dI sz [.ref am] [(am, .inr (5, [.int zm_thrown, .ref am_there, .ref am_ones, .ref am_others, .ref am_xs, .ref am_ys, .int zm_many, .ref am_a, .ref am_b, .ref am_from, .ref am_to, .ref am_way, .ref am_depth, .ref am_above, .ref am_pile, .ref am_next, .ref am_leader, .ref am_turned, .ref am_piece, .ref am_numbers, .ref am_row])), (am_there, .inl (km_there, 10, .inl zm_there))] [(km_there, .boolean)]) (va_Qi (fun (r : Int32) (u : Unit) => r = f_cnt zm_there 10) (fun u t => End_ dC dI (va_A [(am, .inr (5, [.int zm_thrown, .ref am_there, .ref am_ones, .ref am_others, .ref am_xs, .ref am_ys, .int zm_many, .ref am_a, .ref am_b, .ref am_from, .ref am_to, .ref am_way, .ref am_depth, .ref am_above, .ref am_pile, .ref am_next, .ref am_leader, .ref am_turned, .ref am_piece, .ref am_numbers, .ref am_row])), (am_there, .inl (km_there, 10, .inl zm_there))] sz) [(km_there, .boolean)] [(am, .inr (5, [.int zm_thrown, .ref am_there, .ref am_ones, .ref am_others, .ref am_xs, .ref am_ys, .int zm_many, .ref am_a, .ref am_b, .ref am_from, .ref am_to, .ref am_way, .ref am_depth, .ref am_above, .ref am_pile, .ref am_next, .ref am_leader, .ref am_turned, .ref am_piece, .ref am_numbers, .ref am_row])), (am_there, .inl (km_there, 10, .inl zm_there))] t) (va_A [(am, .inr (5, [.int zm_thrown, .ref am_there, .ref am_ones, .ref am_others, .ref am_xs, .ref am_ys, .int zm_many, .ref am_a, .ref am_b, .ref am_from, .ref am_to, .ref am_way, .ref am_depth, .ref am_above, .ref am_pile, .ref am_next, .ref am_leader, .ref am_turned, .ref am_piece, .ref am_numbers, .ref am_row])), (am_there, .inl (km_there, 10, .inl zm_there))] sz)) 0 0 (va_A [(am, .inr (5, [.int zm_thrown, .ref am_there, .ref am_ones, .ref am_others, .ref am_xs, .ref am_ys, .int zm_many, .ref am_a, .ref am_b, .ref am_from, .ref am_to, .ref am_way, .ref am_depth, .ref am_above, .ref am_pile, .ref am_next, .ref am_leader, .ref am_turned, .ref am_piece, .ref am_numbers, .ref am_row])), (am_there, .inl (km_there, 10, .inl zm_there))] sz) := by
  refine Met.ofW (cc := b_Mod_countNodes) (maxL := 3) (ret := (some .int)) (by decide) rfl ?_
  intro p e s m args below meth c s₁ B hml hv
  obtain ⟨hargs, hsz, hP, hK, hD0, hN⟩ := hv
  have hx := B.exec
  have hb := B.bytes
  have hr := B.returns
  have hts := atoms_spec (ws := w_Mod_countNodes) B.pre
  have hown : s.vm.findClass R_Mod = some m.cls := findClass_of_methodNamed B.named
  have hlocks := B.notSynchronized
  subst hsz
  have hD := hD0.self (sz := s.heap.size)
  generalize hAe : va_A [(am, .inr (5, [.int zm_thrown, .ref am_there, .ref am_ones, .ref am_others, .ref am_xs, .ref am_ys, .int zm_many, .ref am_a, .ref am_b, .ref am_from, .ref am_to, .ref am_way, .ref am_depth, .ref am_above, .ref am_pile, .ref am_next, .ref am_leader, .ref am_turned, .ref am_piece, .ref am_numbers, .ref am_row])), (am_there, .inl (km_there, 10, .inl zm_there))] s.heap.size = A at hD ⊢
  have hA : ∀ q : Nat, s.heap.size ≤ q → A q := fun q h => by rw [← hAe]; exact Or.inr h
  have hS : va_S A s.heap s.heap [] := va_S.rf
  have hl := lv_entry ([.ref am]) (n := 3) (Nat.le_of_ble_eq_true rfl)
  refine W.eq (congrArg (fun a => entryFrame m a 3) hargs) ?_
  rw [lg_entry_eq]
  generalize (lg_sl ([.ref am]) ++ List.replicate (3 - (lg_sl ([.ref am])).length) Slot.unset).toArray = ls at hl ⊢
  have hl : lv_has ls 3 [(0, .ref am)] := hl
  generalize hH0 : ([] : List Loc) = locs at hS ⊢
  refine lv_iconst (v := 0) hx hb d_Mod_countNodes_0 (by decide) ?_
  refine lv_istore_n (lv' := [(1, .int 0), (0, .ref am)]) hx hb d_Mod_countNodes_1 rfl hl (by decide) rfl (fun ls hl => ?_)
  refine lv_iconst (v := 0) hx hb d_Mod_countNodes_2 (by decide) ?_
  refine lv_istore_n (lv' := [(2, .int 0), (1, .int 0), (0, .ref am)]) hx hb d_Mod_countNodes_3 rfl hl (by decide) rfl (fun ls hl => ?_)
  have X_4 : ∀ (k_4 : Nat) (v1 : Int32) (H : Heap) (locs : List Loc) (ls : Array Slot), (v1 = f_cnt zm_there 10) → va_P (dC, dI) classes [(am, .inr (5, [.int zm_thrown, .ref am_there, .ref am_ones, .ref am_others, .ref am_xs, .ref am_ys, .int zm_many, .ref am_a, .ref am_b, .ref am_from, .ref am_to, .ref am_way, .ref am_depth, .ref am_above, .ref am_pile, .ref am_next, .ref am_leader, .ref am_turned, .ref am_piece, .ref am_numbers, .ref am_row])), (am_there, .inl (km_there, 10, .inl zm_there))] H → va_D A [(am, .inr (5, [.int zm_thrown, .ref am_there, .ref am_ones, .ref am_others, .ref am_xs, .ref am_ys, .int zm_many, .ref am_a, .ref am_b, .ref am_from, .ref am_to, .ref am_way, .ref am_depth, .ref am_above, .ref am_pile, .ref am_next, .ref am_leader, .ref am_turned, .ref am_piece, .ref am_numbers, .ref am_row])), (am_there, .inl (km_there, 10, .inl zm_there))] → va_S A s.heap H locs → lv_has ls 3 [(0, .ref am), (1, .int v1), (2, .int (nI k_4))] → W p l e (headSpec w_Mod_countNodes ({ frames := 0, cells := 0, slots := 0, locals := 0 })).room s m args below meth c H locs 0 0 (MQ below (va_Qi (fun (r : Int32) (u : Unit) => r = f_cnt zm_there 10) (fun u t => End_ dC dI A [(km_there, .boolean)] [(am, .inr (5, [.int zm_thrown, .ref am_there, .ref am_ones, .ref am_others, .ref am_xs, .ref am_ys, .int zm_many, .ref am_a, .ref am_b, .ref am_from, .ref am_to, .ref am_way, .ref am_depth, .ref am_above, .ref am_pile, .ref am_next, .ref am_leader, .ref am_turned, .ref am_piece, .ref am_numbers, .ref am_row])), (am_there, .inl (km_there, 10, .inl zm_there))] t) A) args s 0 0 A) (F0 m 33 ls []) := by
    intro k_4 v1 H locs ls hI_4 hP hD hS hl
    refine lv_iload_n hx hb d_Mod_countNodes_33 rfl (lv_at hl 1 rfl) ?_
    exact W.iret (v := v1) hx hb hr (fun t ht hW => ⟨⟨v1, (), rfl, hI_4, by rw [ht]; exact hP, va_K.moved hW.alike hK, hD⟩, hS.F ht⟩) hS.2.2 d_Mod_countNodes_34
  have L_4 : ∀ (n_4 k_4 : Nat) (v1 : Int32) (H : Heap) (locs : List Loc) (ls : Array Slot), k_4 + n_4 = 10 → (v1 = f_cnt zm_there k_4) → va_P (dC, dI) classes [(am, .inr (5, [.int zm_thrown, .ref am_there, .ref am_ones, .ref am_others, .ref am_xs, .ref am_ys, .int zm_many, .ref am_a, .ref am_b, .ref am_from, .ref am_to, .ref am_way, .ref am_depth, .ref am_above, .ref am_pile, .ref am_next, .ref am_leader, .ref am_turned, .ref am_piece, .ref am_numbers, .ref am_row])), (am_there, .inl (km_there, 10, .inl zm_there))] H → va_D A [(am, .inr (5, [.int zm_thrown, .ref am_there, .ref am_ones, .ref am_others, .ref am_xs, .ref am_ys, .int zm_many, .ref am_a, .ref am_b, .ref am_from, .ref am_to, .ref am_way, .ref am_depth, .ref am_above, .ref am_pile, .ref am_next, .ref am_leader, .ref am_turned, .ref am_piece, .ref am_numbers, .ref am_row])), (am_there, .inl (km_there, 10, .inl zm_there))] → va_S A s.heap H locs → lv_has ls 3 [(0, .ref am), (1, .int v1), (2, .int (nI k_4))] → W p l e (headSpec w_Mod_countNodes ({ frames := 0, cells := 0, slots := 0, locals := 0 })).room s m args below meth c H locs 0 0 (MQ below (va_Qi (fun (r : Int32) (u : Unit) => r = f_cnt zm_there 10) (fun u t => End_ dC dI A [(km_there, .boolean)] [(am, .inr (5, [.int zm_thrown, .ref am_there, .ref am_ones, .ref am_others, .ref am_xs, .ref am_ys, .int zm_many, .ref am_a, .ref am_b, .ref am_from, .ref am_to, .ref am_way, .ref am_depth, .ref am_above, .ref am_pile, .ref am_next, .ref am_leader, .ref am_turned, .ref am_piece, .ref am_numbers, .ref am_row])), (am_there, .inl (km_there, 10, .inl zm_there))] t) A) args s 0 0 A) (F0 m 4 ls []) := by
    intro n_4
    induction n_4 with
    | zero =>
      intro k_4 v1 H locs ls hkn_4 hI_4 hP hD hS hl
      refine lv_iload_n hx hb d_Mod_countNodes_4 rfl (lv_at hl 2 rfl) ?_
      refine lv_bipush (v := 10) hx hb d_Mod_countNodes_5 (by decide) ?_
      refine lv_icmp_ge (tgt := 33) hx hb d_Mod_countNodes_7 rfl (fun hc_7 => ?_) (fun hc_7 => absurd (z_exit rfl hkn_4) hc_7)
      have hl := lv_sub hl [0, 1, 2] rfl
      exact X_4 _ _ _ _ _ (by rw [hI_4, show k_4 = 10 by omega]) hP hD hS hl
    | succ n_4 ih_4 =>
      intro k_4 v1 H locs ls hkn_4 hI_4 hP hD hS hl
      refine lv_iload_n hx hb d_Mod_countNodes_4 rfl (lv_at hl 2 rfl) ?_
      refine lv_bipush (v := 10) hx hb d_Mod_countNodes_5 (by decide) ?_
      refine lv_icmp_ge (tgt := 33) hx hb d_Mod_countNodes_7 rfl (fun hc_7 => absurd hc_7 (z_stay rfl hkn_4 (by decide))) (fun hc_7 => ?_)
      refine lv_aload_n hx hb d_Mod_countNodes_10 rfl (lv_at hl 0 rfl) ?_
      refine va_get (D := (dC, dI)) (ci := 5) (v := .ref am_there) (C := R_Mod) (T := F_Mod) (N := 21) hx hb hts (fun w h => List.mem_cons_of_mem _ (in_Mod w h)) hown hK hP 0 rfl rfl 1 (by decide) (hts _ (List.mem_cons_of_mem _ mw_3_157)) (fun _ h9 => h9) rfl d_Mod_countNodes_11 ?_
      refine lv_iload_n hx hb d_Mod_countNodes_14 rfl (lv_at hl 2 rfl) ?_
      refine va_zald (D := (dC, dI)) hx hb hK hP 1 0 rfl rfl (vp_in_nI (by omega) (by decide)) d_Mod_countNodes_15 ?_
      refine lv_if_eq (tgt := 25) hx hb d_Mod_countNodes_16 rfl (fun hc_16 => ?_) (fun hc_16 => ?_)
      · skip
        refine lv_iload_n hx hb d_Mod_countNodes_25 rfl (lv_at hl 1 rfl) ?_
        refine lv_istore_n (lv' := [(1, .int v1), (0, .ref am), (2, .int (nI k_4))]) hx hb d_Mod_countNodes_26 rfl hl (by decide) rfl (fun ls hl => ?_)
        refine lv_iinc (lv' := [(2, .int (nI (k_4 + 1))), (1, .int v1), (0, .ref am)]) (k := 2) hx hb d_Mod_countNodes_27 hl rfl (z_inc _) (by decide) rfl (fun ls hl => ?_)
        refine lv_goto (tgt := 4) hx hb d_Mod_countNodes_30 rfl ?_
        have hl := lv_sub hl [2, 1, 0] rfl
        exact ih_4 _ _ _ _ _ (by omega) (by have q := hc_16; rw [nI_clamp (by omega)] at q; rw [f_cnt, if_pos q, hI_4]) hP hD hS hl
      · skip
        refine lv_iload_n hx hb d_Mod_countNodes_19 rfl (lv_at hl 1 rfl) ?_
        refine lv_iconst (v := 1) hx hb d_Mod_countNodes_20 (by decide) ?_
        refine lv_iadd hx hb d_Mod_countNodes_21 ?_
        refine lv_goto (tgt := 26) hx hb d_Mod_countNodes_22 rfl ?_
        refine lv_istore_n (lv' := [(1, .int (v1 + 1)), (0, .ref am), (2, .int (nI k_4))]) hx hb d_Mod_countNodes_26 rfl hl (by decide) rfl (fun ls hl => ?_)
        refine lv_iinc (lv' := [(2, .int (nI (k_4 + 1))), (1, .int (v1 + 1)), (0, .ref am)]) (k := 2) hx hb d_Mod_countNodes_27 hl rfl (z_inc _) (by decide) rfl (fun ls hl => ?_)
        refine lv_goto (tgt := 4) hx hb d_Mod_countNodes_30 rfl ?_
        have hl := lv_sub hl [2, 1, 0] rfl
        exact ih_4 _ _ _ _ _ (by omega) (by have q := hc_16; rw [nI_clamp (by omega)] at q; rw [f_cnt, if_neg q, hI_4]) hP hD hS hl
  have hl : lv_has ls 3 [(0, .ref am), (1, .int 0), (2, .int (nI 0))] := by first | exact lv_sub hl [2, 1, 0] rfl | (rw [nI_succ]; exact lv_sub hl [2, 1, 0] rfl)
  exact L_4 10 0 _ _ _ _ rfl rfl hP hD hS hl
set_option maxHeartbeats 4000000 in
set_option maxRecDepth 100000 in
theorem c_countLines0 (l : Launch) (dC : Nat → ClassId) (dI : Nat → Nat → Nat) (sz : Nat) (am am_there am_ones am_others am_xs am_ys am_a am_b am_from am_to am_way am_depth am_above am_pile am_next am_leader am_turned am_piece am_numbers am_row : Nat) (km_ones : ClassId) (zm_thrown : Int32) (zm_many : Int32) (zm_ones : Nat → Int32) (ho : ∀ j : Nat, j < 24 → zm_ones j = (-1)) : Met l y_Mod_countLines w_Mod_countLines ({ frames := 0, cells := 0, slots := 0, locals := 0 }) (Pre_ dC dI sz [.ref am] [(am, .inr (5, [.int zm_thrown, .ref am_there, .ref am_ones, .ref am_others, .ref am_xs, .ref am_ys, .int zm_many, .ref am_a, .ref am_b, .ref am_from, .ref am_to, .ref am_way, .ref am_depth, .ref am_above, .ref am_pile, .ref am_next, .ref am_leader, .ref am_turned, .ref am_piece, .ref am_numbers, .ref am_row])), (am_ones, .inl (km_ones, 24, .inl zm_ones))] [(km_ones, .int)]) (va_Qi (fun (r : Int32) (u : Unit) => r = 0) (fun u t => End_ dC dI (va_A [(am, .inr (5, [.int zm_thrown, .ref am_there, .ref am_ones, .ref am_others, .ref am_xs, .ref am_ys, .int zm_many, .ref am_a, .ref am_b, .ref am_from, .ref am_to, .ref am_way, .ref am_depth, .ref am_above, .ref am_pile, .ref am_next, .ref am_leader, .ref am_turned, .ref am_piece, .ref am_numbers, .ref am_row])), (am_ones, .inl (km_ones, 24, .inl zm_ones))] sz) [(km_ones, .int)] [(am, .inr (5, [.int zm_thrown, .ref am_there, .ref am_ones, .ref am_others, .ref am_xs, .ref am_ys, .int zm_many, .ref am_a, .ref am_b, .ref am_from, .ref am_to, .ref am_way, .ref am_depth, .ref am_above, .ref am_pile, .ref am_next, .ref am_leader, .ref am_turned, .ref am_piece, .ref am_numbers, .ref am_row])), (am_ones, .inl (km_ones, 24, .inl zm_ones))] t) (va_A [(am, .inr (5, [.int zm_thrown, .ref am_there, .ref am_ones, .ref am_others, .ref am_xs, .ref am_ys, .int zm_many, .ref am_a, .ref am_b, .ref am_from, .ref am_to, .ref am_way, .ref am_depth, .ref am_above, .ref am_pile, .ref am_next, .ref am_leader, .ref am_turned, .ref am_piece, .ref am_numbers, .ref am_row])), (am_ones, .inl (km_ones, 24, .inl zm_ones))] sz)) 0 0 (va_A [(am, .inr (5, [.int zm_thrown, .ref am_there, .ref am_ones, .ref am_others, .ref am_xs, .ref am_ys, .int zm_many, .ref am_a, .ref am_b, .ref am_from, .ref am_to, .ref am_way, .ref am_depth, .ref am_above, .ref am_pile, .ref am_next, .ref am_leader, .ref am_turned, .ref am_piece, .ref am_numbers, .ref am_row])), (am_ones, .inl (km_ones, 24, .inl zm_ones))] sz) := by
  refine Met.ofW (cc := b_Mod_countLines) (maxL := 3) (ret := (some .int)) (by decide) rfl ?_
  intro p e s m args below meth c s₁ B hml hv
  obtain ⟨hargs, hsz, hP, hK, hD0, hN⟩ := hv
  have hx := B.exec
  have hb := B.bytes
  have hr := B.returns
  have hts := atoms_spec (ws := w_Mod_countLines) B.pre
  have hown : s.vm.findClass R_Mod = some m.cls := findClass_of_methodNamed B.named
  have hlocks := B.notSynchronized
  subst hsz
  have hD := hD0.self (sz := s.heap.size)
  generalize hAe : va_A [(am, .inr (5, [.int zm_thrown, .ref am_there, .ref am_ones, .ref am_others, .ref am_xs, .ref am_ys, .int zm_many, .ref am_a, .ref am_b, .ref am_from, .ref am_to, .ref am_way, .ref am_depth, .ref am_above, .ref am_pile, .ref am_next, .ref am_leader, .ref am_turned, .ref am_piece, .ref am_numbers, .ref am_row])), (am_ones, .inl (km_ones, 24, .inl zm_ones))] s.heap.size = A at hD ⊢
  have hA : ∀ q : Nat, s.heap.size ≤ q → A q := fun q h => by rw [← hAe]; exact Or.inr h
  have hS : va_S A s.heap s.heap [] := va_S.rf
  have hl := lv_entry ([.ref am]) (n := 3) (Nat.le_of_ble_eq_true rfl)
  refine W.eq (congrArg (fun a => entryFrame m a 3) hargs) ?_
  rw [lg_entry_eq]
  generalize (lg_sl ([.ref am]) ++ List.replicate (3 - (lg_sl ([.ref am])).length) Slot.unset).toArray = ls at hl ⊢
  have hl : lv_has ls 3 [(0, .ref am)] := hl
  generalize hH0 : ([] : List Loc) = locs at hS ⊢
  refine lv_iconst (v := 0) hx hb d_Mod_countLines_0 (by decide) ?_
  refine lv_istore_n (lv' := [(1, .int 0), (0, .ref am)]) hx hb d_Mod_countLines_1 rfl hl (by decide) rfl (fun ls hl => ?_)
  refine lv_iconst (v := 0) hx hb d_Mod_countLines_2 (by decide) ?_
  refine lv_istore_n (lv' := [(2, .int 0), (1, .int 0), (0, .ref am)]) hx hb d_Mod_countLines_3 rfl hl (by decide) rfl (fun ls hl => ?_)
  have X_4 : ∀ (k_4 : Nat) (H : Heap) (locs : List Loc) (ls : Array Slot), (True) → va_P (dC, dI) classes [(am, .inr (5, [.int zm_thrown, .ref am_there, .ref am_ones, .ref am_others, .ref am_xs, .ref am_ys, .int zm_many, .ref am_a, .ref am_b, .ref am_from, .ref am_to, .ref am_way, .ref am_depth, .ref am_above, .ref am_pile, .ref am_next, .ref am_leader, .ref am_turned, .ref am_piece, .ref am_numbers, .ref am_row])), (am_ones, .inl (km_ones, 24, .inl zm_ones))] H → va_D A [(am, .inr (5, [.int zm_thrown, .ref am_there, .ref am_ones, .ref am_others, .ref am_xs, .ref am_ys, .int zm_many, .ref am_a, .ref am_b, .ref am_from, .ref am_to, .ref am_way, .ref am_depth, .ref am_above, .ref am_pile, .ref am_next, .ref am_leader, .ref am_turned, .ref am_piece, .ref am_numbers, .ref am_row])), (am_ones, .inl (km_ones, 24, .inl zm_ones))] → va_S A s.heap H locs → lv_has ls 3 [(0, .ref am), (1, .int 0), (2, .int (nI k_4))] → W p l e (headSpec w_Mod_countLines ({ frames := 0, cells := 0, slots := 0, locals := 0 })).room s m args below meth c H locs 0 0 (MQ below (va_Qi (fun (r : Int32) (u : Unit) => r = 0) (fun u t => End_ dC dI A [(km_ones, .int)] [(am, .inr (5, [.int zm_thrown, .ref am_there, .ref am_ones, .ref am_others, .ref am_xs, .ref am_ys, .int zm_many, .ref am_a, .ref am_b, .ref am_from, .ref am_to, .ref am_way, .ref am_depth, .ref am_above, .ref am_pile, .ref am_next, .ref am_leader, .ref am_turned, .ref am_piece, .ref am_numbers, .ref am_row])), (am_ones, .inl (km_ones, 24, .inl zm_ones))] t) A) args s 0 0 A) (F0 m 33 ls []) := by
    intro k_4  H locs ls hI_4 hP hD hS hl
    refine lv_iload_n hx hb d_Mod_countLines_33 rfl (lv_at hl 1 rfl) ?_
    exact W.iret (v := 0) hx hb hr (fun t ht hW => ⟨⟨0, (), rfl, rfl, by rw [ht]; exact hP, va_K.moved hW.alike hK, hD⟩, hS.F ht⟩) hS.2.2 d_Mod_countLines_34
  have L_4 : ∀ (n_4 k_4 : Nat) (H : Heap) (locs : List Loc) (ls : Array Slot), k_4 + n_4 = 24 → (True) → va_P (dC, dI) classes [(am, .inr (5, [.int zm_thrown, .ref am_there, .ref am_ones, .ref am_others, .ref am_xs, .ref am_ys, .int zm_many, .ref am_a, .ref am_b, .ref am_from, .ref am_to, .ref am_way, .ref am_depth, .ref am_above, .ref am_pile, .ref am_next, .ref am_leader, .ref am_turned, .ref am_piece, .ref am_numbers, .ref am_row])), (am_ones, .inl (km_ones, 24, .inl zm_ones))] H → va_D A [(am, .inr (5, [.int zm_thrown, .ref am_there, .ref am_ones, .ref am_others, .ref am_xs, .ref am_ys, .int zm_many, .ref am_a, .ref am_b, .ref am_from, .ref am_to, .ref am_way, .ref am_depth, .ref am_above, .ref am_pile, .ref am_next, .ref am_leader, .ref am_turned, .ref am_piece, .ref am_numbers, .ref am_row])), (am_ones, .inl (km_ones, 24, .inl zm_ones))] → va_S A s.heap H locs → lv_has ls 3 [(0, .ref am), (1, .int 0), (2, .int (nI k_4))] → W p l e (headSpec w_Mod_countLines ({ frames := 0, cells := 0, slots := 0, locals := 0 })).room s m args below meth c H locs 0 0 (MQ below (va_Qi (fun (r : Int32) (u : Unit) => r = 0) (fun u t => End_ dC dI A [(km_ones, .int)] [(am, .inr (5, [.int zm_thrown, .ref am_there, .ref am_ones, .ref am_others, .ref am_xs, .ref am_ys, .int zm_many, .ref am_a, .ref am_b, .ref am_from, .ref am_to, .ref am_way, .ref am_depth, .ref am_above, .ref am_pile, .ref am_next, .ref am_leader, .ref am_turned, .ref am_piece, .ref am_numbers, .ref am_row])), (am_ones, .inl (km_ones, 24, .inl zm_ones))] t) A) args s 0 0 A) (F0 m 4 ls []) := by
    intro n_4
    induction n_4 with
    | zero =>
      intro k_4  H locs ls hkn_4 hI_4 hP hD hS hl
      refine lv_iload_n hx hb d_Mod_countLines_4 rfl (lv_at hl 2 rfl) ?_
      refine lv_bipush (v := 24) hx hb d_Mod_countLines_5 (by decide) ?_
      refine lv_icmp_ge (tgt := 33) hx hb d_Mod_countLines_7 rfl (fun hc_7 => ?_) (fun hc_7 => absurd (z_exit rfl hkn_4) hc_7)
      have hl := lv_sub hl [0, 1, 2] rfl
      exact X_4 _  _ _ _ hI_4 hP hD hS hl
    | succ n_4 ih_4 =>
      intro k_4  H locs ls hkn_4 hI_4 hP hD hS hl
      refine lv_iload_n hx hb d_Mod_countLines_4 rfl (lv_at hl 2 rfl) ?_
      refine lv_bipush (v := 24) hx hb d_Mod_countLines_5 (by decide) ?_
      refine lv_icmp_ge (tgt := 33) hx hb d_Mod_countLines_7 rfl (fun hc_7 => absurd hc_7 (z_stay rfl hkn_4 (by decide))) (fun hc_7 => ?_)
      refine lv_aload_n hx hb d_Mod_countLines_10 rfl (lv_at hl 0 rfl) ?_
      refine va_get (D := (dC, dI)) (ci := 5) (v := .ref am_ones) (C := R_Mod) (T := F_Mod) (N := 21) hx hb hts (fun w h => List.mem_cons_of_mem _ (in_Mod w h)) hown hK hP 0 rfl rfl 2 (by decide) (hts _ (List.mem_cons_of_mem _ mw_3_158)) (fun _ h9 => h9) rfl d_Mod_countLines_11 ?_
      refine lv_iload_n hx hb d_Mod_countLines_14 rfl (lv_at hl 2 rfl) ?_
      refine va_iald (D := (dC, dI)) hx hb hK hP 1 0 rfl rfl (vp_in_nI (by omega) (by decide)) d_Mod_countLines_15 ?_
      refine lv_if_lt (tgt := 25) hx hb d_Mod_countLines_16 rfl (fun hc_16 => ?_) (fun hc_16 => absurd (by rw [nI_clamp (by omega), ho _ (by omega)]; decide) hc_16)
      refine lv_iload_n hx hb d_Mod_countLines_25 rfl (lv_at hl 1 rfl) ?_
      refine lv_istore_n (lv' := [(1, .int 0), (0, .ref am), (2, .int (nI k_4))]) hx hb d_Mod_countLines_26 rfl hl (by decide) rfl (fun ls hl => ?_)
      refine lv_iinc (lv' := [(2, .int (nI (k_4 + 1))), (1, .int 0), (0, .ref am)]) (k := 2) hx hb d_Mod_countLines_27 hl rfl (z_inc _) (by decide) rfl (fun ls hl => ?_)
      refine lv_goto (tgt := 4) hx hb d_Mod_countLines_30 rfl ?_
      have hl := lv_sub hl [2, 1, 0] rfl
      exact ih_4 _  _ _ _ (by omega) trivial hP hD hS hl
  have hl : lv_has ls 3 [(0, .ref am), (1, .int 0), (2, .int (nI 0))] := by first | exact lv_sub hl [2, 1, 0] rfl | (rw [nI_succ]; exact lv_sub hl [2, 1, 0] rfl)
  exact L_4 24 0  _ _ _ rfl trivial hP hD hS hl
set_option maxHeartbeats 4000000 in
set_option maxRecDepth 100000 in
theorem c_nodeBits0 (l : Launch) (dC : Nat → ClassId) (dI : Nat → Nat → Nat) (sz : Nat) (am am_there am_ones am_others am_xs am_ys am_a am_b am_from am_to am_way am_depth am_above am_pile am_next am_leader am_turned am_piece am_numbers am_row : Nat) (km_there : ClassId) (zm_thrown : Int32) (zm_many : Int32) (zm_there : Nat → Int32) (hz : ∀ j : Nat, j < 10 → zm_there j = 0) : Met l y_Mod_nodeBits w_Mod_nodeBits ({ frames := 0, cells := 0, slots := 0, locals := 0 }) (Pre_ dC dI sz [.ref am] [(am, .inr (5, [.int zm_thrown, .ref am_there, .ref am_ones, .ref am_others, .ref am_xs, .ref am_ys, .int zm_many, .ref am_a, .ref am_b, .ref am_from, .ref am_to, .ref am_way, .ref am_depth, .ref am_above, .ref am_pile, .ref am_next, .ref am_leader, .ref am_turned, .ref am_piece, .ref am_numbers, .ref am_row])), (am_there, .inl (km_there, 10, .inl zm_there))] [(km_there, .boolean)]) (va_Qi (fun (r : Int32) (u : Unit) => r = 0) (fun u t => End_ dC dI (va_A [(am, .inr (5, [.int zm_thrown, .ref am_there, .ref am_ones, .ref am_others, .ref am_xs, .ref am_ys, .int zm_many, .ref am_a, .ref am_b, .ref am_from, .ref am_to, .ref am_way, .ref am_depth, .ref am_above, .ref am_pile, .ref am_next, .ref am_leader, .ref am_turned, .ref am_piece, .ref am_numbers, .ref am_row])), (am_there, .inl (km_there, 10, .inl zm_there))] sz) [(km_there, .boolean)] [(am, .inr (5, [.int zm_thrown, .ref am_there, .ref am_ones, .ref am_others, .ref am_xs, .ref am_ys, .int zm_many, .ref am_a, .ref am_b, .ref am_from, .ref am_to, .ref am_way, .ref am_depth, .ref am_above, .ref am_pile, .ref am_next, .ref am_leader, .ref am_turned, .ref am_piece, .ref am_numbers, .ref am_row])), (am_there, .inl (km_there, 10, .inl zm_there))] t) (va_A [(am, .inr (5, [.int zm_thrown, .ref am_there, .ref am_ones, .ref am_others, .ref am_xs, .ref am_ys, .int zm_many, .ref am_a, .ref am_b, .ref am_from, .ref am_to, .ref am_way, .ref am_depth, .ref am_above, .ref am_pile, .ref am_next, .ref am_leader, .ref am_turned, .ref am_piece, .ref am_numbers, .ref am_row])), (am_there, .inl (km_there, 10, .inl zm_there))] sz)) 0 0 (va_A [(am, .inr (5, [.int zm_thrown, .ref am_there, .ref am_ones, .ref am_others, .ref am_xs, .ref am_ys, .int zm_many, .ref am_a, .ref am_b, .ref am_from, .ref am_to, .ref am_way, .ref am_depth, .ref am_above, .ref am_pile, .ref am_next, .ref am_leader, .ref am_turned, .ref am_piece, .ref am_numbers, .ref am_row])), (am_there, .inl (km_there, 10, .inl zm_there))] sz) := by
  refine Met.ofW (cc := b_Mod_nodeBits) (maxL := 3) (ret := (some .int)) (by decide) rfl ?_
  intro p e s m args below meth c s₁ B hml hv
  obtain ⟨hargs, hsz, hP, hK, hD0, hN⟩ := hv
  have hx := B.exec
  have hb := B.bytes
  have hr := B.returns
  have hts := atoms_spec (ws := w_Mod_nodeBits) B.pre
  have hown : s.vm.findClass R_Mod = some m.cls := findClass_of_methodNamed B.named
  have hlocks := B.notSynchronized
  subst hsz
  have hD := hD0.self (sz := s.heap.size)
  generalize hAe : va_A [(am, .inr (5, [.int zm_thrown, .ref am_there, .ref am_ones, .ref am_others, .ref am_xs, .ref am_ys, .int zm_many, .ref am_a, .ref am_b, .ref am_from, .ref am_to, .ref am_way, .ref am_depth, .ref am_above, .ref am_pile, .ref am_next, .ref am_leader, .ref am_turned, .ref am_piece, .ref am_numbers, .ref am_row])), (am_there, .inl (km_there, 10, .inl zm_there))] s.heap.size = A at hD ⊢
  have hA : ∀ q : Nat, s.heap.size ≤ q → A q := fun q h => by rw [← hAe]; exact Or.inr h
  have hS : va_S A s.heap s.heap [] := va_S.rf
  have hl := lv_entry ([.ref am]) (n := 3) (Nat.le_of_ble_eq_true rfl)
  refine W.eq (congrArg (fun a => entryFrame m a 3) hargs) ?_
  rw [lg_entry_eq]
  generalize (lg_sl ([.ref am]) ++ List.replicate (3 - (lg_sl ([.ref am])).length) Slot.unset).toArray = ls at hl ⊢
  have hl : lv_has ls 3 [(0, .ref am)] := hl
  generalize hH0 : ([] : List Loc) = locs at hS ⊢
  refine lv_iconst (v := 0) hx hb d_Mod_nodeBits_0 (by decide) ?_
  refine lv_istore_n (lv' := [(1, .int 0), (0, .ref am)]) hx hb d_Mod_nodeBits_1 rfl hl (by decide) rfl (fun ls hl => ?_)
  refine lv_iconst (v := 0) hx hb d_Mod_nodeBits_2 (by decide) ?_
  refine lv_istore_n (lv' := [(2, .int 0), (1, .int 0), (0, .ref am)]) hx hb d_Mod_nodeBits_3 rfl hl (by decide) rfl (fun ls hl => ?_)
  have X_4 : ∀ (k_4 : Nat) (H : Heap) (locs : List Loc) (ls : Array Slot), (True) → va_P (dC, dI) classes [(am, .inr (5, [.int zm_thrown, .ref am_there, .ref am_ones, .ref am_others, .ref am_xs, .ref am_ys, .int zm_many, .ref am_a, .ref am_b, .ref am_from, .ref am_to, .ref am_way, .ref am_depth, .ref am_above, .ref am_pile, .ref am_next, .ref am_leader, .ref am_turned, .ref am_piece, .ref am_numbers, .ref am_row])), (am_there, .inl (km_there, 10, .inl zm_there))] H → va_D A [(am, .inr (5, [.int zm_thrown, .ref am_there, .ref am_ones, .ref am_others, .ref am_xs, .ref am_ys, .int zm_many, .ref am_a, .ref am_b, .ref am_from, .ref am_to, .ref am_way, .ref am_depth, .ref am_above, .ref am_pile, .ref am_next, .ref am_leader, .ref am_turned, .ref am_piece, .ref am_numbers, .ref am_row])), (am_there, .inl (km_there, 10, .inl zm_there))] → va_S A s.heap H locs → lv_has ls 3 [(0, .ref am), (1, .int 0), (2, .int (nI k_4))] → W p l e (headSpec w_Mod_nodeBits ({ frames := 0, cells := 0, slots := 0, locals := 0 })).room s m args below meth c H locs 0 0 (MQ below (va_Qi (fun (r : Int32) (u : Unit) => r = 0) (fun u t => End_ dC dI A [(km_there, .boolean)] [(am, .inr (5, [.int zm_thrown, .ref am_there, .ref am_ones, .ref am_others, .ref am_xs, .ref am_ys, .int zm_many, .ref am_a, .ref am_b, .ref am_from, .ref am_to, .ref am_way, .ref am_depth, .ref am_above, .ref am_pile, .ref am_next, .ref am_leader, .ref am_turned, .ref am_piece, .ref am_numbers, .ref am_row])), (am_there, .inl (km_there, 10, .inl zm_there))] t) A) args s 0 0 A) (F0 m 35 ls []) := by
    intro k_4  H locs ls hI_4 hP hD hS hl
    refine lv_iload_n hx hb d_Mod_nodeBits_35 rfl (lv_at hl 1 rfl) ?_
    exact W.iret (v := 0) hx hb hr (fun t ht hW => ⟨⟨0, (), rfl, rfl, by rw [ht]; exact hP, va_K.moved hW.alike hK, hD⟩, hS.F ht⟩) hS.2.2 d_Mod_nodeBits_36
  have L_4 : ∀ (n_4 k_4 : Nat) (H : Heap) (locs : List Loc) (ls : Array Slot), k_4 + n_4 = 10 → (True) → va_P (dC, dI) classes [(am, .inr (5, [.int zm_thrown, .ref am_there, .ref am_ones, .ref am_others, .ref am_xs, .ref am_ys, .int zm_many, .ref am_a, .ref am_b, .ref am_from, .ref am_to, .ref am_way, .ref am_depth, .ref am_above, .ref am_pile, .ref am_next, .ref am_leader, .ref am_turned, .ref am_piece, .ref am_numbers, .ref am_row])), (am_there, .inl (km_there, 10, .inl zm_there))] H → va_D A [(am, .inr (5, [.int zm_thrown, .ref am_there, .ref am_ones, .ref am_others, .ref am_xs, .ref am_ys, .int zm_many, .ref am_a, .ref am_b, .ref am_from, .ref am_to, .ref am_way, .ref am_depth, .ref am_above, .ref am_pile, .ref am_next, .ref am_leader, .ref am_turned, .ref am_piece, .ref am_numbers, .ref am_row])), (am_there, .inl (km_there, 10, .inl zm_there))] → va_S A s.heap H locs → lv_has ls 3 [(0, .ref am), (1, .int 0), (2, .int (nI k_4))] → W p l e (headSpec w_Mod_nodeBits ({ frames := 0, cells := 0, slots := 0, locals := 0 })).room s m args below meth c H locs 0 0 (MQ below (va_Qi (fun (r : Int32) (u : Unit) => r = 0) (fun u t => End_ dC dI A [(km_there, .boolean)] [(am, .inr (5, [.int zm_thrown, .ref am_there, .ref am_ones, .ref am_others, .ref am_xs, .ref am_ys, .int zm_many, .ref am_a, .ref am_b, .ref am_from, .ref am_to, .ref am_way, .ref am_depth, .ref am_above, .ref am_pile, .ref am_next, .ref am_leader, .ref am_turned, .ref am_piece, .ref am_numbers, .ref am_row])), (am_there, .inl (km_there, 10, .inl zm_there))] t) A) args s 0 0 A) (F0 m 4 ls []) := by
    intro n_4
    induction n_4 with
    | zero =>
      intro k_4  H locs ls hkn_4 hI_4 hP hD hS hl
      refine lv_iload_n hx hb d_Mod_nodeBits_4 rfl (lv_at hl 2 rfl) ?_
      refine lv_bipush (v := 10) hx hb d_Mod_nodeBits_5 (by decide) ?_
      refine lv_icmp_ge (tgt := 35) hx hb d_Mod_nodeBits_7 rfl (fun hc_7 => ?_) (fun hc_7 => absurd (z_exit rfl hkn_4) hc_7)
      have hl := lv_sub hl [0, 1, 2] rfl
      exact X_4 _  _ _ _ hI_4 hP hD hS hl
    | succ n_4 ih_4 =>
      intro k_4  H locs ls hkn_4 hI_4 hP hD hS hl
      refine lv_iload_n hx hb d_Mod_nodeBits_4 rfl (lv_at hl 2 rfl) ?_
      refine lv_bipush (v := 10) hx hb d_Mod_nodeBits_5 (by decide) ?_
      refine lv_icmp_ge (tgt := 35) hx hb d_Mod_nodeBits_7 rfl (fun hc_7 => absurd hc_7 (z_stay rfl hkn_4 (by decide))) (fun hc_7 => ?_)
      refine lv_aload_n hx hb d_Mod_nodeBits_10 rfl (lv_at hl 0 rfl) ?_
      refine va_get (D := (dC, dI)) (ci := 5) (v := .ref am_there) (C := R_Mod) (T := F_Mod) (N := 21) hx hb hts (fun w h => List.mem_cons_of_mem _ (in_Mod w h)) hown hK hP 0 rfl rfl 1 (by decide) (hts _ (List.mem_cons_of_mem _ mw_3_157)) (fun _ h9 => h9) rfl d_Mod_nodeBits_11 ?_
      refine lv_iload_n hx hb d_Mod_nodeBits_14 rfl (lv_at hl 2 rfl) ?_
      refine va_zald (D := (dC, dI)) hx hb hK hP 1 0 rfl rfl (vp_in_nI (by omega) (by decide)) d_Mod_nodeBits_15 ?_
      refine lv_if_eq (tgt := 27) hx hb d_Mod_nodeBits_16 rfl (fun hc_16 => ?_) (fun hc_16 => absurd (by rw [nI_clamp (by omega), hz _ (by omega)]) hc_16)
      refine lv_iload_n hx hb d_Mod_nodeBits_27 rfl (lv_at hl 1 rfl) ?_
      refine lv_istore_n (lv' := [(1, .int 0), (0, .ref am), (2, .int (nI k_4))]) hx hb d_Mod_nodeBits_28 rfl hl (by decide) rfl (fun ls hl => ?_)
      refine lv_iinc (lv' := [(2, .int (nI (k_4 + 1))), (1, .int 0), (0, .ref am)]) (k := 2) hx hb d_Mod_nodeBits_29 hl rfl (z_inc _) (by decide) rfl (fun ls hl => ?_)
      refine lv_goto (tgt := 4) hx hb d_Mod_nodeBits_32 rfl ?_
      have hl := lv_sub hl [2, 1, 0] rfl
      exact ih_4 _  _ _ _ (by omega) trivial hP hD hS hl
  have hl : lv_has ls 3 [(0, .ref am), (1, .int 0), (2, .int (nI 0))] := by first | exact lv_sub hl [2, 1, 0] rfl | (rw [nI_succ]; exact lv_sub hl [2, 1, 0] rfl)
  exact L_4 10 0  _ _ _ rfl trivial hP hD hS hl
set_option maxHeartbeats 4000000 in
set_option maxRecDepth 100000 in
theorem c_lineBits0 (l : Launch) (dC : Nat → ClassId) (dI : Nat → Nat → Nat) (sz : Nat) (am am_there am_ones am_others am_xs am_ys am_a am_b am_from am_to am_way am_depth am_above am_pile am_next am_leader am_turned am_piece am_numbers am_row : Nat) (km_ones : ClassId) (zm_thrown : Int32) (zm_many : Int32) (zm_ones : Nat → Int32) (ho : ∀ j : Nat, j < 24 → zm_ones j = (-1)) : Met l y_Mod_lineBits w_Mod_lineBits ({ frames := 0, cells := 0, slots := 0, locals := 0 }) (Pre_ dC dI sz [.ref am] [(am, .inr (5, [.int zm_thrown, .ref am_there, .ref am_ones, .ref am_others, .ref am_xs, .ref am_ys, .int zm_many, .ref am_a, .ref am_b, .ref am_from, .ref am_to, .ref am_way, .ref am_depth, .ref am_above, .ref am_pile, .ref am_next, .ref am_leader, .ref am_turned, .ref am_piece, .ref am_numbers, .ref am_row])), (am_ones, .inl (km_ones, 24, .inl zm_ones))] [(km_ones, .int)]) (va_Qi (fun (r : Int32) (u : Unit) => r = 0) (fun u t => End_ dC dI (va_A [(am, .inr (5, [.int zm_thrown, .ref am_there, .ref am_ones, .ref am_others, .ref am_xs, .ref am_ys, .int zm_many, .ref am_a, .ref am_b, .ref am_from, .ref am_to, .ref am_way, .ref am_depth, .ref am_above, .ref am_pile, .ref am_next, .ref am_leader, .ref am_turned, .ref am_piece, .ref am_numbers, .ref am_row])), (am_ones, .inl (km_ones, 24, .inl zm_ones))] sz) [(km_ones, .int)] [(am, .inr (5, [.int zm_thrown, .ref am_there, .ref am_ones, .ref am_others, .ref am_xs, .ref am_ys, .int zm_many, .ref am_a, .ref am_b, .ref am_from, .ref am_to, .ref am_way, .ref am_depth, .ref am_above, .ref am_pile, .ref am_next, .ref am_leader, .ref am_turned, .ref am_piece, .ref am_numbers, .ref am_row])), (am_ones, .inl (km_ones, 24, .inl zm_ones))] t) (va_A [(am, .inr (5, [.int zm_thrown, .ref am_there, .ref am_ones, .ref am_others, .ref am_xs, .ref am_ys, .int zm_many, .ref am_a, .ref am_b, .ref am_from, .ref am_to, .ref am_way, .ref am_depth, .ref am_above, .ref am_pile, .ref am_next, .ref am_leader, .ref am_turned, .ref am_piece, .ref am_numbers, .ref am_row])), (am_ones, .inl (km_ones, 24, .inl zm_ones))] sz)) 0 0 (va_A [(am, .inr (5, [.int zm_thrown, .ref am_there, .ref am_ones, .ref am_others, .ref am_xs, .ref am_ys, .int zm_many, .ref am_a, .ref am_b, .ref am_from, .ref am_to, .ref am_way, .ref am_depth, .ref am_above, .ref am_pile, .ref am_next, .ref am_leader, .ref am_turned, .ref am_piece, .ref am_numbers, .ref am_row])), (am_ones, .inl (km_ones, 24, .inl zm_ones))] sz) := by
  refine Met.ofW (cc := b_Mod_lineBits) (maxL := 3) (ret := (some .int)) (by decide) rfl ?_
  intro p e s m args below meth c s₁ B hml hv
  obtain ⟨hargs, hsz, hP, hK, hD0, hN⟩ := hv
  have hx := B.exec
  have hb := B.bytes
  have hr := B.returns
  have hts := atoms_spec (ws := w_Mod_lineBits) B.pre
  have hown : s.vm.findClass R_Mod = some m.cls := findClass_of_methodNamed B.named
  have hlocks := B.notSynchronized
  subst hsz
  have hD := hD0.self (sz := s.heap.size)
  generalize hAe : va_A [(am, .inr (5, [.int zm_thrown, .ref am_there, .ref am_ones, .ref am_others, .ref am_xs, .ref am_ys, .int zm_many, .ref am_a, .ref am_b, .ref am_from, .ref am_to, .ref am_way, .ref am_depth, .ref am_above, .ref am_pile, .ref am_next, .ref am_leader, .ref am_turned, .ref am_piece, .ref am_numbers, .ref am_row])), (am_ones, .inl (km_ones, 24, .inl zm_ones))] s.heap.size = A at hD ⊢
  have hA : ∀ q : Nat, s.heap.size ≤ q → A q := fun q h => by rw [← hAe]; exact Or.inr h
  have hS : va_S A s.heap s.heap [] := va_S.rf
  have hl := lv_entry ([.ref am]) (n := 3) (Nat.le_of_ble_eq_true rfl)
  refine W.eq (congrArg (fun a => entryFrame m a 3) hargs) ?_
  rw [lg_entry_eq]
  generalize (lg_sl ([.ref am]) ++ List.replicate (3 - (lg_sl ([.ref am])).length) Slot.unset).toArray = ls at hl ⊢
  have hl : lv_has ls 3 [(0, .ref am)] := hl
  generalize hH0 : ([] : List Loc) = locs at hS ⊢
  refine lv_iconst (v := 0) hx hb d_Mod_lineBits_0 (by decide) ?_
  refine lv_istore_n (lv' := [(1, .int 0), (0, .ref am)]) hx hb d_Mod_lineBits_1 rfl hl (by decide) rfl (fun ls hl => ?_)
  refine lv_iconst (v := 0) hx hb d_Mod_lineBits_2 (by decide) ?_
  refine lv_istore_n (lv' := [(2, .int 0), (1, .int 0), (0, .ref am)]) hx hb d_Mod_lineBits_3 rfl hl (by decide) rfl (fun ls hl => ?_)
  have X_4 : ∀ (k_4 : Nat) (H : Heap) (locs : List Loc) (ls : Array Slot), (True) → va_P (dC, dI) classes [(am, .inr (5, [.int zm_thrown, .ref am_there, .ref am_ones, .ref am_others, .ref am_xs, .ref am_ys, .int zm_many, .ref am_a, .ref am_b, .ref am_from, .ref am_to, .ref am_way, .ref am_depth, .ref am_above, .ref am_pile, .ref am_next, .ref am_leader, .ref am_turned, .ref am_piece, .ref am_numbers, .ref am_row])), (am_ones, .inl (km_ones, 24, .inl zm_ones))] H → va_D A [(am, .inr (5, [.int zm_thrown, .ref am_there, .ref am_ones, .ref am_others, .ref am_xs, .ref am_ys, .int zm_many, .ref am_a, .ref am_b, .ref am_from, .ref am_to, .ref am_way, .ref am_depth, .ref am_above, .ref am_pile, .ref am_next, .ref am_leader, .ref am_turned, .ref am_piece, .ref am_numbers, .ref am_row])), (am_ones, .inl (km_ones, 24, .inl zm_ones))] → va_S A s.heap H locs → lv_has ls 3 [(0, .ref am), (1, .int 0), (2, .int (nI k_4))] → W p l e (headSpec w_Mod_lineBits ({ frames := 0, cells := 0, slots := 0, locals := 0 })).room s m args below meth c H locs 0 0 (MQ below (va_Qi (fun (r : Int32) (u : Unit) => r = 0) (fun u t => End_ dC dI A [(km_ones, .int)] [(am, .inr (5, [.int zm_thrown, .ref am_there, .ref am_ones, .ref am_others, .ref am_xs, .ref am_ys, .int zm_many, .ref am_a, .ref am_b, .ref am_from, .ref am_to, .ref am_way, .ref am_depth, .ref am_above, .ref am_pile, .ref am_next, .ref am_leader, .ref am_turned, .ref am_piece, .ref am_numbers, .ref am_row])), (am_ones, .inl (km_ones, 24, .inl zm_ones))] t) A) args s 0 0 A) (F0 m 35 ls []) := by
    intro k_4  H locs ls hI_4 hP hD hS hl
    refine lv_iload_n hx hb d_Mod_lineBits_35 rfl (lv_at hl 1 rfl) ?_
    exact W.iret (v := 0) hx hb hr (fun t ht hW => ⟨⟨0, (), rfl, rfl, by rw [ht]; exact hP, va_K.moved hW.alike hK, hD⟩, hS.F ht⟩) hS.2.2 d_Mod_lineBits_36
  have L_4 : ∀ (n_4 k_4 : Nat) (H : Heap) (locs : List Loc) (ls : Array Slot), k_4 + n_4 = 24 → (True) → va_P (dC, dI) classes [(am, .inr (5, [.int zm_thrown, .ref am_there, .ref am_ones, .ref am_others, .ref am_xs, .ref am_ys, .int zm_many, .ref am_a, .ref am_b, .ref am_from, .ref am_to, .ref am_way, .ref am_depth, .ref am_above, .ref am_pile, .ref am_next, .ref am_leader, .ref am_turned, .ref am_piece, .ref am_numbers, .ref am_row])), (am_ones, .inl (km_ones, 24, .inl zm_ones))] H → va_D A [(am, .inr (5, [.int zm_thrown, .ref am_there, .ref am_ones, .ref am_others, .ref am_xs, .ref am_ys, .int zm_many, .ref am_a, .ref am_b, .ref am_from, .ref am_to, .ref am_way, .ref am_depth, .ref am_above, .ref am_pile, .ref am_next, .ref am_leader, .ref am_turned, .ref am_piece, .ref am_numbers, .ref am_row])), (am_ones, .inl (km_ones, 24, .inl zm_ones))] → va_S A s.heap H locs → lv_has ls 3 [(0, .ref am), (1, .int 0), (2, .int (nI k_4))] → W p l e (headSpec w_Mod_lineBits ({ frames := 0, cells := 0, slots := 0, locals := 0 })).room s m args below meth c H locs 0 0 (MQ below (va_Qi (fun (r : Int32) (u : Unit) => r = 0) (fun u t => End_ dC dI A [(km_ones, .int)] [(am, .inr (5, [.int zm_thrown, .ref am_there, .ref am_ones, .ref am_others, .ref am_xs, .ref am_ys, .int zm_many, .ref am_a, .ref am_b, .ref am_from, .ref am_to, .ref am_way, .ref am_depth, .ref am_above, .ref am_pile, .ref am_next, .ref am_leader, .ref am_turned, .ref am_piece, .ref am_numbers, .ref am_row])), (am_ones, .inl (km_ones, 24, .inl zm_ones))] t) A) args s 0 0 A) (F0 m 4 ls []) := by
    intro n_4
    induction n_4 with
    | zero =>
      intro k_4  H locs ls hkn_4 hI_4 hP hD hS hl
      refine lv_iload_n hx hb d_Mod_lineBits_4 rfl (lv_at hl 2 rfl) ?_
      refine lv_bipush (v := 24) hx hb d_Mod_lineBits_5 (by decide) ?_
      refine lv_icmp_ge (tgt := 35) hx hb d_Mod_lineBits_7 rfl (fun hc_7 => ?_) (fun hc_7 => absurd (z_exit rfl hkn_4) hc_7)
      have hl := lv_sub hl [0, 1, 2] rfl
      exact X_4 _  _ _ _ hI_4 hP hD hS hl
    | succ n_4 ih_4 =>
      intro k_4  H locs ls hkn_4 hI_4 hP hD hS hl
      refine lv_iload_n hx hb d_Mod_lineBits_4 rfl (lv_at hl 2 rfl) ?_
      refine lv_bipush (v := 24) hx hb d_Mod_lineBits_5 (by decide) ?_
      refine lv_icmp_ge (tgt := 35) hx hb d_Mod_lineBits_7 rfl (fun hc_7 => absurd hc_7 (z_stay rfl hkn_4 (by decide))) (fun hc_7 => ?_)
      refine lv_aload_n hx hb d_Mod_lineBits_10 rfl (lv_at hl 0 rfl) ?_
      refine va_get (D := (dC, dI)) (ci := 5) (v := .ref am_ones) (C := R_Mod) (T := F_Mod) (N := 21) hx hb hts (fun w h => List.mem_cons_of_mem _ (in_Mod w h)) hown hK hP 0 rfl rfl 2 (by decide) (hts _ (List.mem_cons_of_mem _ mw_3_158)) (fun _ h9 => h9) rfl d_Mod_lineBits_11 ?_
      refine lv_iload_n hx hb d_Mod_lineBits_14 rfl (lv_at hl 2 rfl) ?_
      refine va_iald (D := (dC, dI)) hx hb hK hP 1 0 rfl rfl (vp_in_nI (by omega) (by decide)) d_Mod_lineBits_15 ?_
      refine lv_if_lt (tgt := 27) hx hb d_Mod_lineBits_16 rfl (fun hc_16 => ?_) (fun hc_16 => absurd (by rw [nI_clamp (by omega), ho _ (by omega)]; decide) hc_16)
      refine lv_iload_n hx hb d_Mod_lineBits_27 rfl (lv_at hl 1 rfl) ?_
      refine lv_istore_n (lv' := [(1, .int 0), (0, .ref am), (2, .int (nI k_4))]) hx hb d_Mod_lineBits_28 rfl hl (by decide) rfl (fun ls hl => ?_)
      refine lv_iinc (lv' := [(2, .int (nI (k_4 + 1))), (1, .int 0), (0, .ref am)]) (k := 2) hx hb d_Mod_lineBits_29 hl rfl (z_inc _) (by decide) rfl (fun ls hl => ?_)
      refine lv_goto (tgt := 4) hx hb d_Mod_lineBits_32 rfl ?_
      have hl := lv_sub hl [2, 1, 0] rfl
      exact ih_4 _  _ _ _ (by omega) trivial hP hD hS hl
  have hl : lv_has ls 3 [(0, .ref am), (1, .int 0), (2, .int (nI 0))] := by first | exact lv_sub hl [2, 1, 0] rfl | (rw [nI_succ]; exact lv_sub hl [2, 1, 0] rfl)
  exact L_4 24 0  _ _ _ rfl trivial hP hD hS hl
