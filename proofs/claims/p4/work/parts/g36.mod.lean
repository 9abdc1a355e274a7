set_option maxHeartbeats 4000000 in
set_option maxRecDepth 100000 in
theorem c_turnM (l : Launch) (dC : Nat → ClassId) (dI : Nat → Nat → Nat) (sz : Nat) (am am_there am_ones am_others am_xs am_ys am_a am_b am_from am_to am_way am_depth am_above am_pile am_next am_leader am_turned am_piece am_numbers am_row : Nat) (km_xs km_ys : ClassId) (zm_thrown : Int32) (zm_many : Int32) (zm_xs : Nat → Int32) (zm_ys : Nat → Int32) (v1 v2 v3 : Int32) (R : Int32) (hR : F_turnM zm_xs zm_ys v1 v2 v3 = some R) : Met l y_Mod_turn w_Mod_turn ({ frames := 0, cells := 0, slots := 0, locals := 0 }) (Pre_ dC dI sz [.ref am, .int v1, .int v2, .int v3] [(am, .inr (5, [.int zm_thrown, .ref am_there, .ref am_ones, .ref am_others, .ref am_xs, .ref am_ys, .int zm_many, .ref am_a, .ref am_b, .ref am_from, .ref am_to, .ref am_way, .ref am_depth, .ref am_above, .ref am_pile, .ref am_next, .ref am_leader, .ref am_turned, .ref am_piece, .ref am_numbers, .ref am_row])), (am_xs, .inl (km_xs, 10, .inl zm_xs)), (am_ys, .inl (km_ys, 10, .inl zm_ys))] [(km_xs, .int), (km_ys, .int)]) (va_Qi (fun (r : Int32) (u : Unit) => r = R) (fun u t => End_ dC dI (va_A [(am, .inr (5, [.int zm_thrown, .ref am_there, .ref am_ones, .ref am_others, .ref am_xs, .ref am_ys, .int zm_many, .ref am_a, .ref am_b, .ref am_from, .ref am_to, .ref am_way, .ref am_depth, .ref am_above, .ref am_pile, .ref am_next, .ref am_leader, .ref am_turned, .ref am_piece, .ref am_numbers, .ref am_row])), (am_xs, .inl (km_xs, 10, .inl zm_xs)), (am_ys, .inl (km_ys, 10, .inl zm_ys))] sz) [(km_xs, .int), (km_ys, .int)] [(am, .inr (5, [.int zm_thrown, .ref am_there, .ref am_ones, .ref am_others, .ref am_xs, .ref am_ys, .int zm_many, .ref am_a, .ref am_b, .ref am_from, .ref am_to, .ref am_way, .ref am_depth, .ref am_above, .ref am_pile, .ref am_next, .ref am_leader, .ref am_turned, .ref am_piece, .ref am_numbers, .ref am_row])), (am_xs, .inl (km_xs, 10, .inl zm_xs)), (am_ys, .inl (km_ys, 10, .inl zm_ys))] t) (va_A [(am, .inr (5, [.int zm_thrown, .ref am_there, .ref am_ones, .ref am_others, .ref am_xs, .ref am_ys, .int zm_many, .ref am_a, .ref am_b, .ref am_from, .ref am_to, .ref am_way, .ref am_depth, .ref am_above, .ref am_pile, .ref am_next, .ref am_leader, .ref am_turned, .ref am_piece, .ref am_numbers, .ref am_row])), (am_xs, .inl (km_xs, 10, .inl zm_xs)), (am_ys, .inl (km_ys, 10, .inl zm_ys))] sz)) 0 0 (va_A [(am, .inr (5, [.int zm_thrown, .ref am_there, .ref am_ones, .ref am_others, .ref am_xs, .ref am_ys, .int zm_many, .ref am_a, .ref am_b, .ref am_from, .ref am_to, .ref am_way, .ref am_depth, .ref am_above, .ref am_pile, .ref am_next, .ref am_leader, .ref am_turned, .ref am_piece, .ref am_numbers, .ref am_row])), (am_xs, .inl (km_xs, 10, .inl zm_xs)), (am_ys, .inl (km_ys, 10, .inl zm_ys))] sz) := by
  refine Met.ofW (cc := b_Mod_turn) (maxL := 5) (ret := (some .int)) (by decide) rfl ?_
  intro p e s m args below meth c s₁ B hml hv
  obtain ⟨hargs, hsz, hP, hK, hD0, hN⟩ := hv
  have hx := B.exec
  have hb := B.bytes
  have hr := B.returns
  have hts := atoms_spec (ws := w_Mod_turn) B.pre
  have hown : s.vm.findClass R_Mod = some m.cls := findClass_of_methodNamed B.named
  have hlocks := B.notSynchronized
  subst hsz
  have hD := hD0.self (sz := s.heap.size)
  generalize hAe : va_A [(am, .inr (5, [.int zm_thrown, .ref am_there, .ref am_ones, .ref am_others, .ref am_xs, .ref am_ys, .int zm_many, .ref am_a, .ref am_b, .ref am_from, .ref am_to, .ref am_way, .ref am_depth, .ref am_above, .ref am_pile, .ref am_next, .ref am_leader, .ref am_turned, .ref am_piece, .ref am_numbers, .ref am_row])), (am_xs, .inl (km_xs, 10, .inl zm_xs)), (am_ys, .inl (km_ys, 10, .inl zm_ys))] s.heap.size = A at hD ⊢
  have hA : ∀ q : Nat, s.heap.size ≤ q → A q := fun q h => by rw [← hAe]; exact Or.inr h
  have hS : va_S A s.heap s.heap [] := va_S.rf
  have hl := lv_entry ([.ref am, .int v1, .int v2, .int v3]) (n := 5) (Nat.le_of_ble_eq_true rfl)
  refine W.eq (congrArg (fun a => entryFrame m a 5) hargs) ?_
  rw [lg_entry_eq]
  generalize (lg_sl ([.ref am, .int v1, .int v2, .int v3]) ++ List.replicate (5 - (lg_sl ([.ref am, .int v1, .int v2, .int v3])).length) Slot.unset).toArray = ls at hl ⊢
  have hl : lv_has ls 5 [(0, .ref am), (1, .int v1), (2, .int v2), (3, .int v3)] := hl
  generalize hH0 : ([] : List Loc) = locs at hS ⊢
  have hI := hR.symm
  rw [F_turnM] at hI
  refine lv_aload_n hx hb d_Mod_turn_0 rfl (lv_at hl 0 rfl) ?_
  refine va_get (D := (dC, dI)) (ci := 5) (v := .ref am_xs) (C := R_Mod) (T := F_Mod) (N := 21) hx hb hts (fun w h => List.mem_cons_of_mem _ (in_Mod w h)) hown hK hP 0 rfl rfl 4 (by decide) (hts _ (List.mem_cons_of_mem _ mw_3_160)) (fun _ h9 => h9) rfl d_Mod_turn_1 ?_
  refine lv_iload_n hx hb d_Mod_turn_4 rfl (lv_at hl 2 rfl) ?_
  have hi_5 := ob_in hI
  have hI := ob_th hI
  refine va_iald (D := (dC, dI)) hx hb hK hP 1 0 rfl rfl hi_5 d_Mod_turn_5 ?_
  refine lv_aload_n hx hb d_Mod_turn_6 rfl (lv_at hl 0 rfl) ?_
  refine va_get (D := (dC, dI)) (ci := 5) (v := .ref am_xs) (C := R_Mod) (T := F_Mod) (N := 21) hx hb hts (fun w h => List.mem_cons_of_mem _ (in_Mod w h)) hown hK hP 0 rfl rfl 4 (by decide) (hts _ (List.mem_cons_of_mem _ mw_3_160)) (fun _ h9 => h9) rfl d_Mod_turn_7 ?_
  refine lv_iload_n hx hb d_Mod_turn_10 rfl (lv_at hl 1 rfl) ?_
  have hi_11 := ob_in hI
  have hI := ob_th hI
  refine va_iald (D := (dC, dI)) hx hb hK hP 1 0 rfl rfl hi_11 d_Mod_turn_11 ?_
  refine lv_isub hx hb d_Mod_turn_12 ?_
  refine lv_aload_n hx hb d_Mod_turn_13 rfl (lv_at hl 0 rfl) ?_
  refine va_get (D := (dC, dI)) (ci := 5) (v := .ref am_ys) (C := R_Mod) (T := F_Mod) (N := 21) hx hb hts (fun w h => List.mem_cons_of_mem _ (in_Mod w h)) hown hK hP 0 rfl rfl 5 (by decide) (hts _ (List.mem_cons_of_mem _ mw_3_161)) (fun _ h9 => h9) rfl d_Mod_turn_14 ?_
  refine lv_iload_n hx hb d_Mod_turn_17 rfl (lv_at hl 3 rfl) ?_
  have hi_18 := ob_in hI
  have hI := ob_th hI
  refine va_iald (D := (dC, dI)) hx hb hK hP 2 1 rfl rfl hi_18 d_Mod_turn_18 ?_
  refine lv_aload_n hx hb d_Mod_turn_19 rfl (lv_at hl 0 rfl) ?_
  refine va_get (D := (dC, dI)) (ci := 5) (v := .ref am_ys) (C := R_Mod) (T := F_Mod) (N := 21) hx hb hts (fun w h => List.mem_cons_of_mem _ (in_Mod w h)) hown hK hP 0 rfl rfl 5 (by decide) (hts _ (List.mem_cons_of_mem _ mw_3_161)) (fun _ h9 => h9) rfl d_Mod_turn_20 ?_
  refine lv_iload_n hx hb d_Mod_turn_23 rfl (lv_at hl 1 rfl) ?_
  refine va_iald (D := (dC, dI)) hx hb hK hP 2 1 rfl rfl hi_11 d_Mod_turn_24 ?_
  refine lv_isub hx hb d_Mod_turn_25 ?_
  refine lv_imul hx hb d_Mod_turn_26 ?_
  refine lv_aload_n hx hb d_Mod_turn_27 rfl (lv_at hl 0 rfl) ?_
  refine va_get (D := (dC, dI)) (ci := 5) (v := .ref am_ys) (C := R_Mod) (T := F_Mod) (N := 21) hx hb hts (fun w h => List.mem_cons_of_mem _ (in_Mod w h)) hown hK hP 0 rfl rfl 5 (by decide) (hts _ (List.mem_cons_of_mem _ mw_3_161)) (fun _ h9 => h9) rfl d_Mod_turn_28 ?_
  refine lv_iload_n hx hb d_Mod_turn_31 rfl (lv_at hl 2 rfl) ?_
  refine va_iald (D := (dC, dI)) hx hb hK hP 2 1 rfl rfl hi_5 d_Mod_turn_32 ?_
  refine lv_aload_n hx hb d_Mod_turn_33 rfl (lv_at hl 0 rfl) ?_
  refine va_get (D := (dC, dI)) (ci := 5) (v := .ref am_ys) (C := R_Mod) (T := F_Mod) (N := 21) hx hb hts (fun w h => List.mem_cons_of_mem _ (in_Mod w h)) hown hK hP 0 rfl rfl 5 (by decide) (hts _ (List.mem_cons_of_mem _ mw_3_161)) (fun _ h9 => h9) rfl d_Mod_turn_34 ?_
  refine lv_iload_n hx hb d_Mod_turn_37 rfl (lv_at hl 1 rfl) ?_
  refine va_iald (D := (dC, dI)) hx hb hK hP 2 1 rfl rfl hi_11 d_Mod_turn_38 ?_
  refine lv_isub hx hb d_Mod_turn_39 ?_
  refine lv_aload_n hx hb d_Mod_turn_40 rfl (lv_at hl 0 rfl) ?_
  refine va_get (D := (dC, dI)) (ci := 5) (v := .ref am_xs) (C := R_Mod) (T := F_Mod) (N := 21) hx hb hts (fun w h => List.mem_cons_of_mem _ (in_Mod w h)) hown hK hP 0 rfl rfl 4 (by decide) (hts _ (List.mem_cons_of_mem _ mw_3_160)) (fun _ h9 => h9) rfl d_Mod_turn_41 ?_
  refine lv_iload_n hx hb d_Mod_turn_44 rfl (lv_at hl 3 rfl) ?_
  refine va_iald (D := (dC, dI)) hx hb hK hP 1 0 rfl rfl hi_18 d_Mod_turn_45 ?_
  refine lv_aload_n hx hb d_Mod_turn_46 rfl (lv_at hl 0 rfl) ?_
  refine va_get (D := (dC, dI)) (ci := 5) (v := .ref am_xs) (C := R_Mod) (T := F_Mod) (N := 21) hx hb hts (fun w h => List.mem_cons_of_mem _ (in_Mod w h)) hown hK hP 0 rfl rfl 4 (by decide) (hts _ (List.mem_cons_of_mem _ mw_3_160)) (fun _ h9 => h9) rfl d_Mod_turn_47 ?_
  refine lv_iload_n hx hb d_Mod_turn_50 rfl (lv_at hl 1 rfl) ?_
  refine va_iald (D := (dC, dI)) hx hb hK hP 1 0 rfl rfl hi_11 d_Mod_turn_51 ?_
  refine lv_isub hx hb d_Mod_turn_52 ?_
  refine lv_imul hx hb d_Mod_turn_53 ?_
  refine lv_isub hx hb d_Mod_turn_54 ?_
  refine lv_istore (lv' := [(4, .int ((((zm_xs (Int32.toNatClampNeg v2)) - (zm_xs (Int32.toNatClampNeg v1))) * ((zm_ys (Int32.toNatClampNeg v3)) - (zm_ys (Int32.toNatClampNeg v1)))) - (((zm_ys (Int32.toNatClampNeg v2)) - (zm_ys (Int32.toNatClampNeg v1))) * ((zm_xs (Int32.toNatClampNeg v3)) - (zm_xs (Int32.toNatClampNeg v1)))))), (0, .ref am), (1, .int v1), (2, .int v2), (3, .int v3)]) hx hb d_Mod_turn_55 hl (by decide) rfl (fun ls hl => ?_)
  refine lv_iload hx hb d_Mod_turn_57 (lv_at hl 0 rfl) ?_
  refine lv_if_le (tgt := 66) hx hb d_Mod_turn_59 rfl (fun hc_59 => ?_) (fun hc_59 => ?_)
  · skip
    have hI := hI.trans (if_pos hc_59)
    refine lv_iload hx hb d_Mod_turn_66 (lv_at hl 0 rfl) ?_
    refine lv_if_ge (tgt := 75) hx hb d_Mod_turn_68 rfl (fun hc_68 => ?_) (fun hc_68 => ?_)
    · skip
      have hI := hI.trans (if_pos hc_68)
      refine lv_iconst (v := 0) hx hb d_Mod_turn_75 (by decide) ?_
      exact W.iret (v := 0) hx hb hr (fun t ht hW => ⟨⟨0, (), rfl, (Option.some.inj hI).symm, by rw [ht]; exact hP, va_K.moved hW.alike hK, hD⟩, hS.F ht⟩) hS.2.2 d_Mod_turn_76
    · skip
      have hI := hI.trans (if_neg hc_68)
      refine lv_iconst (v := -1) hx hb d_Mod_turn_71 (by decide) ?_
      refine lv_goto (tgt := 76) hx hb d_Mod_turn_72 rfl ?_
      exact W.iret (v := (-1)) hx hb hr (fun t ht hW => ⟨⟨(-1), (), rfl, (Option.some.inj hI).symm, by rw [ht]; exact hP, va_K.moved hW.alike hK, hD⟩, hS.F ht⟩) hS.2.2 d_Mod_turn_76
  · skip
    have hI := hI.trans (if_neg hc_59)
    refine lv_iconst (v := 1) hx hb d_Mod_turn_62 (by decide) ?_
    refine lv_goto (tgt := 76) hx hb d_Mod_turn_63 rfl ?_
    exact W.iret (v := 1) hx hb hr (fun t ht hW => ⟨⟨1, (), rfl, (Option.some.inj hI).symm, by rw [ht]; exact hP, va_K.moved hW.alike hK, hD⟩, hS.F ht⟩) hS.2.2 d_Mod_turn_76
set_option maxHeartbeats 4000000 in
set_option maxRecDepth 100000 in
theorem c_isOnM (l : Launch) (dC : Nat → ClassId) (dI : Nat → Nat → Nat) (sz : Nat) (am am_there am_ones am_others am_xs am_ys am_a am_b am_from am_to am_way am_depth am_above am_pile am_next am_leader am_turned am_piece am_numbers am_row : Nat) (km_xs km_ys : ClassId) (zm_thrown : Int32) (zm_many : Int32) (zm_xs : Nat → Int32) (zm_ys : Nat → Int32) (v1 v2 v3 : Int32) (R : Int32) (hR : F_isOnM zm_xs zm_ys v1 v2 v3 = some R) : Met l y_Mod_isOn w_Mod_isOn ({ frames := 1, cells := 0, slots := 0, locals := 24 }) (Pre_ dC dI sz [.ref am, .int v1, .int v2, .int v3] [(am, .inr (5, [.int zm_thrown, .ref am_there, .ref am_ones, .ref am_others, .ref am_xs, .ref am_ys, .int zm_many, .ref am_a, .ref am_b, .ref am_from, .ref am_to, .ref am_way, .ref am_depth, .ref am_above, .ref am_pile, .ref am_next, .ref am_leader, .ref am_turned, .ref am_piece, .ref am_numbers, .ref am_row])), (am_xs, .inl (km_xs, 10, .inl zm_xs)), (am_ys, .inl (km_ys, 10, .inl zm_ys))] [(km_xs, .int), (km_ys, .int)]) (va_Qi (fun (r : Int32) (u : Unit) => (r = R) ∧ z01 r) (fun u t => End_ dC dI (va_A [(am, .inr (5, [.int zm_thrown, .ref am_there, .ref am_ones, .ref am_others, .ref am_xs, .ref am_ys, .int zm_many, .ref am_a, .ref am_b, .ref am_from, .ref am_to, .ref am_way, .ref am_depth, .ref am_above, .ref am_pile, .ref am_next, .ref am_leader, .ref am_turned, .ref am_piece, .ref am_numbers, .ref am_row])), (am_xs, .inl (km_xs, 10, .inl zm_xs)), (am_ys, .inl (km_ys, 10, .inl zm_ys))] sz) [(km_xs, .int), (km_ys, .int)] [(am, .inr (5, [.int zm_thrown, .ref am_there, .ref am_ones, .ref am_others, .ref am_xs, .ref am_ys, .int zm_many, .ref am_a, .ref am_b, .ref am_from, .ref am_to, .ref am_way, .ref am_depth, .ref am_above, .ref am_pile, .ref am_next, .ref am_leader, .ref am_turned, .ref am_piece, .ref am_numbers, .ref am_row])), (am_xs, .inl (km_xs, 10, .inl zm_xs)), (am_ys, .inl (km_ys, 10, .inl zm_ys))] t) (va_A [(am, .inr (5, [.int zm_thrown, .ref am_there, .ref am_ones, .ref am_others, .ref am_xs, .ref am_ys, .int zm_many, .ref am_a, .ref am_b, .ref am_from, .ref am_to, .ref am_way, .ref am_depth, .ref am_above, .ref am_pile, .ref am_next, .ref am_leader, .ref am_turned, .ref am_piece, .ref am_numbers, .ref am_row])), (am_xs, .inl (km_xs, 10, .inl zm_xs)), (am_ys, .inl (km_ys, 10, .inl zm_ys))] sz)) 0 0 (va_A [(am, .inr (5, [.int zm_thrown, .ref am_there, .ref am_ones, .ref am_others, .ref am_xs, .ref am_ys, .int zm_many, .ref am_a, .ref am_b, .ref am_from, .ref am_to, .ref am_way, .ref am_depth, .ref am_above, .ref am_pile, .ref am_next, .ref am_leader, .ref am_turned, .ref am_piece, .ref am_numbers, .ref am_row])), (am_xs, .inl (km_xs, 10, .inl zm_xs)), (am_ys, .inl (km_ys, 10, .inl zm_ys))] sz) := by
  refine Met.ofW (cc := b_Mod_isOn) (maxL := 6) (ret := (some .boolean)) (by decide) rfl ?_
  intro p e s m args below meth c s₁ B hml hv
  obtain ⟨hargs, hsz, hP, hK, hD0, hN⟩ := hv
  have hx := B.exec
  have hb := B.bytes
  have hr := B.returns
  have hts := atoms_spec (ws := w_Mod_isOn) B.pre
  have hown : s.vm.findClass R_Mod = some m.cls := findClass_of_methodNamed B.named
  have hlocks := B.notSynchronized
  subst hsz
  have hD := hD0.self (sz := s.heap.size)
  generalize hAe : va_A [(am, .inr (5, [.int zm_thrown, .ref am_there, .ref am_ones, .ref am_others, .ref am_xs, .ref am_ys, .int zm_many, .ref am_a, .ref am_b, .ref am_from, .ref am_to, .ref am_way, .ref am_depth, .ref am_above, .ref am_pile, .ref am_next, .ref am_leader, .ref am_turned, .ref am_piece, .ref am_numbers, .ref am_row])), (am_xs, .inl (km_xs, 10, .inl zm_xs)), (am_ys, .inl (km_ys, 10, .inl zm_ys))] s.heap.size = A at hD ⊢
  have hA : ∀ q : Nat, s.heap.size ≤ q → A q := fun q h => by rw [← hAe]; exact Or.inr h
  have hS : va_S A s.heap s.heap [] := va_S.rf
  have hl := lv_entry ([.ref am, .int v1, .int v2, .int v3]) (n := 6) (Nat.le_of_ble_eq_true rfl)
  refine W.eq (congrArg (fun a => entryFrame m a 6) hargs) ?_
  rw [lg_entry_eq]
  generalize (lg_sl ([.ref am, .int v1, .int v2, .int v3]) ++ List.replicate (6 - (lg_sl ([.ref am, .int v1, .int v2, .int v3])).length) Slot.unset).toArray = ls at hl ⊢
  have hl : lv_has ls 6 [(0, .ref am), (1, .int v1), (2, .int v2), (3, .int v3)] := hl
  generalize hH0 : ([] : List Loc) = locs at hS ⊢
  have hI := hR.symm
  rw [F_isOnM] at hI
  refine lv_aload_n hx hb d_Mod_isOn_0 rfl (lv_at hl 0 rfl) ?_
  refine va_get (D := (dC, dI)) (ci := 5) (v := .ref am_xs) (C := R_Mod) (T := F_Mod) (N := 21) hx hb hts (fun w h => List.mem_cons_of_mem _ (in_Mod w h)) hown hK hP 0 rfl rfl 4 (by decide) (hts _ (List.mem_cons_of_mem _ mw_3_160)) (fun _ h9 => h9) rfl d_Mod_isOn_1 ?_
  refine lv_iload_n hx hb d_Mod_isOn_4 rfl (lv_at hl 3 rfl) ?_
  have hi_5 := ob_in hI
  have hI := ob_th hI
  refine va_iald (D := (dC, dI)) hx hb hK hP 1 0 rfl rfl hi_5 d_Mod_isOn_5 ?_
  refine lv_aload_n hx hb d_Mod_isOn_6 rfl (lv_at hl 0 rfl) ?_
  refine va_get (D := (dC, dI)) (ci := 5) (v := .ref am_xs) (C := R_Mod) (T := F_Mod) (N := 21) hx hb hts (fun w h => List.mem_cons_of_mem _ (in_Mod w h)) hown hK hP 0 rfl rfl 4 (by decide) (hts _ (List.mem_cons_of_mem _ mw_3_160)) (fun _ h9 => h9) rfl d_Mod_isOn_7 ?_
  refine lv_iload_n hx hb d_Mod_isOn_10 rfl (lv_at hl 1 rfl) ?_
  have hi_11 := ob_in hI
  have hI := ob_th hI
  refine va_iald (D := (dC, dI)) hx hb hK hP 1 0 rfl rfl hi_11 d_Mod_isOn_11 ?_
  refine lv_aload_n hx hb d_Mod_isOn_12 rfl (lv_at hl 0 rfl) ?_
  refine va_get (D := (dC, dI)) (ci := 5) (v := .ref am_xs) (C := R_Mod) (T := F_Mod) (N := 21) hx hb hts (fun w h => List.mem_cons_of_mem _ (in_Mod w h)) hown hK hP 0 rfl rfl 4 (by decide) (hts _ (List.mem_cons_of_mem _ mw_3_160)) (fun _ h9 => h9) rfl d_Mod_isOn_13 ?_
  refine lv_iload_n hx hb d_Mod_isOn_16 rfl (lv_at hl 2 rfl) ?_
  have hi_17 := ob_in hI
  have hI := ob_th hI
  refine va_iald (D := (dC, dI)) hx hb hK hP 1 0 rfl rfl hi_17 d_Mod_isOn_17 ?_
  obtain ⟨K_j36_18, hK_j36_18⟩ : ∃ K : Int32 → Option (Int32), K = (fun (j_36_18 : Int32) => ((fun (j_83_36 : Int32) => ((fun (j_121_103 : Int32) => ((fun (j_168_121 : Int32) => (if j_83_36 = 0 then some ((0 : Int32)) else (if j_168_121 = 0 then some ((0 : Int32)) else ((F_turnM zm_xs zm_ys v1 v2 v3).bind (fun p_184 => (if p_184 = 0 then some ((1 : Int32)) else some ((0 : Int32)))))))) (if (zm_ys (Int32.toNatClampNeg v3)) < j_121_103 then ((0 : Int32)) else ((fun (j_160_142 : Int32) => (if j_160_142 < (zm_ys (Int32.toNatClampNeg v3)) then ((0 : Int32)) else ((1 : Int32)))) (if (zm_ys (Int32.toNatClampNeg v2)) ≤ (zm_ys (Int32.toNatClampNeg v1)) then (zm_ys (Int32.toNatClampNeg v1)) else (zm_ys (Int32.toNatClampNeg v2))))))) (if (zm_ys (Int32.toNatClampNeg v2)) ≤ (zm_ys (Int32.toNatClampNeg v1)) then (zm_ys (Int32.toNatClampNeg v2)) else (zm_ys (Int32.toNatClampNeg v1))))) (if (zm_xs (Int32.toNatClampNeg v3)) < j_36_18 then ((0 : Int32)) else ((fun (j_75_57 : Int32) => (if j_75_57 < (zm_xs (Int32.toNatClampNeg v3)) then ((0 : Int32)) else ((1 : Int32)))) (if (zm_xs (Int32.toNatClampNeg v2)) ≤ (zm_xs (Int32.toNatClampNeg v1)) then (zm_xs (Int32.toNatClampNeg v1)) else (zm_xs (Int32.toNatClampNeg v2))))))) := ⟨_, rfl⟩
  have J_36_18 : ∀ (s0_36_18 : Int32) (H : Heap) (locs : List Loc) (ls : Array Slot), some R = (K_j36_18 s0_36_18) → va_P (dC, dI) classes [(am, .inr (5, [.int zm_thrown, .ref am_there, .ref am_ones, .ref am_others, .ref am_xs, .ref am_ys, .int zm_many, .ref am_a, .ref am_b, .ref am_from, .ref am_to, .ref am_way, .ref am_depth, .ref am_above, .ref am_pile, .ref am_next, .ref am_leader, .ref am_turned, .ref am_piece, .ref am_numbers, .ref am_row])), (am_xs, .inl (km_xs, 10, .inl zm_xs)), (am_ys, .inl (km_ys, 10, .inl zm_ys))] H → va_D A [(am, .inr (5, [.int zm_thrown, .ref am_there, .ref am_ones, .ref am_others, .ref am_xs, .ref am_ys, .int zm_many, .ref am_a, .ref am_b, .ref am_from, .ref am_to, .ref am_way, .ref am_depth, .ref am_above, .ref am_pile, .ref am_next, .ref am_leader, .ref am_turned, .ref am_piece, .ref am_numbers, .ref am_row])), (am_xs, .inl (km_xs, 10, .inl zm_xs)), (am_ys, .inl (km_ys, 10, .inl zm_ys))] → va_S A s.heap H locs → lv_has ls 6 [(0, .ref am), (1, .int v1), (2, .int v2), (3, .int v3)] → W p l e (headSpec w_Mod_isOn ({ frames := 1, cells := 0, slots := 0, locals := 24 })).room s m args below meth c H locs 0 0 (MQ below (va_Qi (fun (r : Int32) (u : Unit) => (r = R) ∧ z01 r) (fun u t => End_ dC dI A [(km_xs, .int), (km_ys, .int)] [(am, .inr (5, [.int zm_thrown, .ref am_there, .ref am_ones, .ref am_others, .ref am_xs, .ref am_ys, .int zm_many, .ref am_a, .ref am_b, .ref am_from, .ref am_to, .ref am_way, .ref am_depth, .ref am_above, .ref am_pile, .ref am_next, .ref am_leader, .ref am_turned, .ref am_piece, .ref am_numbers, .ref am_row])), (am_xs, .inl (km_xs, 10, .inl zm_xs)), (am_ys, .inl (km_ys, 10, .inl zm_ys))] t) A) args s 0 0 A) (F0 m 36 ls [.int s0_36_18, .int (zm_xs (Int32.toNatClampNeg v3))]) := by
    intro s0_36_18 H locs ls hI hP hD hS hl
    rw [hK_j36_18] at hI
    obtain ⟨K_j83_36, hK_j83_36⟩ : ∃ K : Int32 → Option (Int32), K = (fun (j_83_36 : Int32) => ((fun (j_121_103 : Int32) => ((fun (j_168_121 : Int32) => (if j_83_36 = 0 then some ((0 : Int32)) else (if j_168_121 = 0 then some ((0 : Int32)) else ((F_turnM zm_xs zm_ys v1 v2 v3).bind (fun p_184 => (if p_184 = 0 then some ((1 : Int32)) else some ((0 : Int32)))))))) (if (zm_ys (Int32.toNatClampNeg v3)) < j_121_103 then ((0 : Int32)) else ((fun (j_160_142 : Int32) => (if j_160_142 < (zm_ys (Int32.toNatClampNeg v3)) then ((0 : Int32)) else ((1 : Int32)))) (if (zm_ys (Int32.toNatClampNeg v2)) ≤ (zm_ys (Int32.toNatClampNeg v1)) then (zm_ys (Int32.toNatClampNeg v1)) else (zm_ys (Int32.toNatClampNeg v2))))))) (if (zm_ys (Int32.toNatClampNeg v2)) ≤ (zm_ys (Int32.toNatClampNeg v1)) then (zm_ys (Int32.toNatClampNeg v2)) else (zm_ys (Int32.toNatClampNeg v1))))) := ⟨_, rfl⟩
    have J_83_36 : ∀ (s0_83_36 : Int32) (H : Heap) (locs : List Loc) (ls : Array Slot), some R = (K_j83_36 s0_83_36) → va_P (dC, dI) classes [(am, .inr (5, [.int zm_thrown, .ref am_there, .ref am_ones, .ref am_others, .ref am_xs, .ref am_ys, .int zm_many, .ref am_a, .ref am_b, .ref am_from, .ref am_to, .ref am_way, .ref am_depth, .ref am_above, .ref am_pile, .ref am_next, .ref am_leader, .ref am_turned, .ref am_piece, .ref am_numbers, .ref am_row])), (am_xs, .inl (km_xs, 10, .inl zm_xs)), (am_ys, .inl (km_ys, 10, .inl zm_ys))] H → va_D A [(am, .inr (5, [.int zm_thrown, .ref am_there, .ref am_ones, .ref am_others, .ref am_xs, .ref am_ys, .int zm_many, .ref am_a, .ref am_b, .ref am_from, .ref am_to, .ref am_way, .ref am_depth, .ref am_above, .ref am_pile, .ref am_next, .ref am_leader, .ref am_turned, .ref am_piece, .ref am_numbers, .ref am_row])), (am_xs, .inl (km_xs, 10, .inl zm_xs)), (am_ys, .inl (km_ys, 10, .inl zm_ys))] → va_S A s.heap H locs → lv_has ls 6 [(0, .ref am), (1, .int v1), (2, .int v2), (3, .int v3)] → W p l e (headSpec w_Mod_isOn ({ frames := 1, cells := 0, slots := 0, locals := 24 })).room s m args below meth c H locs 0 0 (MQ below (va_Qi (fun (r : Int32) (u : Unit) => (r = R) ∧ z01 r) (fun u t => End_ dC dI A [(km_xs, .int), (km_ys, .int)] [(am, .inr (5, [.int zm_thrown, .ref am_there, .ref am_ones, .ref am_others, .ref am_xs, .ref am_ys, .int zm_many, .ref am_a, .ref am_b, .ref am_from, .ref am_to, .ref am_way, .ref am_depth, .ref am_above, .ref am_pile, .ref am_next, .ref am_leader, .ref am_turned, .ref am_piece, .ref am_numbers, .ref am_row])), (am_xs, .inl (km_xs, 10, .inl zm_xs)), (am_ys, .inl (km_ys, 10, .inl zm_ys))] t) A) args s 0 0 A) (F0 m 83 ls [.int s0_83_36]) := by
      intro s0_83_36 H locs ls hI hP hD hS hl
      rw [hK_j83_36] at hI
      refine lv_istore (lv' := [(4, .int s0_83_36), (0, .ref am), (1, .int v1), (2, .int v2), (3, .int v3)]) hx hb d_Mod_isOn_83 hl (by decide) rfl (fun ls hl => ?_)
      refine lv_aload_n hx hb d_Mod_isOn_85 rfl (lv_at hl 1 rfl) ?_
      refine va_get (D := (dC, dI)) (ci := 5) (v := .ref am_ys) (C := R_Mod) (T := F_Mod) (N := 21) hx hb hts (fun w h => List.mem_cons_of_mem _ (in_Mod w h)) hown hK hP 0 rfl rfl 5 (by decide) (hts _ (List.mem_cons_of_mem _ mw_3_161)) (fun _ h9 => h9) rfl d_Mod_isOn_86 ?_
      refine lv_iload_n hx hb d_Mod_isOn_89 rfl (lv_at hl 4 rfl) ?_
      refine va_iald (D := (dC, dI)) hx hb hK hP 2 1 rfl rfl hi_5 d_Mod_isOn_90 ?_
      refine lv_aload_n hx hb d_Mod_isOn_91 rfl (lv_at hl 1 rfl) ?_
      refine va_get (D := (dC, dI)) (ci := 5) (v := .ref am_ys) (C := R_Mod) (T := F_Mod) (N := 21) hx hb hts (fun w h => List.mem_cons_of_mem _ (in_Mod w h)) hown hK hP 0 rfl rfl 5 (by decide) (hts _ (List.mem_cons_of_mem _ mw_3_161)) (fun _ h9 => h9) rfl d_Mod_isOn_92 ?_
      refine lv_iload_n hx hb d_Mod_isOn_95 rfl (lv_at hl 2 rfl) ?_
      refine va_iald (D := (dC, dI)) hx hb hK hP 2 1 rfl rfl hi_11 d_Mod_isOn_96 ?_
      refine lv_aload_n hx hb d_Mod_isOn_97 rfl (lv_at hl 1 rfl) ?_
      refine va_get (D := (dC, dI)) (ci := 5) (v := .ref am_ys) (C := R_Mod) (T := F_Mod) (N := 21) hx hb hts (fun w h => List.mem_cons_of_mem _ (in_Mod w h)) hown hK hP 0 rfl rfl 5 (by decide) (hts _ (List.mem_cons_of_mem _ mw_3_161)) (fun _ h9 => h9) rfl d_Mod_isOn_98 ?_
      refine lv_iload_n hx hb d_Mod_isOn_101 rfl (lv_at hl 3 rfl) ?_
      refine va_iald (D := (dC, dI)) hx hb hK hP 2 1 rfl rfl hi_17 d_Mod_isOn_102 ?_
      obtain ⟨K_j121_103, hK_j121_103⟩ : ∃ K : Int32 → Option (Int32), K = (fun (j_121_103 : Int32) => ((fun (j_168_121 : Int32) => (if s0_83_36 = 0 then some ((0 : Int32)) else (if j_168_121 = 0 then some ((0 : Int32)) else ((F_turnM zm_xs zm_ys v1 v2 v3).bind (fun p_184 => (if p_184 = 0 then some ((1 : Int32)) else some ((0 : Int32)))))))) (if (zm_ys (Int32.toNatClampNeg v3)) < j_121_103 then ((0 : Int32)) else ((fun (j_160_142 : Int32) => (if j_160_142 < (zm_ys (Int32.toNatClampNeg v3)) then ((0 : Int32)) else ((1 : Int32)))) (if (zm_ys (Int32.toNatClampNeg v2)) ≤ (zm_ys (Int32.toNatClampNeg v1)) then (zm_ys (Int32.toNatClampNeg v1)) else (zm_ys (Int32.toNatClampNeg v2))))))) := ⟨_, rfl⟩
      have J_121_103 : ∀ (s0_121_103 : Int32) (H : Heap) (locs : List Loc) (ls : Array Slot), some R = (K_j121_103 s0_121_103) → va_P (dC, dI) classes [(am, .inr (5, [.int zm_thrown, .ref am_there, .ref am_ones, .ref am_others, .ref am_xs, .ref am_ys, .int zm_many, .ref am_a, .ref am_b, .ref am_from, .ref am_to, .ref am_way, .ref am_depth, .ref am_above, .ref am_pile, .ref am_next, .ref am_leader, .ref am_turned, .ref am_piece, .ref am_numbers, .ref am_row])), (am_xs, .inl (km_xs, 10, .inl zm_xs)), (am_ys, .inl (km_ys, 10, .inl zm_ys))] H → va_D A [(am, .inr (5, [.int zm_thrown, .ref am_there, .ref am_ones, .ref am_others, .ref am_xs, .ref am_ys, .int zm_many, .ref am_a, .ref am_b, .ref am_from, .ref am_to, .ref am_way, .ref am_depth, .ref am_above, .ref am_pile, .ref am_next, .ref am_leader, .ref am_turned, .ref am_piece, .ref am_numbers, .ref am_row])), (am_xs, .inl (km_xs, 10, .inl zm_xs)), (am_ys, .inl (km_ys, 10, .inl zm_ys))] → va_S A s.heap H locs → lv_has ls 6 [(0, .ref am), (1, .int v1), (2, .int v2), (3, .int v3), (4, .int s0_83_36)] → W p l e (headSpec w_Mod_isOn ({ frames := 1, cells := 0, slots := 0, locals := 24 })).room s m args below meth c H locs 0 0 (MQ below (va_Qi (fun (r : Int32) (u : Unit) => (r = R) ∧ z01 r) (fun u t => End_ dC dI A [(km_xs, .int), (km_ys, .int)] [(am, .inr (5, [.int zm_thrown, .ref am_there, .ref am_ones, .ref am_others, .ref am_xs, .ref am_ys, .int zm_many, .ref am_a, .ref am_b, .ref am_from, .ref am_to, .ref am_way, .ref am_depth, .ref am_above, .ref am_pile, .ref am_next, .ref am_leader, .ref am_turned, .ref am_piece, .ref am_numbers, .ref am_row])), (am_xs, .inl (km_xs, 10, .inl zm_xs)), (am_ys, .inl (km_ys, 10, .inl zm_ys))] t) A) args s 0 0 A) (F0 m 121 ls [.int s0_121_103, .int (zm_ys (Int32.toNatClampNeg v3))]) := by
        intro s0_121_103 H locs ls hI hP hD hS hl
        rw [hK_j121_103] at hI
        obtain ⟨K_j168_121, hK_j168_121⟩ : ∃ K : Int32 → Option (Int32), K = (fun (j_168_121 : Int32) => (if s0_83_36 = 0 then some ((0 : Int32)) else (if j_168_121 = 0 then some ((0 : Int32)) else ((F_turnM zm_xs zm_ys v1 v2 v3).bind (fun p_184 => (if p_184 = 0 then some ((1 : Int32)) else some ((0 : Int32)))))))) := ⟨_, rfl⟩
        have J_168_121 : ∀ (s0_168_121 : Int32) (H : Heap) (locs : List Loc) (ls : Array Slot), some R = (K_j168_121 s0_168_121) → va_P (dC, dI) classes [(am, .inr (5, [.int zm_thrown, .ref am_there, .ref am_ones, .ref am_others, .ref am_xs, .ref am_ys, .int zm_many, .ref am_a, .ref am_b, .ref am_from, .ref am_to, .ref am_way, .ref am_depth, .ref am_above, .ref am_pile, .ref am_next, .ref am_leader, .ref am_turned, .ref am_piece, .ref am_numbers, .ref am_row])), (am_xs, .inl (km_xs, 10, .inl zm_xs)), (am_ys, .inl (km_ys, 10, .inl zm_ys))] H → va_D A [(am, .inr (5, [.int zm_thrown, .ref am_there, .ref am_ones, .ref am_others, .ref am_xs, .ref am_ys, .int zm_many, .ref am_a, .ref am_b, .ref am_from, .ref am_to, .ref am_way, .ref am_depth, .ref am_above, .ref am_pile, .ref am_next, .ref am_leader, .ref am_turned, .ref am_piece, .ref am_numbers, .ref am_row])), (am_xs, .inl (km_xs, 10, .inl zm_xs)), (am_ys, .inl (km_ys, 10, .inl zm_ys))] → va_S A s.heap H locs → lv_has ls 6 [(0, .ref am), (1, .int v1), (2, .int v2), (3, .int v3), (4, .int s0_83_36)] → W p l e (headSpec w_Mod_isOn ({ frames := 1, cells := 0, slots := 0, locals := 24 })).room s m args below meth c H locs 0 0 (MQ below (va_Qi (fun (r : Int32) (u : Unit) => (r = R) ∧ z01 r) (fun u t => End_ dC dI A [(km_xs, .int), (km_ys, .int)] [(am, .inr (5, [.int zm_thrown, .ref am_there, .ref am_ones, .ref am_others, .ref am_xs, .ref am_ys, .int zm_many, .ref am_a, .ref am_b, .ref am_from, .ref am_to, .ref am_way, .ref am_depth, .ref am_above, .ref am_pile, .ref am_next, .ref am_leader, .ref am_turned, .ref am_piece, .ref am_numbers, .ref am_row])), (am_xs, .inl (km_xs, 10, .inl zm_xs)), (am_ys, .inl (km_ys, 10, .inl zm_ys))] t) A) args s 0 0 A) (F0 m 168 ls [.int s0_168_121]) := by
          intro s0_168_121 H locs ls hI hP hD hS hl
          rw [hK_j168_121] at hI
          refine lv_istore (lv' := [(5, .int s0_168_121), (0, .ref am), (1, .int v1), (2, .int v2), (3, .int v3), (4, .int s0_83_36)]) hx hb d_Mod_isOn_168 hl (by decide) rfl (fun ls hl => ?_)
          refine lv_iload hx hb d_Mod_isOn_170 (lv_at hl 5 rfl) ?_
          refine lv_if_eq (tgt := 194) hx hb d_Mod_isOn_172 rfl (fun hc_172 => ?_) (fun hc_172 => ?_)
          · skip
            have hI := hI.trans (if_pos hc_172)
            refine lv_iconst (v := 0) hx hb d_Mod_isOn_194 (by decide) ?_
            exact W.zret (v := 0) (ty := .boolean) hx hb hr (nr01 (Or.inl rfl)) (fun t ht hW => ⟨⟨0, (), rfl, ⟨(Option.some.inj hI).symm, (Or.inl rfl)⟩, by rw [ht]; exact hP, va_K.moved hW.alike hK, hD⟩, hS.F ht⟩) hS.2.2 d_Mod_isOn_195
          · skip
            have hI := hI.trans (if_neg hc_172)
            refine lv_iload hx hb d_Mod_isOn_175 (lv_at hl 0 rfl) ?_
            refine lv_if_eq (tgt := 194) hx hb d_Mod_isOn_177 rfl (fun hc_177 => ?_) (fun hc_177 => ?_)
            · skip
              have hI := hI.trans (if_pos hc_177)
              refine lv_iconst (v := 0) hx hb d_Mod_isOn_194 (by decide) ?_
              exact W.zret (v := 0) (ty := .boolean) hx hb hr (nr01 (Or.inl rfl)) (fun t ht hW => ⟨⟨0, (), rfl, ⟨(Option.some.inj hI).symm, (Or.inl rfl)⟩, by rw [ht]; exact hP, va_K.moved hW.alike hK, hD⟩, hS.F ht⟩) hS.2.2 d_Mod_isOn_195
            · skip
              have hI := hI.trans (if_neg hc_177)
              refine lv_aload_n hx hb d_Mod_isOn_180 rfl (lv_at hl 1 rfl) ?_
              refine lv_iload_n hx hb d_Mod_isOn_181 rfl (lv_at hl 2 rfl) ?_
              refine lv_iload_n hx hb d_Mod_isOn_182 rfl (lv_at hl 3 rfl) ?_
              refine lv_iload_n hx hb d_Mod_isOn_183 rfl (lv_at hl 4 rfl) ?_
              obtain ⟨p_184, hg_184, hI⟩ := ob_bd hI
              have hPc := hP.sub (ws' := [(am, .inr (5, [.int zm_thrown, .ref am_there, .ref am_ones, .ref am_others, .ref am_xs, .ref am_ys, .int zm_many, .ref am_a, .ref am_b, .ref am_from, .ref am_to, .ref am_way, .ref am_depth, .ref am_above, .ref am_pile, .ref am_next, .ref am_leader, .ref am_turned, .ref am_piece, .ref am_numbers, .ref am_row])), (am_xs, .inl (km_xs, 10, .inl zm_xs)), (am_ys, .inl (km_ys, 10, .inl zm_ys))]) [0, 1, 2] rfl
              have hDc := hD.sub (ws' := [(am, .inr (5, [.int zm_thrown, .ref am_there, .ref am_ones, .ref am_others, .ref am_xs, .ref am_ys, .int zm_many, .ref am_a, .ref am_b, .ref am_from, .ref am_to, .ref am_way, .ref am_depth, .ref am_above, .ref am_pile, .ref am_next, .ref am_leader, .ref am_turned, .ref am_piece, .ref am_numbers, .ref am_row])), (am_xs, .inl (km_xs, 10, .inl zm_xs)), (am_ys, .inl (km_ys, 10, .inl zm_ys))]) [0, 1, 2] (by decide) rfl
              have hKc := hK.sub (tys' := [(km_xs, .int), (km_ys, .int)]) [0, 1] rfl
              have hFc := va_free (wc := [(am, .inr (5, [.int zm_thrown, .ref am_there, .ref am_ones, .ref am_others, .ref am_xs, .ref am_ys, .int zm_many, .ref am_a, .ref am_b, .ref am_from, .ref am_to, .ref am_way, .ref am_depth, .ref am_above, .ref am_pile, .ref am_next, .ref am_leader, .ref am_turned, .ref am_piece, .ref am_numbers, .ref am_row])), (am_xs, .inl (km_xs, 10, .inl zm_xs)), (am_ys, .inl (km_ys, 10, .inl zm_ys))]) hD hS hA [0, 1, 2] rfl
              refine va_calli (va_runV (As := [.int v1, .int v2, .int v3]) (rest := []) ⟨hx, hb, hml, hown, hts⟩ (c_turnM l dC dI H.size am am_there am_ones am_others am_xs am_ys am_a am_b am_from am_to am_way am_depth am_above am_pile am_next am_leader am_turned am_piece am_numbers am_row km_xs km_ys zm_thrown zm_many zm_xs zm_ys v1 v2 v3 p_184 hg_184) (cwV 3 hts (gi4 mw_4_216 mw_4_218 mw_p_65 mw_1_6 mw_4_219) rfl rfl rfl (by decide +kernel) ⟨Nat.le_of_ble_eq_true rfl, Nat.le_of_ble_eq_true rfl⟩) ⟨fb_, va_recv (q0 := 0) (ci := 5) hK hP rfl rfl, pre_ hPc hKc hDc hN⟩ rfl rfl hl.1 rfl (lv_room (Nat.le_of_ble_eq_true rfl)) d_Mod_isOn_184 ⟨Nat.le_of_ble_eq_true rfl, Nat.le_of_ble_eq_true rfl⟩) hS (fun q _ h => hFc q h) hFc (fun r_184 u t H locs ht hvm hp_184 hB hz1 hk1 hS => ?_)
              obtain ⟨hP1, -, hD1⟩ := hB
              rw [ht] at hP1
              obtain ⟨hP, hD⟩ := va_join (wr := []) (w1 := [(am, .inr (5, [.int zm_thrown, .ref am_there, .ref am_ones, .ref am_others, .ref am_xs, .ref am_ys, .int zm_many, .ref am_a, .ref am_b, .ref am_from, .ref am_to, .ref am_way, .ref am_depth, .ref am_above, .ref am_pile, .ref am_next, .ref am_leader, .ref am_turned, .ref am_piece, .ref am_numbers, .ref am_row])), (am_xs, .inl (km_xs, 10, .inl zm_xs)), (am_ys, .inl (km_ys, 10, .inl zm_ys))]) hP hD [0, 1, 2] [] rfl rfl (by decide) (by decide) hk1 hFc hP1 hD1
              have hp_184 : (r_184) = p_184 := hp_184
              subst hp_184
              have hP : va_P (dC, dI) classes [(am, .inr (5, [.int zm_thrown, .ref am_there, .ref am_ones, .ref am_others, .ref am_xs, .ref am_ys, .int zm_many, .ref am_a, .ref am_b, .ref am_from, .ref am_to, .ref am_way, .ref am_depth, .ref am_above, .ref am_pile, .ref am_next, .ref am_leader, .ref am_turned, .ref am_piece, .ref am_numbers, .ref am_row])), (am_xs, .inl (km_xs, 10, .inl zm_xs)), (am_ys, .inl (km_ys, 10, .inl zm_ys))] H := hP
              have hD : va_D A [(am, .inr (5, [.int zm_thrown, .ref am_there, .ref am_ones, .ref am_others, .ref am_xs, .ref am_ys, .int zm_many, .ref am_a, .ref am_b, .ref am_from, .ref am_to, .ref am_way, .ref am_depth, .ref am_above, .ref am_pile, .ref am_next, .ref am_leader, .ref am_turned, .ref am_piece, .ref am_numbers, .ref am_row])), (am_xs, .inl (km_xs, 10, .inl zm_xs)), (am_ys, .inl (km_ys, 10, .inl zm_ys))] := hD
              refine lv_if_ne (tgt := 194) hx hb d_Mod_isOn_187 rfl (fun hc_187 => ?_) (fun hc_187 => ?_)
              · skip
                have hI := hI.trans (if_neg hc_187)
                refine lv_iconst (v := 0) hx hb d_Mod_isOn_194 (by decide) ?_
                exact W.zret (v := 0) (ty := .boolean) hx hb hr (nr01 (Or.inl rfl)) (fun t ht hW => ⟨⟨0, (), rfl, ⟨(Option.some.inj hI).symm, (Or.inl rfl)⟩, by rw [ht]; exact hP, va_K.moved hW.alike hK, hD⟩, hS.F ht⟩) hS.2.2 d_Mod_isOn_195
              · skip
                have hI := hI.trans (if_pos hc_187)
                refine lv_iconst (v := 1) hx hb d_Mod_isOn_190 (by decide) ?_
                refine lv_goto (tgt := 195) hx hb d_Mod_isOn_191 rfl ?_
                exact W.zret (v := 1) (ty := .boolean) hx hb hr (nr01 (Or.inr rfl)) (fun t ht hW => ⟨⟨1, (), rfl, ⟨(Option.some.inj hI).symm, (Or.inr rfl)⟩, by rw [ht]; exact hP, va_K.moved hW.alike hK, hD⟩, hS.F ht⟩) hS.2.2 d_Mod_isOn_195
        have hI : some R = (K_j168_121 (if (zm_ys (Int32.toNatClampNeg v3)) < s0_121_103 then ((0 : Int32)) else ((fun (j_160_142 : Int32) => (if j_160_142 < (zm_ys (Int32.toNatClampNeg v3)) then ((0 : Int32)) else ((1 : Int32)))) (if (zm_ys (Int32.toNatClampNeg v2)) ≤ (zm_ys (Int32.toNatClampNeg v1)) then (zm_ys (Int32.toNatClampNeg v1)) else (zm_ys (Int32.toNatClampNeg v2)))))) := by rw [hK_j168_121]; exact hI
        refine lv_icmp_lt (tgt := 167) hx hb d_Mod_isOn_121 rfl (fun hc_121 => ?_) (fun hc_121 => ?_)
        · skip
          have hI := ob_ifC (C := fun y_ => K_j168_121 y_) hc_121 hI
          refine lv_iconst (v := 0) hx hb d_Mod_isOn_167 (by decide) ?_
          have hl := lv_sub hl [0, 1, 2, 3, 4] rfl
          exact J_168_121 _ _ _ _ hI hP hD hS hl
        · skip
          have hI := ob_elC (C := fun y_ => K_j168_121 y_) hc_121 hI
          refine lv_aload_n hx hb d_Mod_isOn_124 rfl (lv_at hl 0 rfl) ?_
          refine va_get (D := (dC, dI)) (ci := 5) (v := .ref am_ys) (C := R_Mod) (T := F_Mod) (N := 21) hx hb hts (fun w h => List.mem_cons_of_mem _ (in_Mod w h)) hown hK hP 0 rfl rfl 5 (by decide) (hts _ (List.mem_cons_of_mem _ mw_3_161)) (fun _ h9 => h9) rfl d_Mod_isOn_125 ?_
          refine lv_iload_n hx hb d_Mod_isOn_128 rfl (lv_at hl 3 rfl) ?_
          refine va_iald (D := (dC, dI)) hx hb hK hP 2 1 rfl rfl hi_5 d_Mod_isOn_129 ?_
          refine lv_aload_n hx hb d_Mod_isOn_130 rfl (lv_at hl 0 rfl) ?_
          refine va_get (D := (dC, dI)) (ci := 5) (v := .ref am_ys) (C := R_Mod) (T := F_Mod) (N := 21) hx hb hts (fun w h => List.mem_cons_of_mem _ (in_Mod w h)) hown hK hP 0 rfl rfl 5 (by decide) (hts _ (List.mem_cons_of_mem _ mw_3_161)) (fun _ h9 => h9) rfl d_Mod_isOn_131 ?_
          refine lv_iload_n hx hb d_Mod_isOn_134 rfl (lv_at hl 1 rfl) ?_
          refine va_iald (D := (dC, dI)) hx hb hK hP 2 1 rfl rfl hi_11 d_Mod_isOn_135 ?_
          refine lv_aload_n hx hb d_Mod_isOn_136 rfl (lv_at hl 0 rfl) ?_
          refine va_get (D := (dC, dI)) (ci := 5) (v := .ref am_ys) (C := R_Mod) (T := F_Mod) (N := 21) hx hb hts (fun w h => List.mem_cons_of_mem _ (in_Mod w h)) hown hK hP 0 rfl rfl 5 (by decide) (hts _ (List.mem_cons_of_mem _ mw_3_161)) (fun _ h9 => h9) rfl d_Mod_isOn_137 ?_
          refine lv_iload_n hx hb d_Mod_isOn_140 rfl (lv_at hl 2 rfl) ?_
          refine va_iald (D := (dC, dI)) hx hb hK hP 2 1 rfl rfl hi_17 d_Mod_isOn_141 ?_
          obtain ⟨K_j160_142, hK_j160_142⟩ : ∃ K : Int32 → Int32, K = (fun (j_160_142 : Int32) => (if j_160_142 < (zm_ys (Int32.toNatClampNeg v3)) then ((0 : Int32)) else ((1 : Int32)))) := ⟨_, rfl⟩
          have J_160_142 : ∀ (s0_160_142 : Int32) (H : Heap) (locs : List Loc) (ls : Array Slot), some R = K_j168_121 (K_j160_142 s0_160_142) → va_P (dC, dI) classes [(am, .inr (5, [.int zm_thrown, .ref am_there, .ref am_ones, .ref am_others, .ref am_xs, .ref am_ys, .int zm_many, .ref am_a, .ref am_b, .ref am_from, .ref am_to, .ref am_way, .ref am_depth, .ref am_above, .ref am_pile, .ref am_next, .ref am_leader, .ref am_turned, .ref am_piece, .ref am_numbers, .ref am_row])), (am_xs, .inl (km_xs, 10, .inl zm_xs)), (am_ys, .inl (km_ys, 10, .inl zm_ys))] H → va_D A [(am, .inr (5, [.int zm_thrown, .ref am_there, .ref am_ones, .ref am_others, .ref am_xs, .ref am_ys, .int zm_many, .ref am_a, .ref am_b, .ref am_from, .ref am_to, .ref am_way, .ref am_depth, .ref am_above, .ref am_pile, .ref am_next, .ref am_leader, .ref am_turned, .ref am_piece, .ref am_numbers, .ref am_row])), (am_xs, .inl (km_xs, 10, .inl zm_xs)), (am_ys, .inl (km_ys, 10, .inl zm_ys))] → va_S A s.heap H locs → lv_has ls 6 [(0, .ref am), (1, .int v1), (2, .int v2), (3, .int v3), (4, .int s0_83_36)] → W p l e (headSpec w_Mod_isOn ({ frames := 1, cells := 0, slots := 0, locals := 24 })).room s m args below meth c H locs 0 0 (MQ below (va_Qi (fun (r : Int32) (u : Unit) => (r = R) ∧ z01 r) (fun u t => End_ dC dI A [(km_xs, .int), (km_ys, .int)] [(am, .inr (5, [.int zm_thrown, .ref am_there, .ref am_ones, .ref am_others, .ref am_xs, .ref am_ys, .int zm_many, .ref am_a, .ref am_b, .ref am_from, .ref am_to, .ref am_way, .ref am_depth, .ref am_above, .ref am_pile, .ref am_next, .ref am_leader, .ref am_turned, .ref am_piece, .ref am_numbers, .ref am_row])), (am_xs, .inl (km_xs, 10, .inl zm_xs)), (am_ys, .inl (km_ys, 10, .inl zm_ys))] t) A) args s 0 0 A) (F0 m 160 ls [.int s0_160_142, .int (zm_ys (Int32.toNatClampNeg v3))]) := by
            intro s0_160_142 H locs ls hI hP hD hS hl
            rw [hK_j160_142] at hI
            refine lv_icmp_gt (tgt := 167) hx hb d_Mod_isOn_160 rfl (fun hc_160 => ?_) (fun hc_160 => ?_)
            · skip
              have hI := ob_ifC (C := fun y_ => K_j168_121 y_) hc_160 hI
              refine lv_iconst (v := 0) hx hb d_Mod_isOn_167 (by decide) ?_
              have hl := lv_sub hl [0, 1, 2, 3, 4] rfl
              exact J_168_121 _ _ _ _ hI hP hD hS hl
            · skip
              have hI := ob_elC (C := fun y_ => K_j168_121 y_) hc_160 hI
              refine lv_iconst (v := 1) hx hb d_Mod_isOn_163 (by decide) ?_
              refine lv_goto (tgt := 168) hx hb d_Mod_isOn_164 rfl ?_
              have hl := lv_sub hl [0, 1, 2, 3, 4] rfl
              exact J_168_121 _ _ _ _ hI hP hD hS hl
          have hI : some R = K_j168_121 (K_j160_142 (if (zm_ys (Int32.toNatClampNeg v2)) ≤ (zm_ys (Int32.toNatClampNeg v1)) then (zm_ys (Int32.toNatClampNeg v1)) else (zm_ys (Int32.toNatClampNeg v2)))) := by rw [hK_j160_142]; exact hI
          refine lv_icmp_ge (tgt := 154) hx hb d_Mod_isOn_142 rfl (fun hc_142 => ?_) (fun hc_142 => ?_)
          · skip
            have hI := ob_ifC (C := fun y_ => K_j168_121 (K_j160_142 y_)) hc_142 hI
            refine lv_aload_n hx hb d_Mod_isOn_154 rfl (lv_at hl 0 rfl) ?_
            refine va_get (D := (dC, dI)) (ci := 5) (v := .ref am_ys) (C := R_Mod) (T := F_Mod) (N := 21) hx hb hts (fun w h => List.mem_cons_of_mem _ (in_Mod w h)) hown hK hP 0 rfl rfl 5 (by decide) (hts _ (List.mem_cons_of_mem _ mw_3_161)) (fun _ h9 => h9) rfl d_Mod_isOn_155 ?_
            refine lv_iload_n hx hb d_Mod_isOn_158 rfl (lv_at hl 1 rfl) ?_
            refine va_iald (D := (dC, dI)) hx hb hK hP 2 1 rfl rfl hi_11 d_Mod_isOn_159 ?_
            have hl := lv_sub hl [0, 1, 2, 3, 4] rfl
            exact J_160_142 _ _ _ _ hI hP hD hS hl
          · skip
            have hI := ob_elC (C := fun y_ => K_j168_121 (K_j160_142 y_)) hc_142 hI
            refine lv_aload_n hx hb d_Mod_isOn_145 rfl (lv_at hl 0 rfl) ?_
            refine va_get (D := (dC, dI)) (ci := 5) (v := .ref am_ys) (C := R_Mod) (T := F_Mod) (N := 21) hx hb hts (fun w h => List.mem_cons_of_mem _ (in_Mod w h)) hown hK hP 0 rfl rfl 5 (by decide) (hts _ (List.mem_cons_of_mem _ mw_3_161)) (fun _ h9 => h9) rfl d_Mod_isOn_146 ?_
            refine lv_iload_n hx hb d_Mod_isOn_149 rfl (lv_at hl 2 rfl) ?_
            refine va_iald (D := (dC, dI)) hx hb hK hP 2 1 rfl rfl hi_17 d_Mod_isOn_150 ?_
            refine lv_goto (tgt := 160) hx hb d_Mod_isOn_151 rfl ?_
            have hl := lv_sub hl [0, 1, 2, 3, 4] rfl
            exact J_160_142 _ _ _ _ hI hP hD hS hl
      have hI : some R = (K_j121_103 (if (zm_ys (Int32.toNatClampNeg v2)) ≤ (zm_ys (Int32.toNatClampNeg v1)) then (zm_ys (Int32.toNatClampNeg v2)) else (zm_ys (Int32.toNatClampNeg v1)))) := by rw [hK_j121_103]; exact hI
      refine lv_icmp_ge (tgt := 115) hx hb d_Mod_isOn_103 rfl (fun hc_103 => ?_) (fun hc_103 => ?_)
      · skip
        have hI := ob_ifC (C := fun y_ => K_j121_103 y_) hc_103 hI
        refine lv_aload_n hx hb d_Mod_isOn_115 rfl (lv_at hl 1 rfl) ?_
        refine va_get (D := (dC, dI)) (ci := 5) (v := .ref am_ys) (C := R_Mod) (T := F_Mod) (N := 21) hx hb hts (fun w h => List.mem_cons_of_mem _ (in_Mod w h)) hown hK hP 0 rfl rfl 5 (by decide) (hts _ (List.mem_cons_of_mem _ mw_3_161)) (fun _ h9 => h9) rfl d_Mod_isOn_116 ?_
        refine lv_iload_n hx hb d_Mod_isOn_119 rfl (lv_at hl 3 rfl) ?_
        refine va_iald (D := (dC, dI)) hx hb hK hP 2 1 rfl rfl hi_17 d_Mod_isOn_120 ?_
        have hl := lv_sub hl [1, 2, 3, 4, 0] rfl
        exact J_121_103 _ _ _ _ hI hP hD hS hl
      · skip
        have hI := ob_elC (C := fun y_ => K_j121_103 y_) hc_103 hI
        refine lv_aload_n hx hb d_Mod_isOn_106 rfl (lv_at hl 1 rfl) ?_
        refine va_get (D := (dC, dI)) (ci := 5) (v := .ref am_ys) (C := R_Mod) (T := F_Mod) (N := 21) hx hb hts (fun w h => List.mem_cons_of_mem _ (in_Mod w h)) hown hK hP 0 rfl rfl 5 (by decide) (hts _ (List.mem_cons_of_mem _ mw_3_161)) (fun _ h9 => h9) rfl d_Mod_isOn_107 ?_
        refine lv_iload_n hx hb d_Mod_isOn_110 rfl (lv_at hl 2 rfl) ?_
        refine va_iald (D := (dC, dI)) hx hb hK hP 2 1 rfl rfl hi_11 d_Mod_isOn_111 ?_
        refine lv_goto (tgt := 121) hx hb d_Mod_isOn_112 rfl ?_
        have hl := lv_sub hl [1, 2, 3, 4, 0] rfl
        exact J_121_103 _ _ _ _ hI hP hD hS hl
    have hI : some R = (K_j83_36 (if (zm_xs (Int32.toNatClampNeg v3)) < s0_36_18 then ((0 : Int32)) else ((fun (j_75_57 : Int32) => (if j_75_57 < (zm_xs (Int32.toNatClampNeg v3)) then ((0 : Int32)) else ((1 : Int32)))) (if (zm_xs (Int32.toNatClampNeg v2)) ≤ (zm_xs (Int32.toNatClampNeg v1)) then (zm_xs (Int32.toNatClampNeg v1)) else (zm_xs (Int32.toNatClampNeg v2)))))) := by rw [hK_j83_36]; exact hI
    refine lv_icmp_lt (tgt := 82) hx hb d_Mod_isOn_36 rfl (fun hc_36 => ?_) (fun hc_36 => ?_)
    · skip
      have hI := ob_ifC (C := fun y_ => K_j83_36 y_) hc_36 hI
      refine lv_iconst (v := 0) hx hb d_Mod_isOn_82 (by decide) ?_
      have hl := lv_sub hl [0, 1, 2, 3] rfl
      exact J_83_36 _ _ _ _ hI hP hD hS hl
    · skip
      have hI := ob_elC (C := fun y_ => K_j83_36 y_) hc_36 hI
      refine lv_aload_n hx hb d_Mod_isOn_39 rfl (lv_at hl 0 rfl) ?_
      refine va_get (D := (dC, dI)) (ci := 5) (v := .ref am_xs) (C := R_Mod) (T := F_Mod) (N := 21) hx hb hts (fun w h => List.mem_cons_of_mem _ (in_Mod w h)) hown hK hP 0 rfl rfl 4 (by decide) (hts _ (List.mem_cons_of_mem _ mw_3_160)) (fun _ h9 => h9) rfl d_Mod_isOn_40 ?_
      refine lv_iload_n hx hb d_Mod_isOn_43 rfl (lv_at hl 3 rfl) ?_
      refine va_iald (D := (dC, dI)) hx hb hK hP 1 0 rfl rfl hi_5 d_Mod_isOn_44 ?_
      refine lv_aload_n hx hb d_Mod_isOn_45 rfl (lv_at hl 0 rfl) ?_
      refine va_get (D := (dC, dI)) (ci := 5) (v := .ref am_xs) (C := R_Mod) (T := F_Mod) (N := 21) hx hb hts (fun w h => List.mem_cons_of_mem _ (in_Mod w h)) hown hK hP 0 rfl rfl 4 (by decide) (hts _ (List.mem_cons_of_mem _ mw_3_160)) (fun _ h9 => h9) rfl d_Mod_isOn_46 ?_
      refine lv_iload_n hx hb d_Mod_isOn_49 rfl (lv_at hl 1 rfl) ?_
      refine va_iald (D := (dC, dI)) hx hb hK hP 1 0 rfl rfl hi_11 d_Mod_isOn_50 ?_
      refine lv_aload_n hx hb d_Mod_isOn_51 rfl (lv_at hl 0 rfl) ?_
      refine va_get (D := (dC, dI)) (ci := 5) (v := .ref am_xs) (C := R_Mod) (T := F_Mod) (N := 21) hx hb hts (fun w h => List.mem_cons_of_mem _ (in_Mod w h)) hown hK hP 0 rfl rfl 4 (by decide) (hts _ (List.mem_cons_of_mem _ mw_3_160)) (fun _ h9 => h9) rfl d_Mod_isOn_52 ?_
      refine lv_iload_n hx hb d_Mod_isOn_55 rfl (lv_at hl 2 rfl) ?_
      refine va_iald (D := (dC, dI)) hx hb hK hP 1 0 rfl rfl hi_17 d_Mod_isOn_56 ?_
      obtain ⟨K_j75_57, hK_j75_57⟩ : ∃ K : Int32 → Int32, K = (fun (j_75_57 : Int32) => (if j_75_57 < (zm_xs (Int32.toNatClampNeg v3)) then ((0 : Int32)) else ((1 : Int32)))) := ⟨_, rfl⟩
      have J_75_57 : ∀ (s0_75_57 : Int32) (H : Heap) (locs : List Loc) (ls : Array Slot), some R = K_j83_36 (K_j75_57 s0_75_57) → va_P (dC, dI) classes [(am, .inr (5, [.int zm_thrown, .ref am_there, .ref am_ones, .ref am_others, .ref am_xs, .ref am_ys, .int zm_many, .ref am_a, .ref am_b, .ref am_from, .ref am_to, .ref am_way, .ref am_depth, .ref am_above, .ref am_pile, .ref am_next, .ref am_leader, .ref am_turned, .ref am_piece, .ref am_numbers, .ref am_row])), (am_xs, .inl (km_xs, 10, .inl zm_xs)), (am_ys, .inl (km_ys, 10, .inl zm_ys))] H → va_D A [(am, .inr (5, [.int zm_thrown, .ref am_there, .ref am_ones, .ref am_others, .ref am_xs, .ref am_ys, .int zm_many, .ref am_a, .ref am_b, .ref am_from, .ref am_to, .ref am_way, .ref am_depth, .ref am_above, .ref am_pile, .ref am_next, .ref am_leader, .ref am_turned, .ref am_piece, .ref am_numbers, .ref am_row])), (am_xs, .inl (km_xs, 10, .inl zm_xs)), (am_ys, .inl (km_ys, 10, .inl zm_ys))] → va_S A s.heap H locs → lv_has ls 6 [(0, .ref am), (1, .int v1), (2, .int v2), (3, .int v3)] → W p l e (headSpec w_Mod_isOn ({ frames := 1, cells := 0, slots := 0, locals := 24 })).room s m args below meth c H locs 0 0 (MQ below (va_Qi (fun (r : Int32) (u : Unit) => (r = R) ∧ z01 r) (fun u t => End_ dC dI A [(km_xs, .int), (km_ys, .int)] [(am, .inr (5, [.int zm_thrown, .ref am_there, .ref am_ones, .ref am_others, .ref am_xs, .ref am_ys, .int zm_many, .ref am_a, .ref am_b, .ref am_from, .ref am_to, .ref am_way, .ref am_depth, .ref am_above, .ref am_pile, .ref am_next, .ref am_leader, .ref am_turned, .ref am_piece, .ref am_numbers, .ref am_row])), (am_xs, .inl (km_xs, 10, .inl zm_xs)), (am_ys, .inl (km_ys, 10, .inl zm_ys))] t) A) args s 0 0 A) (F0 m 75 ls [.int s0_75_57, .int (zm_xs (Int32.toNatClampNeg v3))]) := by
        intro s0_75_57 H locs ls hI hP hD hS hl
        rw [hK_j75_57] at hI
        refine lv_icmp_gt (tgt := 82) hx hb d_Mod_isOn_75 rfl (fun hc_75 => ?_) (fun hc_75 => ?_)
        · skip
          have hI := ob_ifC (C := fun y_ => K_j83_36 y_) hc_75 hI
          refine lv_iconst (v := 0) hx hb d_Mod_isOn_82 (by decide) ?_
          have hl := lv_sub hl [0, 1, 2, 3] rfl
          exact J_83_36 _ _ _ _ hI hP hD hS hl
        · skip
          have hI := ob_elC (C := fun y_ => K_j83_36 y_) hc_75 hI
          refine lv_iconst (v := 1) hx hb d_Mod_isOn_78 (by decide) ?_
          refine lv_goto (tgt := 83) hx hb d_Mod_isOn_79 rfl ?_
          have hl := lv_sub hl [0, 1, 2, 3] rfl
          exact J_83_36 _ _ _ _ hI hP hD hS hl
      have hI : some R = K_j83_36 (K_j75_57 (if (zm_xs (Int32.toNatClampNeg v2)) ≤ (zm_xs (Int32.toNatClampNeg v1)) then (zm_xs (Int32.toNatClampNeg v1)) else (zm_xs (Int32.toNatClampNeg v2)))) := by rw [hK_j75_57]; exact hI
      refine lv_icmp_ge (tgt := 69) hx hb d_Mod_isOn_57 rfl (fun hc_57 => ?_) (fun hc_57 => ?_)
      · skip
        have hI := ob_ifC (C := fun y_ => K_j83_36 (K_j75_57 y_)) hc_57 hI
        refine lv_aload_n hx hb d_Mod_isOn_69 rfl (lv_at hl 0 rfl) ?_
        refine va_get (D := (dC, dI)) (ci := 5) (v := .ref am_xs) (C := R_Mod) (T := F_Mod) (N := 21) hx hb hts (fun w h => List.mem_cons_of_mem _ (in_Mod w h)) hown hK hP 0 rfl rfl 4 (by decide) (hts _ (List.mem_cons_of_mem _ mw_3_160)) (fun _ h9 => h9) rfl d_Mod_isOn_70 ?_
        refine lv_iload_n hx hb d_Mod_isOn_73 rfl (lv_at hl 1 rfl) ?_
        refine va_iald (D := (dC, dI)) hx hb hK hP 1 0 rfl rfl hi_11 d_Mod_isOn_74 ?_
        have hl := lv_sub hl [0, 1, 2, 3] rfl
        exact J_75_57 _ _ _ _ hI hP hD hS hl
      · skip
        have hI := ob_elC (C := fun y_ => K_j83_36 (K_j75_57 y_)) hc_57 hI
        refine lv_aload_n hx hb d_Mod_isOn_60 rfl (lv_at hl 0 rfl) ?_
        refine va_get (D := (dC, dI)) (ci := 5) (v := .ref am_xs) (C := R_Mod) (T := F_Mod) (N := 21) hx hb hts (fun w h => List.mem_cons_of_mem _ (in_Mod w h)) hown hK hP 0 rfl rfl 4 (by decide) (hts _ (List.mem_cons_of_mem _ mw_3_160)) (fun _ h9 => h9) rfl d_Mod_isOn_61 ?_
        refine lv_iload_n hx hb d_Mod_isOn_64 rfl (lv_at hl 2 rfl) ?_
        refine va_iald (D := (dC, dI)) hx hb hK hP 1 0 rfl rfl hi_17 d_Mod_isOn_65 ?_
        refine lv_goto (tgt := 75) hx hb d_Mod_isOn_66 rfl ?_
        have hl := lv_sub hl [0, 1, 2, 3] rfl
        exact J_75_57 _ _ _ _ hI hP hD hS hl
  have hI : some R = (K_j36_18 (if (zm_xs (Int32.toNatClampNeg v2)) ≤ (zm_xs (Int32.toNatClampNeg v1)) then (zm_xs (Int32.toNatClampNeg v2)) else (zm_xs (Int32.toNatClampNeg v1)))) := by rw [hK_j36_18]; exact hI
  refine lv_icmp_ge (tgt := 30) hx hb d_Mod_isOn_18 rfl (fun hc_18 => ?_) (fun hc_18 => ?_)
  · skip
    have hI := ob_ifC (C := fun y_ => K_j36_18 y_) hc_18 hI
    refine lv_aload_n hx hb d_Mod_isOn_30 rfl (lv_at hl 0 rfl) ?_
    refine va_get (D := (dC, dI)) (ci := 5) (v := .ref am_xs) (C := R_Mod) (T := F_Mod) (N := 21) hx hb hts (fun w h => List.mem_cons_of_mem _ (in_Mod w h)) hown hK hP 0 rfl rfl 4 (by decide) (hts _ (List.mem_cons_of_mem _ mw_3_160)) (fun _ h9 => h9) rfl d_Mod_isOn_31 ?_
    refine lv_iload_n hx hb d_Mod_isOn_34 rfl (lv_at hl 2 rfl) ?_
    refine va_iald (D := (dC, dI)) hx hb hK hP 1 0 rfl rfl hi_17 d_Mod_isOn_35 ?_
    have hl := lv_sub hl [0, 1, 2, 3] rfl
    exact J_36_18 _ _ _ _ hI hP hD hS hl
  · skip
    have hI := ob_elC (C := fun y_ => K_j36_18 y_) hc_18 hI
    refine lv_aload_n hx hb d_Mod_isOn_21 rfl (lv_at hl 0 rfl) ?_
    refine va_get (D := (dC, dI)) (ci := 5) (v := .ref am_xs) (C := R_Mod) (T := F_Mod) (N := 21) hx hb hts (fun w h => List.mem_cons_of_mem _ (in_Mod w h)) hown hK hP 0 rfl rfl 4 (by decide) (hts _ (List.mem_cons_of_mem _ mw_3_160)) (fun _ h9 => h9) rfl d_Mod_isOn_22 ?_
    refine lv_iload_n hx hb d_Mod_isOn_25 rfl (lv_at hl 1 rfl) ?_
    refine va_iald (D := (dC, dI)) hx hb hK hP 1 0 rfl rfl hi_11 d_Mod_isOn_26 ?_
    refine lv_goto (tgt := 36) hx hb d_Mod_isOn_27 rfl ?_
    have hl := lv_sub hl [0, 1, 2, 3] rfl
    exact J_36_18 _ _ _ _ hI hP hD hS hl
set_option maxHeartbeats 4000000 in
set_option maxRecDepth 100000 in
theorem c_meetBehindM (l : Launch) (dC : Nat → ClassId) (dI : Nat → Nat → Nat) (sz : Nat) (am am_there am_ones am_others am_xs am_ys am_a am_b am_from am_to am_way am_depth am_above am_pile am_next am_leader am_turned am_piece am_numbers am_row : Nat) (km_xs km_ys : ClassId) (zm_thrown : Int32) (zm_many : Int32) (zm_xs : Nat → Int32) (zm_ys : Nat → Int32) (v1 v2 v3 : Int32) (R : Int32) (hR : F_meetBehindM zm_xs zm_ys v1 v2 v3 = some R) : Met l y_Mod_meetBehind w_Mod_meetBehind ({ frames := 1, cells := 0, slots := 0, locals := 24 }) (Pre_ dC dI sz [.ref am, .int v1, .int v2, .int v3] [(am, .inr (5, [.int zm_thrown, .ref am_there, .ref am_ones, .ref am_others, .ref am_xs, .ref am_ys, .int zm_many, .ref am_a, .ref am_b, .ref am_from, .ref am_to, .ref am_way, .ref am_depth, .ref am_above, .ref am_pile, .ref am_next, .ref am_leader, .ref am_turned, .ref am_piece, .ref am_numbers, .ref am_row])), (am_xs, .inl (km_xs, 10, .inl zm_xs)), (am_ys, .inl (km_ys, 10, .inl zm_ys))] [(km_xs, .int), (km_ys, .int)]) (va_Qi (fun (r : Int32) (u : Unit) => (r = R) ∧ z01 r) (fun u t => End_ dC dI (va_A [(am, .inr (5, [.int zm_thrown, .ref am_there, .ref am_ones, .ref am_others, .ref am_xs, .ref am_ys, .int zm_many, .ref am_a, .ref am_b, .ref am_from, .ref am_to, .ref am_way, .ref am_depth, .ref am_above, .ref am_pile, .ref am_next, .ref am_leader, .ref am_turned, .ref am_piece, .ref am_numbers, .ref am_row])), (am_xs, .inl (km_xs, 10, .inl zm_xs)), (am_ys, .inl (km_ys, 10, .inl zm_ys))] sz) [(km_xs, .int), (km_ys, .int)] [(am, .inr (5, [.int zm_thrown, .ref am_there, .ref am_ones, .ref am_others, .ref am_xs, .ref am_ys, .int zm_many, .ref am_a, .ref am_b, .ref am_from, .ref am_to, .ref am_way, .ref am_depth, .ref am_above, .ref am_pile, .ref am_next, .ref am_leader, .ref am_turned, .ref am_piece, .ref am_numbers, .ref am_row])), (am_xs, .inl (km_xs, 10, .inl zm_xs)), (am_ys, .inl (km_ys, 10, .inl zm_ys))] t) (va_A [(am, .inr (5, [.int zm_thrown, .ref am_there, .ref am_ones, .ref am_others, .ref am_xs, .ref am_ys, .int zm_many, .ref am_a, .ref am_b, .ref am_from, .ref am_to, .ref am_way, .ref am_depth, .ref am_above, .ref am_pile, .ref am_next, .ref am_leader, .ref am_turned, .ref am_piece, .ref am_numbers, .ref am_row])), (am_xs, .inl (km_xs, 10, .inl zm_xs)), (am_ys, .inl (km_ys, 10, .inl zm_ys))] sz)) 0 0 (va_A [(am, .inr (5, [.int zm_thrown, .ref am_there, .ref am_ones, .ref am_others, .ref am_xs, .ref am_ys, .int zm_many, .ref am_a, .ref am_b, .ref am_from, .ref am_to, .ref am_way, .ref am_depth, .ref am_above, .ref am_pile, .ref am_next, .ref am_leader, .ref am_turned, .ref am_piece, .ref am_numbers, .ref am_row])), (am_xs, .inl (km_xs, 10, .inl zm_xs)), (am_ys, .inl (km_ys, 10, .inl zm_ys))] sz) := by
  refine Met.ofW (cc := b_Mod_meetBehind) (maxL := 6) (ret := (some .boolean)) (by decide) rfl ?_
  intro p e s m args below meth c s₁ B hml hv
  obtain ⟨hargs, hsz, hP, hK, hD0, hN⟩ := hv
  have hx := B.exec
  have hb := B.bytes
  have hr := B.returns
  have hts := atoms_spec (ws := w_Mod_meetBehind) B.pre
  have hown : s.vm.findClass R_Mod = some m.cls := findClass_of_methodNamed B.named
  have hlocks := B.notSynchronized
  subst hsz
  have hD := hD0.self (sz := s.heap.size)
  generalize hAe : va_A [(am, .inr (5, [.int zm_thrown, .ref am_there, .ref am_ones, .ref am_others, .ref am_xs, .ref am_ys, .int zm_many, .ref am_a, .ref am_b, .ref am_from, .ref am_to, .ref am_way, .ref am_depth, .ref am_above, .ref am_pile, .ref am_next, .ref am_leader, .ref am_turned, .ref am_piece, .ref am_numbers, .ref am_row])), (am_xs, .inl (km_xs, 10, .inl zm_xs)), (am_ys, .inl (km_ys, 10, .inl zm_ys))] s.heap.size = A at hD ⊢
  have hA : ∀ q : Nat, s.heap.size ≤ q → A q := fun q h => by rw [← hAe]; exact Or.inr h
  have hS : va_S A s.heap s.heap [] := va_S.rf
  have hl := lv_entry ([.ref am, .int v1, .int v2, .int v3]) (n := 6) (Nat.le_of_ble_eq_true rfl)
  refine W.eq (congrArg (fun a => entryFrame m a 6) hargs) ?_
  rw [lg_entry_eq]
  generalize (lg_sl ([.ref am, .int v1, .int v2, .int v3]) ++ List.replicate (6 - (lg_sl ([.ref am, .int v1, .int v2, .int v3])).length) Slot.unset).toArray = ls at hl ⊢
  have hl : lv_has ls 6 [(0, .ref am), (1, .int v1), (2, .int v2), (3, .int v3)] := hl
  generalize hH0 : ([] : List Loc) = locs at hS ⊢
  have hI := hR.symm
  rw [F_meetBehindM] at hI
  refine lv_aload_n hx hb d_Mod_meetBehind_0 rfl (lv_at hl 0 rfl) ?_
  refine va_get (D := (dC, dI)) (ci := 5) (v := .ref am_xs) (C := R_Mod) (T := F_Mod) (N := 21) hx hb hts (fun w h => List.mem_cons_of_mem _ (in_Mod w h)) hown hK hP 0 rfl rfl 4 (by decide) (hts _ (List.mem_cons_of_mem _ mw_3_160)) (fun _ h9 => h9) rfl d_Mod_meetBehind_1 ?_
  refine lv_iload_n hx hb d_Mod_meetBehind_4 rfl (lv_at hl 2 rfl) ?_
  have hi_5 := ob_in hI
  have hI := ob_th hI
  refine va_iald (D := (dC, dI)) hx hb hK hP 1 0 rfl rfl hi_5 d_Mod_meetBehind_5 ?_
  refine lv_aload_n hx hb d_Mod_meetBehind_6 rfl (lv_at hl 0 rfl) ?_
  refine va_get (D := (dC, dI)) (ci := 5) (v := .ref am_xs) (C := R_Mod) (T := F_Mod) (N := 21) hx hb hts (fun w h => List.mem_cons_of_mem _ (in_Mod w h)) hown hK hP 0 rfl rfl 4 (by decide) (hts _ (List.mem_cons_of_mem _ mw_3_160)) (fun _ h9 => h9) rfl d_Mod_meetBehind_7 ?_
  refine lv_iload_n hx hb d_Mod_meetBehind_10 rfl (lv_at hl 1 rfl) ?_
  have hi_11 := ob_in hI
  have hI := ob_th hI
  refine va_iald (D := (dC, dI)) hx hb hK hP 1 0 rfl rfl hi_11 d_Mod_meetBehind_11 ?_
  refine lv_isub hx hb d_Mod_meetBehind_12 ?_
  refine lv_aload_n hx hb d_Mod_meetBehind_13 rfl (lv_at hl 0 rfl) ?_
  refine va_get (D := (dC, dI)) (ci := 5) (v := .ref am_xs) (C := R_Mod) (T := F_Mod) (N := 21) hx hb hts (fun w h => List.mem_cons_of_mem _ (in_Mod w h)) hown hK hP 0 rfl rfl 4 (by decide) (hts _ (List.mem_cons_of_mem _ mw_3_160)) (fun _ h9 => h9) rfl d_Mod_meetBehind_14 ?_
  refine lv_iload_n hx hb d_Mod_meetBehind_17 rfl (lv_at hl 3 rfl) ?_
  have hi_18 := ob_in hI
  have hI := ob_th hI
  refine va_iald (D := (dC, dI)) hx hb hK hP 1 0 rfl rfl hi_18 d_Mod_meetBehind_18 ?_
  refine lv_aload_n hx hb d_Mod_meetBehind_19 rfl (lv_at hl 0 rfl) ?_
  refine va_get (D := (dC, dI)) (ci := 5) (v := .ref am_xs) (C := R_Mod) (T := F_Mod) (N := 21) hx hb hts (fun w h => List.mem_cons_of_mem _ (in_Mod w h)) hown hK hP 0 rfl rfl 4 (by decide) (hts _ (List.mem_cons_of_mem _ mw_3_160)) (fun _ h9 => h9) rfl d_Mod_meetBehind_20 ?_
  refine lv_iload_n hx hb d_Mod_meetBehind_23 rfl (lv_at hl 1 rfl) ?_
  refine va_iald (D := (dC, dI)) hx hb hK hP 1 0 rfl rfl hi_11 d_Mod_meetBehind_24 ?_
  refine lv_isub hx hb d_Mod_meetBehind_25 ?_
  refine lv_imul hx hb d_Mod_meetBehind_26 ?_
  refine lv_istore (lv' := [(4, .int (((zm_xs (Int32.toNatClampNeg v2)) - (zm_xs (Int32.toNatClampNeg v1))) * ((zm_xs (Int32.toNatClampNeg v3)) - (zm_xs (Int32.toNatClampNeg v1))))), (0, .ref am), (1, .int v1), (2, .int v2), (3, .int v3)]) hx hb d_Mod_meetBehind_27 hl (by decide) rfl (fun ls hl => ?_)
  refine lv_aload_n hx hb d_Mod_meetBehind_29 rfl (lv_at hl 1 rfl) ?_
  refine va_get (D := (dC, dI)) (ci := 5) (v := .ref am_ys) (C := R_Mod) (T := F_Mod) (N := 21) hx hb hts (fun w h => List.mem_cons_of_mem _ (in_Mod w h)) hown hK hP 0 rfl rfl 5 (by decide) (hts _ (List.mem_cons_of_mem _ mw_3_161)) (fun _ h9 => h9) rfl d_Mod_meetBehind_30 ?_
  refine lv_iload_n hx hb d_Mod_meetBehind_33 rfl (lv_at hl 3 rfl) ?_
  refine va_iald (D := (dC, dI)) hx hb hK hP 2 1 rfl rfl hi_5 d_Mod_meetBehind_34 ?_
  refine lv_aload_n hx hb d_Mod_meetBehind_35 rfl (lv_at hl 1 rfl) ?_
  refine va_get (D := (dC, dI)) (ci := 5) (v := .ref am_ys) (C := R_Mod) (T := F_Mod) (N := 21) hx hb hts (fun w h => List.mem_cons_of_mem _ (in_Mod w h)) hown hK hP 0 rfl rfl 5 (by decide) (hts _ (List.mem_cons_of_mem _ mw_3_161)) (fun _ h9 => h9) rfl d_Mod_meetBehind_36 ?_
  refine lv_iload_n hx hb d_Mod_meetBehind_39 rfl (lv_at hl 2 rfl) ?_
  refine va_iald (D := (dC, dI)) hx hb hK hP 2 1 rfl rfl hi_11 d_Mod_meetBehind_40 ?_
  refine lv_isub hx hb d_Mod_meetBehind_41 ?_
  refine lv_aload_n hx hb d_Mod_meetBehind_42 rfl (lv_at hl 1 rfl) ?_
  refine va_get (D := (dC, dI)) (ci := 5) (v := .ref am_ys) (C := R_Mod) (T := F_Mod) (N := 21) hx hb hts (fun w h => List.mem_cons_of_mem _ (in_Mod w h)) hown hK hP 0 rfl rfl 5 (by decide) (hts _ (List.mem_cons_of_mem _ mw_3_161)) (fun _ h9 => h9) rfl d_Mod_meetBehind_43 ?_
  refine lv_iload_n hx hb d_Mod_meetBehind_46 rfl (lv_at hl 4 rfl) ?_
  refine va_iald (D := (dC, dI)) hx hb hK hP 2 1 rfl rfl hi_18 d_Mod_meetBehind_47 ?_
  refine lv_aload_n hx hb d_Mod_meetBehind_48 rfl (lv_at hl 1 rfl) ?_
  refine va_get (D := (dC, dI)) (ci := 5) (v := .ref am_ys) (C := R_Mod) (T := F_Mod) (N := 21) hx hb hts (fun w h => List.mem_cons_of_mem _ (in_Mod w h)) hown hK hP 0 rfl rfl 5 (by decide) (hts _ (List.mem_cons_of_mem _ mw_3_161)) (fun _ h9 => h9) rfl d_Mod_meetBehind_49 ?_
  refine lv_iload_n hx hb d_Mod_meetBehind_52 rfl (lv_at hl 2 rfl) ?_
  refine va_iald (D := (dC, dI)) hx hb hK hP 2 1 rfl rfl hi_11 d_Mod_meetBehind_53 ?_
  refine lv_isub hx hb d_Mod_meetBehind_54 ?_
  refine lv_imul hx hb d_Mod_meetBehind_55 ?_
  refine lv_istore (lv' := [(5, .int (((zm_ys (Int32.toNatClampNeg v2)) - (zm_ys (Int32.toNatClampNeg v1))) * ((zm_ys (Int32.toNatClampNeg v3)) - (zm_ys (Int32.toNatClampNeg v1))))), (4, .int (((zm_xs (Int32.toNatClampNeg v2)) - (zm_xs (Int32.toNatClampNeg v1))) * ((zm_xs (Int32.toNatClampNeg v3)) - (zm_xs (Int32.toNatClampNeg v1))))), (0, .ref am), (1, .int v1), (2, .int v2), (3, .int v3)]) hx hb d_Mod_meetBehind_56 hl (by decide) rfl (fun ls hl => ?_)
  refine lv_aload_n hx hb d_Mod_meetBehind_58 rfl (lv_at hl 2 rfl) ?_
  refine lv_iload_n hx hb d_Mod_meetBehind_59 rfl (lv_at hl 3 rfl) ?_
  refine lv_iload_n hx hb d_Mod_meetBehind_60 rfl (lv_at hl 4 rfl) ?_
  refine lv_iload_n hx hb d_Mod_meetBehind_61 rfl (lv_at hl 5 rfl) ?_
  obtain ⟨p_62, hg_62, hI⟩ := ob_bd hI
  have hPc := hP.sub (ws' := [(am, .inr (5, [.int zm_thrown, .ref am_there, .ref am_ones, .ref am_others, .ref am_xs, .ref am_ys, .int zm_many, .ref am_a, .ref am_b, .ref am_from, .ref am_to, .ref am_way, .ref am_depth, .ref am_above, .ref am_pile, .ref am_next, .ref am_leader, .ref am_turned, .ref am_piece, .ref am_numbers, .ref am_row])), (am_xs, .inl (km_xs, 10, .inl zm_xs)), (am_ys, .inl (km_ys, 10, .inl zm_ys))]) [0, 1, 2] rfl
  have hDc := hD.sub (ws' := [(am, .inr (5, [.int zm_thrown, .ref am_there, .ref am_ones, .ref am_others, .ref am_xs, .ref am_ys, .int zm_many, .ref am_a, .ref am_b, .ref am_from, .ref am_to, .ref am_way, .ref am_depth, .ref am_above, .ref am_pile, .ref am_next, .ref am_leader, .ref am_turned, .ref am_piece, .ref am_numbers, .ref am_row])), (am_xs, .inl (km_xs, 10, .inl zm_xs)), (am_ys, .inl (km_ys, 10, .inl zm_ys))]) [0, 1, 2] (by decide) rfl
  have hKc := hK.sub (tys' := [(km_xs, .int), (km_ys, .int)]) [0, 1] rfl
  have hFc := va_free (wc := [(am, .inr (5, [.int zm_thrown, .ref am_there, .ref am_ones, .ref am_others, .ref am_xs, .ref am_ys, .int zm_many, .ref am_a, .ref am_b, .ref am_from, .ref am_to, .ref am_way, .ref am_depth, .ref am_above, .ref am_pile, .ref am_next, .ref am_leader, .ref am_turned, .ref am_piece, .ref am_numbers, .ref am_row])), (am_xs, .inl (km_xs, 10, .inl zm_xs)), (am_ys, .inl (km_ys, 10, .inl zm_ys))]) hD hS hA [0, 1, 2] rfl
  refine va_calli (va_runV (As := [.int v1, .int v2, .int v3]) (rest := []) ⟨hx, hb, hml, hown, hts⟩ (c_turnM l dC dI s.heap.size am am_there am_ones am_others am_xs am_ys am_a am_b am_from am_to am_way am_depth am_above am_pile am_next am_leader am_turned am_piece am_numbers am_row km_xs km_ys zm_thrown zm_many zm_xs zm_ys v1 v2 v3 p_62 hg_62) (cwV 3 hts (gi4 mw_4_216 mw_4_218 mw_p_65 mw_1_6 mw_4_219) rfl rfl rfl (by decide +kernel) ⟨Nat.le_of_ble_eq_true rfl, Nat.le_of_ble_eq_true rfl⟩) ⟨fb_, va_recv (q0 := 0) (ci := 5) hK hP rfl rfl, pre_ hPc hKc hDc hN⟩ rfl rfl hl.1 rfl (lv_room (Nat.le_of_ble_eq_true rfl)) d_Mod_meetBehind_62 ⟨Nat.le_of_ble_eq_true rfl, Nat.le_of_ble_eq_true rfl⟩) hS (fun q _ h => hFc q h) hFc (fun r_62 u t H locs ht hvm hp_62 hB hz1 hk1 hS => ?_)
  obtain ⟨hP1, -, hD1⟩ := hB
  rw [ht] at hP1
  obtain ⟨hP, hD⟩ := va_join (wr := []) (w1 := [(am, .inr (5, [.int zm_thrown, .ref am_there, .ref am_ones, .ref am_others, .ref am_xs, .ref am_ys, .int zm_many, .ref am_a, .ref am_b, .ref am_from, .ref am_to, .ref am_way, .ref am_depth, .ref am_above, .ref am_pile, .ref am_next, .ref am_leader, .ref am_turned, .ref am_piece, .ref am_numbers, .ref am_row])), (am_xs, .inl (km_xs, 10, .inl zm_xs)), (am_ys, .inl (km_ys, 10, .inl zm_ys))]) hP hD [0, 1, 2] [] rfl rfl (by decide) (by decide) hk1 hFc hP1 hD1
  have hp_62 : (r_62) = p_62 := hp_62
  subst hp_62
  have hP : va_P (dC, dI) classes [(am, .inr (5, [.int zm_thrown, .ref am_there, .ref am_ones, .ref am_others, .ref am_xs, .ref am_ys, .int zm_many, .ref am_a, .ref am_b, .ref am_from, .ref am_to, .ref am_way, .ref am_depth, .ref am_above, .ref am_pile, .ref am_next, .ref am_leader, .ref am_turned, .ref am_piece, .ref am_numbers, .ref am_row])), (am_xs, .inl (km_xs, 10, .inl zm_xs)), (am_ys, .inl (km_ys, 10, .inl zm_ys))] H := hP
  have hD : va_D A [(am, .inr (5, [.int zm_thrown, .ref am_there, .ref am_ones, .ref am_others, .ref am_xs, .ref am_ys, .int zm_many, .ref am_a, .ref am_b, .ref am_from, .ref am_to, .ref am_way, .ref am_depth, .ref am_above, .ref am_pile, .ref am_next, .ref am_leader, .ref am_turned, .ref am_piece, .ref am_numbers, .ref am_row])), (am_xs, .inl (km_xs, 10, .inl zm_xs)), (am_ys, .inl (km_ys, 10, .inl zm_ys))] := hD
  refine lv_if_ne (tgt := 80) hx hb d_Mod_meetBehind_65 rfl (fun hc_65 => ?_) (fun hc_65 => ?_)
  · skip
    have hI := hI.trans (if_neg hc_65)
    refine lv_iconst (v := 0) hx hb d_Mod_meetBehind_80 (by decide) ?_
    exact W.zret (v := 0) (ty := .boolean) hx hb hr (nr01 (Or.inl rfl)) (fun t ht hW => ⟨⟨0, (), rfl, ⟨(Option.some.inj hI).symm, (Or.inl rfl)⟩, by rw [ht]; exact hP, va_K.moved hW.alike hK, hD⟩, hS.F ht⟩) hS.2.2 d_Mod_meetBehind_81
  · skip
    have hI := hI.trans (if_pos hc_65)
    refine lv_iload hx hb d_Mod_meetBehind_68 (lv_at hl 1 rfl) ?_
    refine lv_iload hx hb d_Mod_meetBehind_70 (lv_at hl 0 rfl) ?_
    refine lv_iadd hx hb d_Mod_meetBehind_72 ?_
    refine lv_if_le (tgt := 80) hx hb d_Mod_meetBehind_73 rfl (fun hc_73 => ?_) (fun hc_73 => ?_)
    · skip
      have hI := hI.trans (if_pos hc_73)
      refine lv_iconst (v := 0) hx hb d_Mod_meetBehind_80 (by decide) ?_
      exact W.zret (v := 0) (ty := .boolean) hx hb hr (nr01 (Or.inl rfl)) (fun t ht hW => ⟨⟨0, (), rfl, ⟨(Option.some.inj hI).symm, (Or.inl rfl)⟩, by rw [ht]; exact hP, va_K.moved hW.alike hK, hD⟩, hS.F ht⟩) hS.2.2 d_Mod_meetBehind_81
    · skip
      have hI := hI.trans (if_neg hc_73)
      refine lv_iconst (v := 1) hx hb d_Mod_meetBehind_76 (by decide) ?_
      refine lv_goto (tgt := 81) hx hb d_Mod_meetBehind_77 rfl ?_
      exact W.zret (v := 1) (ty := .boolean) hx hb hr (nr01 (Or.inr rfl)) (fun t ht hW => ⟨⟨1, (), rfl, ⟨(Option.some.inj hI).symm, (Or.inr rfl)⟩, by rw [ht]; exact hP, va_K.moved hW.alike hK, hD⟩, hS.F ht⟩) hS.2.2 d_Mod_meetBehind_81
set_option maxHeartbeats 4000000 in
set_option maxRecDepth 100000 in
theorem c_meetNowM (l : Launch) (dC : Nat → ClassId) (dI : Nat → Nat → Nat) (sz : Nat) (am am_there am_ones am_others am_xs am_ys am_a am_b am_from am_to am_way am_depth am_above am_pile am_next am_leader am_turned am_piece am_numbers am_row : Nat) (km_ones km_others km_xs km_ys : ClassId) (zm_thrown : Int32) (zm_many : Int32) (zm_ones : Nat → Int32) (zm_others : Nat → Int32) (zm_xs : Nat → Int32) (zm_ys : Nat → Int32) (v1 v2 : Int32) (R : Int32) (hR : F_meetNowM zm_ones zm_others zm_xs zm_ys v1 v2 = some R) : Met l y_Mod_meetNow w_Mod_meetNow ({ frames := 2, cells := 0, slots := 0, locals := 49 }) (Pre_ dC dI sz [.ref am, .int v1, .int v2] [(am, .inr (5, [.int zm_thrown, .ref am_there, .ref am_ones, .ref am_others, .ref am_xs, .ref am_ys, .int zm_many, .ref am_a, .ref am_b, .ref am_from, .ref am_to, .ref am_way, .ref am_depth, .ref am_above, .ref am_pile, .ref am_next, .ref am_leader, .ref am_turned, .ref am_piece, .ref am_numbers, .ref am_row])), (am_ones, .inl (km_ones, 24, .inl zm_ones)), (am_others, .inl (km_others, 24, .inl zm_others)), (am_xs, .inl (km_xs, 10, .inl zm_xs)), (am_ys, .inl (km_ys, 10, .inl zm_ys))] [(km_ones, .int), (km_others, .int), (km_xs, .int), (km_ys, .int)]) (va_Qi (fun (r : Int32) (u : Unit) => (r = R) ∧ z01 r) (fun u t => End_ dC dI (va_A [(am, .inr (5, [.int zm_thrown, .ref am_there, .ref am_ones, .ref am_others, .ref am_xs, .ref am_ys, .int zm_many, .ref am_a, .ref am_b, .ref am_from, .ref am_to, .ref am_way, .ref am_depth, .ref am_above, .ref am_pile, .ref am_next, .ref am_leader, .ref am_turned, .ref am_piece, .ref am_numbers, .ref am_row])), (am_ones, .inl (km_ones, 24, .inl zm_ones)), (am_others, .inl (km_others, 24, .inl zm_others)), (am_xs, .inl (km_xs, 10, .inl zm_xs)), (am_ys, .inl (km_ys, 10, .inl zm_ys))] sz) [(km_ones, .int), (km_others, .int), (km_xs, .int), (km_ys, .int)] [(am, .inr (5, [.int zm_thrown, .ref am_there, .ref am_ones, .ref am_others, .ref am_xs, .ref am_ys, .int zm_many, .ref am_a, .ref am_b, .ref am_from, .ref am_to, .ref am_way, .ref am_depth, .ref am_above, .ref am_pile, .ref am_next, .ref am_leader, .ref am_turned, .ref am_piece, .ref am_numbers, .ref am_row])), (am_ones, .inl (km_ones, 24, .inl zm_ones)), (am_others, .inl (km_others, 24, .inl zm_others)), (am_xs, .inl (km_xs, 10, .inl zm_xs)), (am_ys, .inl (km_ys, 10, .inl zm_ys))] t) (va_A [(am, .inr (5, [.int zm_thrown, .ref am_there, .ref am_ones, .ref am_others, .ref am_xs, .ref am_ys, .int zm_many, .ref am_a, .ref am_b, .ref am_from, .ref am_to, .ref am_way, .ref am_depth, .ref am_above, .ref am_pile, .ref am_next, .ref am_leader, .ref am_turned, .ref am_piece, .ref am_numbers, .ref am_row])), (am_ones, .inl (km_ones, 24, .inl zm_ones)), (am_others, .inl (km_others, 24, .inl zm_others)), (am_xs, .inl (km_xs, 10, .inl zm_xs)), (am_ys, .inl (km_ys, 10, .inl zm_ys))] sz)) 0 0 (va_A [(am, .inr (5, [.int zm_thrown, .ref am_there, .ref am_ones, .ref am_others, .ref am_xs, .ref am_ys, .int zm_many, .ref am_a, .ref am_b, .ref am_from, .ref am_to, .ref am_way, .ref am_depth, .ref am_above, .ref am_pile, .ref am_next, .ref am_leader, .ref am_turned, .ref am_piece, .ref am_numbers, .ref am_row])), (am_ones, .inl (km_ones, 24, .inl zm_ones)), (am_others, .inl (km_others, 24, .inl zm_others)), (am_xs, .inl (km_xs, 10, .inl zm_xs)), (am_ys, .inl (km_ys, 10, .inl zm_ys))] sz) := by
  refine Met.ofW (cc := b_Mod_meetNow) (maxL := 7) (ret := (some .boolean)) (by decide) rfl ?_
  intro p e s m args below meth c s₁ B hml hv
  obtain ⟨hargs, hsz, hP, hK, hD0, hN⟩ := hv
  have hx := B.exec
  have hb := B.bytes
  have hr := B.returns
  have hts := atoms_spec (ws := w_Mod_meetNow) B.pre
  have hown : s.vm.findClass R_Mod = some m.cls := findClass_of_methodNamed B.named
  have hlocks := B.notSynchronized
  subst hsz
  have hD := hD0.self (sz := s.heap.size)
  generalize hAe : va_A [(am, .inr (5, [.int zm_thrown, .ref am_there, .ref am_ones, .ref am_others, .ref am_xs, .ref am_ys, .int zm_many, .ref am_a, .ref am_b, .ref am_from, .ref am_to, .ref am_way, .ref am_depth, .ref am_above, .ref am_pile, .ref am_next, .ref am_leader, .ref am_turned, .ref am_piece, .ref am_numbers, .ref am_row])), (am_ones, .inl (km_ones, 24, .inl zm_ones)), (am_others, .inl (km_others, 24, .inl zm_others)), (am_xs, .inl (km_xs, 10, .inl zm_xs)), (am_ys, .inl (km_ys, 10, .inl zm_ys))] s.heap.size = A at hD ⊢
  have hA : ∀ q : Nat, s.heap.size ≤ q → A q := fun q h => by rw [← hAe]; exact Or.inr h
  have hS : va_S A s.heap s.heap [] := va_S.rf
  have hl := lv_entry ([.ref am, .int v1, .int v2]) (n := 7) (Nat.le_of_ble_eq_true rfl)
  refine W.eq (congrArg (fun a => entryFrame m a 7) hargs) ?_
  rw [lg_entry_eq]
  generalize (lg_sl ([.ref am, .int v1, .int v2]) ++ List.replicate (7 - (lg_sl ([.ref am, .int v1, .int v2])).length) Slot.unset).toArray = ls at hl ⊢
  have hl : lv_has ls 7 [(0, .ref am), (1, .int v1), (2, .int v2)] := hl
  generalize hH0 : ([] : List Loc) = locs at hS ⊢
  have hI := hR.symm
  rw [F_meetNowM] at hI
  refine lv_aload_n hx hb d_Mod_meetNow_0 rfl (lv_at hl 0 rfl) ?_
  refine va_get (D := (dC, dI)) (ci := 5) (v := .ref am_ones) (C := R_Mod) (T := F_Mod) (N := 21) hx hb hts (fun w h => List.mem_cons_of_mem _ (in_Mod w h)) hown hK hP 0 rfl rfl 2 (by decide) (hts _ (List.mem_cons_of_mem _ mw_3_158)) (fun _ h9 => h9) rfl d_Mod_meetNow_1 ?_
  refine lv_iload_n hx hb d_Mod_meetNow_4 rfl (lv_at hl 1 rfl) ?_
  have hi_5 := ob_in hI
  have hI := ob_th hI
  refine va_iald (D := (dC, dI)) hx hb hK hP 1 0 rfl rfl hi_5 d_Mod_meetNow_5 ?_
  refine lv_istore_n (lv' := [(3, .int (zm_ones (Int32.toNatClampNeg v1))), (0, .ref am), (1, .int v1), (2, .int v2)]) hx hb d_Mod_meetNow_6 rfl hl (by decide) rfl (fun ls hl => ?_)
  refine lv_aload_n hx hb d_Mod_meetNow_7 rfl (lv_at hl 1 rfl) ?_
  refine va_get (D := (dC, dI)) (ci := 5) (v := .ref am_others) (C := R_Mod) (T := F_Mod) (N := 21) hx hb hts (fun w h => List.mem_cons_of_mem _ (in_Mod w h)) hown hK hP 0 rfl rfl 3 (by decide) (hts _ (List.mem_cons_of_mem _ mw_3_159)) (fun _ h9 => h9) rfl d_Mod_meetNow_8 ?_
  refine lv_iload_n hx hb d_Mod_meetNow_11 rfl (lv_at hl 2 rfl) ?_
  refine va_iald (D := (dC, dI)) hx hb hK hP 2 1 rfl rfl hi_5 d_Mod_meetNow_12 ?_
  refine lv_istore (lv' := [(4, .int (zm_others (Int32.toNatClampNeg v1))), (3, .int (zm_ones (Int32.toNatClampNeg v1))), (0, .ref am), (1, .int v1), (2, .int v2)]) hx hb d_Mod_meetNow_13 hl (by decide) rfl (fun ls hl => ?_)
  refine lv_aload_n hx hb d_Mod_meetNow_15 rfl (lv_at hl 2 rfl) ?_
  refine va_get (D := (dC, dI)) (ci := 5) (v := .ref am_ones) (C := R_Mod) (T := F_Mod) (N := 21) hx hb hts (fun w h => List.mem_cons_of_mem _ (in_Mod w h)) hown hK hP 0 rfl rfl 2 (by decide) (hts _ (List.mem_cons_of_mem _ mw_3_158)) (fun _ h9 => h9) rfl d_Mod_meetNow_16 ?_
  refine lv_iload_n hx hb d_Mod_meetNow_19 rfl (lv_at hl 4 rfl) ?_
  have hi_20 := ob_in hI
  have hI := ob_th hI
  refine va_iald (D := (dC, dI)) hx hb hK hP 1 0 rfl rfl hi_20 d_Mod_meetNow_20 ?_
  refine lv_istore (lv' := [(5, .int (zm_ones (Int32.toNatClampNeg v2))), (4, .int (zm_others (Int32.toNatClampNeg v1))), (3, .int (zm_ones (Int32.toNatClampNeg v1))), (0, .ref am), (1, .int v1), (2, .int v2)]) hx hb d_Mod_meetNow_21 hl (by decide) rfl (fun ls hl => ?_)
  refine lv_aload_n hx hb d_Mod_meetNow_23 rfl (lv_at hl 3 rfl) ?_
  refine va_get (D := (dC, dI)) (ci := 5) (v := .ref am_others) (C := R_Mod) (T := F_Mod) (N := 21) hx hb hts (fun w h => List.mem_cons_of_mem _ (in_Mod w h)) hown hK hP 0 rfl rfl 3 (by decide) (hts _ (List.mem_cons_of_mem _ mw_3_159)) (fun _ h9 => h9) rfl d_Mod_meetNow_24 ?_
  refine lv_iload_n hx hb d_Mod_meetNow_27 rfl (lv_at hl 5 rfl) ?_
  refine va_iald (D := (dC, dI)) hx hb hK hP 2 1 rfl rfl hi_20 d_Mod_meetNow_28 ?_
  refine lv_istore (lv' := [(6, .int (zm_others (Int32.toNatClampNeg v2))), (5, .int (zm_ones (Int32.toNatClampNeg v2))), (4, .int (zm_others (Int32.toNatClampNeg v1))), (3, .int (zm_ones (Int32.toNatClampNeg v1))), (0, .ref am), (1, .int v1), (2, .int v2)]) hx hb d_Mod_meetNow_29 hl (by decide) rfl (fun ls hl => ?_)
  refine lv_iload_n hx hb d_Mod_meetNow_31 rfl (lv_at hl 3 rfl) ?_
  refine lv_iload hx hb d_Mod_meetNow_32 (lv_at hl 1 rfl) ?_
  refine lv_icmp_eq (tgt := 43) hx hb d_Mod_meetNow_34 rfl (fun hc_34 => ?_) (fun hc_34 => ?_)
  · skip
    have hI := hI.trans (if_pos hc_34)
    refine lv_aload_n hx hb d_Mod_meetNow_43 rfl (lv_at hl 4 rfl) ?_
    refine lv_iload_n hx hb d_Mod_meetNow_44 rfl (lv_at hl 3 rfl) ?_
    refine lv_iload hx hb d_Mod_meetNow_45 (lv_at hl 2 rfl) ?_
    refine lv_iload_n hx hb d_Mod_meetNow_47 rfl (lv_at hl 3 rfl) ?_
    refine lv_iload hx hb d_Mod_meetNow_48 (lv_at hl 1 rfl) ?_
    obtain ⟨K_j60_50, hK_j60_50⟩ : ∃ K : Int32 → Option (Int32), K = (fun (j_60_50 : Int32) => ((F_meetBehindM zm_xs zm_ys (zm_ones (Int32.toNatClampNeg v1)) (zm_others (Int32.toNatClampNeg v1)) j_60_50).bind (fun p_60 => some (p_60)))) := ⟨_, rfl⟩
    have J_60_50 : ∀ (s0_60_50 : Int32) (H : Heap) (locs : List Loc) (ls : Array Slot), some R = (K_j60_50 s0_60_50) → va_P (dC, dI) classes [(am, .inr (5, [.int zm_thrown, .ref am_there, .ref am_ones, .ref am_others, .ref am_xs, .ref am_ys, .int zm_many, .ref am_a, .ref am_b, .ref am_from, .ref am_to, .ref am_way, .ref am_depth, .ref am_above, .ref am_pile, .ref am_next, .ref am_leader, .ref am_turned, .ref am_piece, .ref am_numbers, .ref am_row])), (am_ones, .inl (km_ones, 24, .inl zm_ones)), (am_others, .inl (km_others, 24, .inl zm_others)), (am_xs, .inl (km_xs, 10, .inl zm_xs)), (am_ys, .inl (km_ys, 10, .inl zm_ys))] H → va_D A [(am, .inr (5, [.int zm_thrown, .ref am_there, .ref am_ones, .ref am_others, .ref am_xs, .ref am_ys, .int zm_many, .ref am_a, .ref am_b, .ref am_from, .ref am_to, .ref am_way, .ref am_depth, .ref am_above, .ref am_pile, .ref am_next, .ref am_leader, .ref am_turned, .ref am_piece, .ref am_numbers, .ref am_row])), (am_ones, .inl (km_ones, 24, .inl zm_ones)), (am_others, .inl (km_others, 24, .inl zm_others)), (am_xs, .inl (km_xs, 10, .inl zm_xs)), (am_ys, .inl (km_ys, 10, .inl zm_ys))] → va_S A s.heap H locs → lv_has ls 7 [(0, .ref am), (1, .int v1), (2, .int v2), (3, .int (zm_ones (Int32.toNatClampNeg v1))), (4, .int (zm_others (Int32.toNatClampNeg v1))), (5, .int (zm_ones (Int32.toNatClampNeg v2))), (6, .int (zm_others (Int32.toNatClampNeg v2)))] → W p l e (headSpec w_Mod_meetNow ({ frames := 2, cells := 0, slots := 0, locals := 49 })).room s m args below meth c H locs 0 0 (MQ below (va_Qi (fun (r : Int32) (u : Unit) => (r = R) ∧ z01 r) (fun u t => End_ dC dI A [(km_ones, .int), (km_others, .int), (km_xs, .int), (km_ys, .int)] [(am, .inr (5, [.int zm_thrown, .ref am_there, .ref am_ones, .ref am_others, .ref am_xs, .ref am_ys, .int zm_many, .ref am_a, .ref am_b, .ref am_from, .ref am_to, .ref am_way, .ref am_depth, .ref am_above, .ref am_pile, .ref am_next, .ref am_leader, .ref am_turned, .ref am_piece, .ref am_numbers, .ref am_row])), (am_ones, .inl (km_ones, 24, .inl zm_ones)), (am_others, .inl (km_others, 24, .inl zm_others)), (am_xs, .inl (km_xs, 10, .inl zm_xs)), (am_ys, .inl (km_ys, 10, .inl zm_ys))] t) A) args s 0 0 A) (F0 m 60 ls [.int s0_60_50, .int (zm_others (Int32.toNatClampNeg v1)), .int (zm_ones (Int32.toNatClampNeg v1)), .ref am]) := by
      intro s0_60_50 H locs ls hI hP hD hS hl
      rw [hK_j60_50] at hI
      obtain ⟨p_60, hg_60, hI⟩ := ob_bd hI
      have hPc := hP.sub (ws' := [(am, .inr (5, [.int zm_thrown, .ref am_there, .ref am_ones, .ref am_others, .ref am_xs, .ref am_ys, .int zm_many, .ref am_a, .ref am_b, .ref am_from, .ref am_to, .ref am_way, .ref am_depth, .ref am_above, .ref am_pile, .ref am_next, .ref am_leader, .ref am_turned, .ref am_piece, .ref am_numbers, .ref am_row])), (am_xs, .inl (km_xs, 10, .inl zm_xs)), (am_ys, .inl (km_ys, 10, .inl zm_ys))]) [0, 3, 4] rfl
      have hDc := hD.sub (ws' := [(am, .inr (5, [.int zm_thrown, .ref am_there, .ref am_ones, .ref am_others, .ref am_xs, .ref am_ys, .int zm_many, .ref am_a, .ref am_b, .ref am_from, .ref am_to, .ref am_way, .ref am_depth, .ref am_above, .ref am_pile, .ref am_next, .ref am_leader, .ref am_turned, .ref am_piece, .ref am_numbers, .ref am_row])), (am_xs, .inl (km_xs, 10, .inl zm_xs)), (am_ys, .inl (km_ys, 10, .inl zm_ys))]) [0, 3, 4] (by decide) rfl
      have hKc := hK.sub (tys' := [(km_xs, .int), (km_ys, .int)]) [2, 3] rfl
      have hFc := va_free (wc := [(am, .inr (5, [.int zm_thrown, .ref am_there, .ref am_ones, .ref am_others, .ref am_xs, .ref am_ys, .int zm_many, .ref am_a, .ref am_b, .ref am_from, .ref am_to, .ref am_way, .ref am_depth, .ref am_above, .ref am_pile, .ref am_next, .ref am_leader, .ref am_turned, .ref am_piece, .ref am_numbers, .ref am_row])), (am_xs, .inl (km_xs, 10, .inl zm_xs)), (am_ys, .inl (km_ys, 10, .inl zm_ys))]) hD hS hA [0, 3, 4] rfl
      refine va_calli (va_runV (As := [.int (zm_ones (Int32.toNatClampNeg v1)), .int (zm_others (Int32.toNatClampNeg v1)), .int s0_60_50]) (rest := []) ⟨hx, hb, hml, hown, hts⟩ (c_meetBehindM l dC dI H.size am am_there am_ones am_others am_xs am_ys am_a am_b am_from am_to am_way am_depth am_above am_pile am_next am_leader am_turned am_piece am_numbers am_row km_xs km_ys zm_thrown zm_many zm_xs zm_ys (zm_ones (Int32.toNatClampNeg v1)) (zm_others (Int32.toNatClampNeg v1)) s0_60_50 p_60 hg_60) (cwV 3 hts (gi4 mw_4_212 mw_4_214 mw_p_64 mw_1_6 mw_4_215) rfl rfl rfl (by decide +kernel) ⟨Nat.le_of_ble_eq_true rfl, Nat.le_of_ble_eq_true rfl⟩) ⟨fb_, va_recv (q0 := 0) (ci := 5) hK hP rfl rfl, pre_ hPc hKc hDc hN⟩ rfl rfl hl.1 rfl (lv_room (Nat.le_of_ble_eq_true rfl)) d_Mod_meetNow_60 ⟨Nat.le_of_ble_eq_true rfl, Nat.le_of_ble_eq_true rfl⟩) hS (fun q _ h => hFc q h) hFc (fun r_60 u t H locs ht hvm hp_60 hB hz1 hk1 hS => ?_)
      obtain ⟨hP1, -, hD1⟩ := hB
      rw [ht] at hP1
      obtain ⟨hP, hD⟩ := va_join (wr := [(am_ones, .inl (km_ones, 24, .inl zm_ones)), (am_others, .inl (km_others, 24, .inl zm_others))]) (w1 := [(am, .inr (5, [.int zm_thrown, .ref am_there, .ref am_ones, .ref am_others, .ref am_xs, .ref am_ys, .int zm_many, .ref am_a, .ref am_b, .ref am_from, .ref am_to, .ref am_way, .ref am_depth, .ref am_above, .ref am_pile, .ref am_next, .ref am_leader, .ref am_turned, .ref am_piece, .ref am_numbers, .ref am_row])), (am_xs, .inl (km_xs, 10, .inl zm_xs)), (am_ys, .inl (km_ys, 10, .inl zm_ys))]) hP hD [0, 3, 4] [1, 2] rfl rfl (by decide) (by decide) hk1 hFc hP1 hD1
      obtain ⟨hp_60, hz_60⟩ := hp_60
      have hp_60 : (r_60) = p_60 := hp_60
      subst hp_60
      have hP : va_P (dC, dI) classes [(am_ones, .inl (km_ones, 24, .inl zm_ones)), (am_others, .inl (km_others, 24, .inl zm_others)), (am, .inr (5, [.int zm_thrown, .ref am_there, .ref am_ones, .ref am_others, .ref am_xs, .ref am_ys, .int zm_many, .ref am_a, .ref am_b, .ref am_from, .ref am_to, .ref am_way, .ref am_depth, .ref am_above, .ref am_pile, .ref am_next, .ref am_leader, .ref am_turned, .ref am_piece, .ref am_numbers, .ref am_row])), (am_xs, .inl (km_xs, 10, .inl zm_xs)), (am_ys, .inl (km_ys, 10, .inl zm_ys))] H := hP
      have hD : va_D A [(am_ones, .inl (km_ones, 24, .inl zm_ones)), (am_others, .inl (km_others, 24, .inl zm_others)), (am, .inr (5, [.int zm_thrown, .ref am_there, .ref am_ones, .ref am_others, .ref am_xs, .ref am_ys, .int zm_many, .ref am_a, .ref am_b, .ref am_from, .ref am_to, .ref am_way, .ref am_depth, .ref am_above, .ref am_pile, .ref am_next, .ref am_leader, .ref am_turned, .ref am_piece, .ref am_numbers, .ref am_row])), (am_xs, .inl (km_xs, 10, .inl zm_xs)), (am_ys, .inl (km_ys, 10, .inl zm_ys))] := hD
      have hP := hP.sub (ws' := [(am, .inr (5, [.int zm_thrown, .ref am_there, .ref am_ones, .ref am_others, .ref am_xs, .ref am_ys, .int zm_many, .ref am_a, .ref am_b, .ref am_from, .ref am_to, .ref am_way, .ref am_depth, .ref am_above, .ref am_pile, .ref am_next, .ref am_leader, .ref am_turned, .ref am_piece, .ref am_numbers, .ref am_row])), (am_ones, .inl (km_ones, 24, .inl zm_ones)), (am_others, .inl (km_others, 24, .inl zm_others)), (am_xs, .inl (km_xs, 10, .inl zm_xs)), (am_ys, .inl (km_ys, 10, .inl zm_ys))]) [2, 0, 1, 3, 4] rfl
      have hD := hD.sub (ws' := [(am, .inr (5, [.int zm_thrown, .ref am_there, .ref am_ones, .ref am_others, .ref am_xs, .ref am_ys, .int zm_many, .ref am_a, .ref am_b, .ref am_from, .ref am_to, .ref am_way, .ref am_depth, .ref am_above, .ref am_pile, .ref am_next, .ref am_leader, .ref am_turned, .ref am_piece, .ref am_numbers, .ref am_row])), (am_ones, .inl (km_ones, 24, .inl zm_ones)), (am_others, .inl (km_others, 24, .inl zm_others)), (am_xs, .inl (km_xs, 10, .inl zm_xs)), (am_ys, .inl (km_ys, 10, .inl zm_ys))]) [2, 0, 1, 3, 4] (by decide) rfl
      exact W.zret (v := r_60) (ty := .boolean) hx hb hr (nr01 hz_60) (fun t ht hW => ⟨⟨r_60, (), rfl, ⟨(Option.some.inj hI).symm, hz_60⟩, by rw [ht]; exact hP, va_K.moved hW.alike hK, hD⟩, hS.F ht⟩) hS.2.2 d_Mod_meetNow_63
    have hI : some R = (K_j60_50 (if (zm_ones (Int32.toNatClampNeg v1)) = (zm_ones (Int32.toNatClampNeg v2)) then (zm_others (Int32.toNatClampNeg v2)) else (zm_ones (Int32.toNatClampNeg v2)))) := by rw [hK_j60_50]; exact hI
    refine lv_icmp_ne (tgt := 58) hx hb d_Mod_meetNow_50 rfl (fun hc_50 => ?_) (fun hc_50 => ?_)
    · skip
      have hI := ob_elC (C := fun y_ => K_j60_50 y_) hc_50 hI
      refine lv_iload hx hb d_Mod_meetNow_58 (lv_at hl 1 rfl) ?_
      have hl := lv_sub hl [4, 5, 6, 3, 2, 1, 0] rfl
      exact J_60_50 _ _ _ _ hI hP hD hS hl
    · skip
      have hI := ob_ifC (C := fun y_ => K_j60_50 y_) hc_50 hI
      refine lv_iload hx hb d_Mod_meetNow_53 (lv_at hl 0 rfl) ?_
      refine lv_goto (tgt := 60) hx hb d_Mod_meetNow_55 rfl ?_
      have hl := lv_sub hl [4, 5, 6, 3, 2, 1, 0] rfl
      exact J_60_50 _ _ _ _ hI hP hD hS hl
  · skip
    have hI := hI.trans (if_neg hc_34)
    refine lv_iload_n hx hb d_Mod_meetNow_37 rfl (lv_at hl 3 rfl) ?_
    refine lv_iload hx hb d_Mod_meetNow_38 (lv_at hl 0 rfl) ?_
    refine lv_icmp_ne (tgt := 64) hx hb d_Mod_meetNow_40 rfl (fun hc_40 => ?_) (fun hc_40 => ?_)
    · skip
      have hI := hI.trans (if_neg hc_40)
      refine lv_iload hx hb d_Mod_meetNow_64 (lv_at hl 2 rfl) ?_
      refine lv_iload hx hb d_Mod_meetNow_66 (lv_at hl 1 rfl) ?_
      refine lv_icmp_eq (tgt := 78) hx hb d_Mod_meetNow_68 rfl (fun hc_68 => ?_) (fun hc_68 => ?_)
      · skip
        have hI := hI.trans (if_pos hc_68)
        refine lv_aload_n hx hb d_Mod_meetNow_78 rfl (lv_at hl 4 rfl) ?_
        refine lv_iload hx hb d_Mod_meetNow_79 (lv_at hl 2 rfl) ?_
        refine lv_iload_n hx hb d_Mod_meetNow_81 rfl (lv_at hl 3 rfl) ?_
        refine lv_iload hx hb d_Mod_meetNow_82 (lv_at hl 2 rfl) ?_
        refine lv_iload hx hb d_Mod_meetNow_84 (lv_at hl 1 rfl) ?_
        obtain ⟨K_j96_86, hK_j96_86⟩ : ∃ K : Int32 → Option (Int32), K = (fun (j_96_86 : Int32) => ((F_meetBehindM zm_xs zm_ys (zm_others (Int32.toNatClampNeg v1)) (zm_ones (Int32.toNatClampNeg v1)) j_96_86).bind (fun p_96 => some (p_96)))) := ⟨_, rfl⟩
        have J_96_86 : ∀ (s0_96_86 : Int32) (H : Heap) (locs : List Loc) (ls : Array Slot), some R = (K_j96_86 s0_96_86) → va_P (dC, dI) classes [(am, .inr (5, [.int zm_thrown, .ref am_there, .ref am_ones, .ref am_others, .ref am_xs, .ref am_ys, .int zm_many, .ref am_a, .ref am_b, .ref am_from, .ref am_to, .ref am_way, .ref am_depth, .ref am_above, .ref am_pile, .ref am_next, .ref am_leader, .ref am_turned, .ref am_piece, .ref am_numbers, .ref am_row])), (am_ones, .inl (km_ones, 24, .inl zm_ones)), (am_others, .inl (km_others, 24, .inl zm_others)), (am_xs, .inl (km_xs, 10, .inl zm_xs)), (am_ys, .inl (km_ys, 10, .inl zm_ys))] H → va_D A [(am, .inr (5, [.int zm_thrown, .ref am_there, .ref am_ones, .ref am_others, .ref am_xs, .ref am_ys, .int zm_many, .ref am_a, .ref am_b, .ref am_from, .ref am_to, .ref am_way, .ref am_depth, .ref am_above, .ref am_pile, .ref am_next, .ref am_leader, .ref am_turned, .ref am_piece, .ref am_numbers, .ref am_row])), (am_ones, .inl (km_ones, 24, .inl zm_ones)), (am_others, .inl (km_others, 24, .inl zm_others)), (am_xs, .inl (km_xs, 10, .inl zm_xs)), (am_ys, .inl (km_ys, 10, .inl zm_ys))] → va_S A s.heap H locs → lv_has ls 7 [(0, .ref am), (1, .int v1), (2, .int v2), (3, .int (zm_ones (Int32.toNatClampNeg v1))), (4, .int (zm_others (Int32.toNatClampNeg v1))), (5, .int (zm_ones (Int32.toNatClampNeg v2))), (6, .int (zm_others (Int32.toNatClampNeg v2)))] → W p l e (headSpec w_Mod_meetNow ({ frames := 2, cells := 0, slots := 0, locals := 49 })).room s m args below meth c H locs 0 0 (MQ below (va_Qi (fun (r : Int32) (u : Unit) => (r = R) ∧ z01 r) (fun u t => End_ dC dI A [(km_ones, .int), (km_others, .int), (km_xs, .int), (km_ys, .int)] [(am, .inr (5, [.int zm_thrown, .ref am_there, .ref am_ones, .ref am_others, .ref am_xs, .ref am_ys, .int zm_many, .ref am_a, .ref am_b, .ref am_from, .ref am_to, .ref am_way, .ref am_depth, .ref am_above, .ref am_pile, .ref am_next, .ref am_leader, .ref am_turned, .ref am_piece, .ref am_numbers, .ref am_row])), (am_ones, .inl (km_ones, 24, .inl zm_ones)), (am_others, .inl (km_others, 24, .inl zm_others)), (am_xs, .inl (km_xs, 10, .inl zm_xs)), (am_ys, .inl (km_ys, 10, .inl zm_ys))] t) A) args s 0 0 A) (F0 m 96 ls [.int s0_96_86, .int (zm_ones (Int32.toNatClampNeg v1)), .int (zm_others (Int32.toNatClampNeg v1)), .ref am]) := by
          intro s0_96_86 H locs ls hI hP hD hS hl
          rw [hK_j96_86] at hI
          obtain ⟨p_96, hg_96, hI⟩ := ob_bd hI
          have hPc := hP.sub (ws' := [(am, .inr (5, [.int zm_thrown, .ref am_there, .ref am_ones, .ref am_others, .ref am_xs, .ref am_ys, .int zm_many, .ref am_a, .ref am_b, .ref am_from, .ref am_to, .ref am_way, .ref am_depth, .ref am_above, .ref am_pile, .ref am_next, .ref am_leader, .ref am_turned, .ref am_piece, .ref am_numbers, .ref am_row])), (am_xs, .inl (km_xs, 10, .inl zm_xs)), (am_ys, .inl (km_ys, 10, .inl zm_ys))]) [0, 3, 4] rfl
          have hDc := hD.sub (ws' := [(am, .inr (5, [.int zm_thrown, .ref am_there, .ref am_ones, .ref am_others, .ref am_xs, .ref am_ys, .int zm_many, .ref am_a, .ref am_b, .ref am_from, .ref am_to, .ref am_way, .ref am_depth, .ref am_above, .ref am_pile, .ref am_next, .ref am_leader, .ref am_turned, .ref am_piece, .ref am_numbers, .ref am_row])), (am_xs, .inl (km_xs, 10, .inl zm_xs)), (am_ys, .inl (km_ys, 10, .inl zm_ys))]) [0, 3, 4] (by decide) rfl
          have hKc := hK.sub (tys' := [(km_xs, .int), (km_ys, .int)]) [2, 3] rfl
          have hFc := va_free (wc := [(am, .inr (5, [.int zm_thrown, .ref am_there, .ref am_ones, .ref am_others, .ref am_xs, .ref am_ys, .int zm_many, .ref am_a, .ref am_b, .ref am_from, .ref am_to, .ref am_way, .ref am_depth, .ref am_above, .ref am_pile, .ref am_next, .ref am_leader, .ref am_turned, .ref am_piece, .ref am_numbers, .ref am_row])), (am_xs, .inl (km_xs, 10, .inl zm_xs)), (am_ys, .inl (km_ys, 10, .inl zm_ys))]) hD hS hA [0, 3, 4] rfl
          refine va_calli (va_runV (As := [.int (zm_others (Int32.toNatClampNeg v1)), .int (zm_ones (Int32.toNatClampNeg v1)), .int s0_96_86]) (rest := []) ⟨hx, hb, hml, hown, hts⟩ (c_meetBehindM l dC dI H.size am am_there am_ones am_others am_xs am_ys am_a am_b am_from am_to am_way am_depth am_above am_pile am_next am_leader am_turned am_piece am_numbers am_row km_xs km_ys zm_thrown zm_many zm_xs zm_ys (zm_others (Int32.toNatClampNeg v1)) (zm_ones (Int32.toNatClampNeg v1)) s0_96_86 p_96 hg_96) (cwV 3 hts (gi4 mw_4_212 mw_4_214 mw_p_64 mw_1_6 mw_4_215) rfl rfl rfl (by decide +kernel) ⟨Nat.le_of_ble_eq_true rfl, Nat.le_of_ble_eq_true rfl⟩) ⟨fb_, va_recv (q0 := 0) (ci := 5) hK hP rfl rfl, pre_ hPc hKc hDc hN⟩ rfl rfl hl.1 rfl (lv_room (Nat.le_of_ble_eq_true rfl)) d_Mod_meetNow_96 ⟨Nat.le_of_ble_eq_true rfl, Nat.le_of_ble_eq_true rfl⟩) hS (fun q _ h => hFc q h) hFc (fun r_96 u t H locs ht hvm hp_96 hB hz1 hk1 hS => ?_)
          obtain ⟨hP1, -, hD1⟩ := hB
          rw [ht] at hP1
          obtain ⟨hP, hD⟩ := va_join (wr := [(am_ones, .inl (km_ones, 24, .inl zm_ones)), (am_others, .inl (km_others, 24, .inl zm_others))]) (w1 := [(am, .inr (5, [.int zm_thrown, .ref am_there, .ref am_ones, .ref am_others, .ref am_xs, .ref am_ys, .int zm_many, .ref am_a, .ref am_b, .ref am_from, .ref am_to, .ref am_way, .ref am_depth, .ref am_above, .ref am_pile, .ref am_next, .ref am_leader, .ref am_turned, .ref am_piece, .ref am_numbers, .ref am_row])), (am_xs, .inl (km_xs, 10, .inl zm_xs)), (am_ys, .inl (km_ys, 10, .inl zm_ys))]) hP hD [0, 3, 4] [1, 2] rfl rfl (by decide) (by decide) hk1 hFc hP1 hD1
          obtain ⟨hp_96, hz_96⟩ := hp_96
          have hp_96 : (r_96) = p_96 := hp_96
          subst hp_96
          have hP : va_P (dC, dI) classes [(am_ones, .inl (km_ones, 24, .inl zm_ones)), (am_others, .inl (km_others, 24, .inl zm_others)), (am, .inr (5, [.int zm_thrown, .ref am_there, .ref am_ones, .ref am_others, .ref am_xs, .ref am_ys, .int zm_many, .ref am_a, .ref am_b, .ref am_from, .ref am_to, .ref am_way, .ref am_depth, .ref am_above, .ref am_pile, .ref am_next, .ref am_leader, .ref am_turned, .ref am_piece, .ref am_numbers, .ref am_row])), (am_xs, .inl (km_xs, 10, .inl zm_xs)), (am_ys, .inl (km_ys, 10, .inl zm_ys))] H := hP
          have hD : va_D A [(am_ones, .inl (km_ones, 24, .inl zm_ones)), (am_others, .inl (km_others, 24, .inl zm_others)), (am, .inr (5, [.int zm_thrown, .ref am_there, .ref am_ones, .ref am_others, .ref am_xs, .ref am_ys, .int zm_many, .ref am_a, .ref am_b, .ref am_from, .ref am_to, .ref am_way, .ref am_depth, .ref am_above, .ref am_pile, .ref am_next, .ref am_leader, .ref am_turned, .ref am_piece, .ref am_numbers, .ref am_row])), (am_xs, .inl (km_xs, 10, .inl zm_xs)), (am_ys, .inl (km_ys, 10, .inl zm_ys))] := hD
          have hP := hP.sub (ws' := [(am, .inr (5, [.int zm_thrown, .ref am_there, .ref am_ones, .ref am_others, .ref am_xs, .ref am_ys, .int zm_many, .ref am_a, .ref am_b, .ref am_from, .ref am_to, .ref am_way, .ref am_depth, .ref am_above, .ref am_pile, .ref am_next, .ref am_leader, .ref am_turned, .ref am_piece, .ref am_numbers, .ref am_row])), (am_ones, .inl (km_ones, 24, .inl zm_ones)), (am_others, .inl (km_others, 24, .inl zm_others)), (am_xs, .inl (km_xs, 10, .inl zm_xs)), (am_ys, .inl (km_ys, 10, .inl zm_ys))]) [2, 0, 1, 3, 4] rfl
          have hD := hD.sub (ws' := [(am, .inr (5, [.int zm_thrown, .ref am_there, .ref am_ones, .ref am_others, .ref am_xs, .ref am_ys, .int zm_many, .ref am_a, .ref am_b, .ref am_from, .ref am_to, .ref am_way, .ref am_depth, .ref am_above, .ref am_pile, .ref am_next, .ref am_leader, .ref am_turned, .ref am_piece, .ref am_numbers, .ref am_row])), (am_ones, .inl (km_ones, 24, .inl zm_ones)), (am_others, .inl (km_others, 24, .inl zm_others)), (am_xs, .inl (km_xs, 10, .inl zm_xs)), (am_ys, .inl (km_ys, 10, .inl zm_ys))]) [2, 0, 1, 3, 4] (by decide) rfl
          exact W.zret (v := r_96) (ty := .boolean) hx hb hr (nr01 hz_96) (fun t ht hW => ⟨⟨r_96, (), rfl, ⟨(Option.some.inj hI).symm, hz_96⟩, by rw [ht]; exact hP, va_K.moved hW.alike hK, hD⟩, hS.F ht⟩) hS.2.2 d_Mod_meetNow_99
        have hI : some R = (K_j96_86 (if (zm_others (Int32.toNatClampNeg v1)) = (zm_ones (Int32.toNatClampNeg v2)) then (zm_others (Int32.toNatClampNeg v2)) else (zm_ones (Int32.toNatClampNeg v2)))) := by rw [hK_j96_86]; exact hI
        refine lv_icmp_ne (tgt := 94) hx hb d_Mod_meetNow_86 rfl (fun hc_86 => ?_) (fun hc_86 => ?_)
        · skip
          have hI := ob_elC (C := fun y_ => K_j96_86 y_) hc_86 hI
          refine lv_iload hx hb d_Mod_meetNow_94 (lv_at hl 1 rfl) ?_
          have hl := lv_sub hl [4, 5, 6, 3, 2, 1, 0] rfl
          exact J_96_86 _ _ _ _ hI hP hD hS hl
        · skip
          have hI := ob_ifC (C := fun y_ => K_j96_86 y_) hc_86 hI
          refine lv_iload hx hb d_Mod_meetNow_89 (lv_at hl 0 rfl) ?_
          refine lv_goto (tgt := 96) hx hb d_Mod_meetNow_91 rfl ?_
          have hl := lv_sub hl [4, 5, 6, 3, 2, 1, 0] rfl
          exact J_96_86 _ _ _ _ hI hP hD hS hl
      · skip
        have hI := hI.trans (if_neg hc_68)
        refine lv_iload hx hb d_Mod_meetNow_71 (lv_at hl 2 rfl) ?_
        refine lv_iload hx hb d_Mod_meetNow_73 (lv_at hl 0 rfl) ?_
        refine lv_icmp_ne (tgt := 100) hx hb d_Mod_meetNow_75 rfl (fun hc_75 => ?_) (fun hc_75 => ?_)
        · skip
          have hI := hI.trans (if_neg hc_75)
          refine lv_aload_n hx hb d_Mod_meetNow_100 rfl (lv_at hl 4 rfl) ?_
          refine lv_iload_n hx hb d_Mod_meetNow_101 rfl (lv_at hl 3 rfl) ?_
          refine lv_iload hx hb d_Mod_meetNow_102 (lv_at hl 2 rfl) ?_
          refine lv_iload hx hb d_Mod_meetNow_104 (lv_at hl 1 rfl) ?_
          obtain ⟨p_106, hg_106, hI⟩ := ob_bd hI
          have hPc := hP.sub (ws' := [(am, .inr (5, [.int zm_thrown, .ref am_there, .ref am_ones, .ref am_others, .ref am_xs, .ref am_ys, .int zm_many, .ref am_a, .ref am_b, .ref am_from, .ref am_to, .ref am_way, .ref am_depth, .ref am_above, .ref am_pile, .ref am_next, .ref am_leader, .ref am_turned, .ref am_piece, .ref am_numbers, .ref am_row])), (am_xs, .inl (km_xs, 10, .inl zm_xs)), (am_ys, .inl (km_ys, 10, .inl zm_ys))]) [0, 3, 4] rfl
          have hDc := hD.sub (ws' := [(am, .inr (5, [.int zm_thrown, .ref am_there, .ref am_ones, .ref am_others, .ref am_xs, .ref am_ys, .int zm_many, .ref am_a, .ref am_b, .ref am_from, .ref am_to, .ref am_way, .ref am_depth, .ref am_above, .ref am_pile, .ref am_next, .ref am_leader, .ref am_turned, .ref am_piece, .ref am_numbers, .ref am_row])), (am_xs, .inl (km_xs, 10, .inl zm_xs)), (am_ys, .inl (km_ys, 10, .inl zm_ys))]) [0, 3, 4] (by decide) rfl
          have hKc := hK.sub (tys' := [(km_xs, .int), (km_ys, .int)]) [2, 3] rfl
          have hFc := va_free (wc := [(am, .inr (5, [.int zm_thrown, .ref am_there, .ref am_ones, .ref am_others, .ref am_xs, .ref am_ys, .int zm_many, .ref am_a, .ref am_b, .ref am_from, .ref am_to, .ref am_way, .ref am_depth, .ref am_above, .ref am_pile, .ref am_next, .ref am_leader, .ref am_turned, .ref am_piece, .ref am_numbers, .ref am_row])), (am_xs, .inl (km_xs, 10, .inl zm_xs)), (am_ys, .inl (km_ys, 10, .inl zm_ys))]) hD hS hA [0, 3, 4] rfl
          refine va_calli (va_runV (As := [.int (zm_ones (Int32.toNatClampNeg v1)), .int (zm_others (Int32.toNatClampNeg v1)), .int (zm_ones (Int32.toNatClampNeg v2))]) (rest := []) ⟨hx, hb, hml, hown, hts⟩ (c_isOnM l dC dI s.heap.size am am_there am_ones am_others am_xs am_ys am_a am_b am_from am_to am_way am_depth am_above am_pile am_next am_leader am_turned am_piece am_numbers am_row km_xs km_ys zm_thrown zm_many zm_xs zm_ys (zm_ones (Int32.toNatClampNeg v1)) (zm_others (Int32.toNatClampNeg v1)) (zm_ones (Int32.toNatClampNeg v2)) p_106 hg_106) (cwV 3 hts (gi4 mw_4_220 mw_4_222 mw_p_66 mw_1_6 mw_4_223) rfl rfl rfl (by decide +kernel) ⟨Nat.le_of_ble_eq_true rfl, Nat.le_of_ble_eq_true rfl⟩) ⟨fb_, va_recv (q0 := 0) (ci := 5) hK hP rfl rfl, pre_ hPc hKc hDc hN⟩ rfl rfl hl.1 rfl (lv_room (Nat.le_of_ble_eq_true rfl)) d_Mod_meetNow_106 ⟨Nat.le_of_ble_eq_true rfl, Nat.le_of_ble_eq_true rfl⟩) hS (fun q _ h => hFc q h) hFc (fun r_106 u t H locs ht hvm hp_106 hB hz1 hk1 hS => ?_)
          obtain ⟨hP1, -, hD1⟩ := hB
          rw [ht] at hP1
          obtain ⟨hP, hD⟩ := va_join (wr := [(am_ones, .inl (km_ones, 24, .inl zm_ones)), (am_others, .inl (km_others, 24, .inl zm_others))]) (w1 := [(am, .inr (5, [.int zm_thrown, .ref am_there, .ref am_ones, .ref am_others, .ref am_xs, .ref am_ys, .int zm_many, .ref am_a, .ref am_b, .ref am_from, .ref am_to, .ref am_way, .ref am_depth, .ref am_above, .ref am_pile, .ref am_next, .ref am_leader, .ref am_turned, .ref am_piece, .ref am_numbers, .ref am_row])), (am_xs, .inl (km_xs, 10, .inl zm_xs)), (am_ys, .inl (km_ys, 10, .inl zm_ys))]) hP hD [0, 3, 4] [1, 2] rfl rfl (by decide) (by decide) hk1 hFc hP1 hD1
          obtain ⟨hp_106, hz_106⟩ := hp_106
          have hp_106 : (r_106) = p_106 := hp_106
          subst hp_106
          have hP : va_P (dC, dI) classes [(am_ones, .inl (km_ones, 24, .inl zm_ones)), (am_others, .inl (km_others, 24, .inl zm_others)), (am, .inr (5, [.int zm_thrown, .ref am_there, .ref am_ones, .ref am_others, .ref am_xs, .ref am_ys, .int zm_many, .ref am_a, .ref am_b, .ref am_from, .ref am_to, .ref am_way, .ref am_depth, .ref am_above, .ref am_pile, .ref am_next, .ref am_leader, .ref am_turned, .ref am_piece, .ref am_numbers, .ref am_row])), (am_xs, .inl (km_xs, 10, .inl zm_xs)), (am_ys, .inl (km_ys, 10, .inl zm_ys))] H := hP
          have hD : va_D A [(am_ones, .inl (km_ones, 24, .inl zm_ones)), (am_others, .inl (km_others, 24, .inl zm_others)), (am, .inr (5, [.int zm_thrown, .ref am_there, .ref am_ones, .ref am_others, .ref am_xs, .ref am_ys, .int zm_many, .ref am_a, .ref am_b, .ref am_from, .ref am_to, .ref am_way, .ref am_depth, .ref am_above, .ref am_pile, .ref am_next, .ref am_leader, .ref am_turned, .ref am_piece, .ref am_numbers, .ref am_row])), (am_xs, .inl (km_xs, 10, .inl zm_xs)), (am_ys, .inl (km_ys, 10, .inl zm_ys))] := hD
          refine lv_if_ne (tgt := 149) hx hb d_Mod_meetNow_109 rfl (fun hc_109 => ?_) (fun hc_109 => ?_)
          · skip
            have hI := hI.trans (if_neg hc_109)
            refine lv_iconst (v := 1) hx hb d_Mod_meetNow_149 (by decide) ?_
            have hP := hP.sub (ws' := [(am, .inr (5, [.int zm_thrown, .ref am_there, .ref am_ones, .ref am_others, .ref am_xs, .ref am_ys, .int zm_many, .ref am_a, .ref am_b, .ref am_from, .ref am_to, .ref am_way, .ref am_depth, .ref am_above, .ref am_pile, .ref am_next, .ref am_leader, .ref am_turned, .ref am_piece, .ref am_numbers, .ref am_row])), (am_ones, .inl (km_ones, 24, .inl zm_ones)), (am_others, .inl (km_others, 24, .inl zm_others)), (am_xs, .inl (km_xs, 10, .inl zm_xs)), (am_ys, .inl (km_ys, 10, .inl zm_ys))]) [2, 0, 1, 3, 4] rfl
            have hD := hD.sub (ws' := [(am, .inr (5, [.int zm_thrown, .ref am_there, .ref am_ones, .ref am_others, .ref am_xs, .ref am_ys, .int zm_many, .ref am_a, .ref am_b, .ref am_from, .ref am_to, .ref am_way, .ref am_depth, .ref am_above, .ref am_pile, .ref am_next, .ref am_leader, .ref am_turned, .ref am_piece, .ref am_numbers, .ref am_row])), (am_ones, .inl (km_ones, 24, .inl zm_ones)), (am_others, .inl (km_others, 24, .inl zm_others)), (am_xs, .inl (km_xs, 10, .inl zm_xs)), (am_ys, .inl (km_ys, 10, .inl zm_ys))]) [2, 0, 1, 3, 4] (by decide) rfl
            exact W.zret (v := 1) (ty := .boolean) hx hb hr (nr01 (Or.inr rfl)) (fun t ht hW => ⟨⟨1, (), rfl, ⟨(Option.some.inj hI).symm, (Or.inr rfl)⟩, by rw [ht]; exact hP, va_K.moved hW.alike hK, hD⟩, hS.F ht⟩) hS.2.2 d_Mod_meetNow_150
          · skip
            have hI := hI.trans (if_pos hc_109)
            refine lv_aload_n hx hb d_Mod_meetNow_112 rfl (lv_at hl 4 rfl) ?_
            refine lv_iload_n hx hb d_Mod_meetNow_113 rfl (lv_at hl 3 rfl) ?_
            refine lv_iload hx hb d_Mod_meetNow_114 (lv_at hl 2 rfl) ?_
            refine lv_iload hx hb d_Mod_meetNow_116 (lv_at hl 0 rfl) ?_
            obtain ⟨p_118, hg_118, hI⟩ := ob_bd hI
            have hPc := hP.sub (ws' := [(am, .inr (5, [.int zm_thrown, .ref am_there, .ref am_ones, .ref am_others, .ref am_xs, .ref am_ys, .int zm_many, .ref am_a, .ref am_b, .ref am_from, .ref am_to, .ref am_way, .ref am_depth, .ref am_above, .ref am_pile, .ref am_next, .ref am_leader, .ref am_turned, .ref am_piece, .ref am_numbers, .ref am_row])), (am_xs, .inl (km_xs, 10, .inl zm_xs)), (am_ys, .inl (km_ys, 10, .inl zm_ys))]) [2, 3, 4] rfl
            have hDc := hD.sub (ws' := [(am, .inr (5, [.int zm_thrown, .ref am_there, .ref am_ones, .ref am_others, .ref am_xs, .ref am_ys, .int zm_many, .ref am_a, .ref am_b, .ref am_from, .ref am_to, .ref am_way, .ref am_depth, .ref am_above, .ref am_pile, .ref am_next, .ref am_leader, .ref am_turned, .ref am_piece, .ref am_numbers, .ref am_row])), (am_xs, .inl (km_xs, 10, .inl zm_xs)), (am_ys, .inl (km_ys, 10, .inl zm_ys))]) [2, 3, 4] (by decide) rfl
            have hKc := hK.sub (tys' := [(km_xs, .int), (km_ys, .int)]) [2, 3] rfl
            have hFc := va_free (wc := [(am, .inr (5, [.int zm_thrown, .ref am_there, .ref am_ones, .ref am_others, .ref am_xs, .ref am_ys, .int zm_many, .ref am_a, .ref am_b, .ref am_from, .ref am_to, .ref am_way, .ref am_depth, .ref am_above, .ref am_pile, .ref am_next, .ref am_leader, .ref am_turned, .ref am_piece, .ref am_numbers, .ref am_row])), (am_xs, .inl (km_xs, 10, .inl zm_xs)), (am_ys, .inl (km_ys, 10, .inl zm_ys))]) hD hS hA [2, 3, 4] rfl
            refine va_calli (va_runV (As := [.int (zm_ones (Int32.toNatClampNeg v1)), .int (zm_others (Int32.toNatClampNeg v1)), .int (zm_others (Int32.toNatClampNeg v2))]) (rest := []) ⟨hx, hb, hml, hown, hts⟩ (c_isOnM l dC dI H.size am am_there am_ones am_others am_xs am_ys am_a am_b am_from am_to am_way am_depth am_above am_pile am_next am_leader am_turned am_piece am_numbers am_row km_xs km_ys zm_thrown zm_many zm_xs zm_ys (zm_ones (Int32.toNatClampNeg v1)) (zm_others (Int32.toNatClampNeg v1)) (zm_others (Int32.toNatClampNeg v2)) p_118 hg_118) (cwV 3 hts (gi4 mw_4_220 mw_4_222 mw_p_66 mw_1_6 mw_4_223) rfl rfl rfl (by decide +kernel) ⟨Nat.le_of_ble_eq_true rfl, Nat.le_of_ble_eq_true rfl⟩) ⟨fb_, va_recv (q0 := 2) (ci := 5) hK hP rfl rfl, pre_ hPc hKc hDc hN⟩ rfl rfl hl.1 rfl (lv_room (Nat.le_of_ble_eq_true rfl)) d_Mod_meetNow_118 ⟨Nat.le_of_ble_eq_true rfl, Nat.le_of_ble_eq_true rfl⟩) hS (fun q _ h => hFc q h) hFc (fun r_118 u t H locs ht hvm hp_118 hB hz1 hk1 hS => ?_)
            obtain ⟨hP1, -, hD1⟩ := hB
            rw [ht] at hP1
            obtain ⟨hP, hD⟩ := va_join (wr := [(am_ones, .inl (km_ones, 24, .inl zm_ones)), (am_others, .inl (km_others, 24, .inl zm_others))]) (w1 := [(am, .inr (5, [.int zm_thrown, .ref am_there, .ref am_ones, .ref am_others, .ref am_xs, .ref am_ys, .int zm_many, .ref am_a, .ref am_b, .ref am_from, .ref am_to, .ref am_way, .ref am_depth, .ref am_above, .ref am_pile, .ref am_next, .ref am_leader, .ref am_turned, .ref am_piece, .ref am_numbers, .ref am_row])), (am_xs, .inl (km_xs, 10, .inl zm_xs)), (am_ys, .inl (km_ys, 10, .inl zm_ys))]) hP hD [2, 3, 4] [0, 1] rfl rfl (by decide) (by decide) hk1 hFc hP1 hD1
            obtain ⟨hp_118, hz_118⟩ := hp_118
            have hp_118 : (r_118) = p_118 := hp_118
            subst hp_118
            have hP : va_P (dC, dI) classes [(am_ones, .inl (km_ones, 24, .inl zm_ones)), (am_others, .inl (km_others, 24, .inl zm_others)), (am, .inr (5, [.int zm_thrown, .ref am_there, .ref am_ones, .ref am_others, .ref am_xs, .ref am_ys, .int zm_many, .ref am_a, .ref am_b, .ref am_from, .ref am_to, .ref am_way, .ref am_depth, .ref am_above, .ref am_pile, .ref am_next, .ref am_leader, .ref am_turned, .ref am_piece, .ref am_numbers, .ref am_row])), (am_xs, .inl (km_xs, 10, .inl zm_xs)), (am_ys, .inl (km_ys, 10, .inl zm_ys))] H := hP
            have hD : va_D A [(am_ones, .inl (km_ones, 24, .inl zm_ones)), (am_others, .inl (km_others, 24, .inl zm_others)), (am, .inr (5, [.int zm_thrown, .ref am_there, .ref am_ones, .ref am_others, .ref am_xs, .ref am_ys, .int zm_many, .ref am_a, .ref am_b, .ref am_from, .ref am_to, .ref am_way, .ref am_depth, .ref am_above, .ref am_pile, .ref am_next, .ref am_leader, .ref am_turned, .ref am_piece, .ref am_numbers, .ref am_row])), (am_xs, .inl (km_xs, 10, .inl zm_xs)), (am_ys, .inl (km_ys, 10, .inl zm_ys))] := hD
            refine lv_if_ne (tgt := 149) hx hb d_Mod_meetNow_121 rfl (fun hc_121 => ?_) (fun hc_121 => ?_)
            · skip
              have hI := hI.trans (if_neg hc_121)
              refine lv_iconst (v := 1) hx hb d_Mod_meetNow_149 (by decide) ?_
              have hP := hP.sub (ws' := [(am, .inr (5, [.int zm_thrown, .ref am_there, .ref am_ones, .ref am_others, .ref am_xs, .ref am_ys, .int zm_many, .ref am_a, .ref am_b, .ref am_from, .ref am_to, .ref am_way, .ref am_depth, .ref am_above, .ref am_pile, .ref am_next, .ref am_leader, .ref am_turned, .ref am_piece, .ref am_numbers, .ref am_row])), (am_ones, .inl (km_ones, 24, .inl zm_ones)), (am_others, .inl (km_others, 24, .inl zm_others)), (am_xs, .inl (km_xs, 10, .inl zm_xs)), (am_ys, .inl (km_ys, 10, .inl zm_ys))]) [2, 0, 1, 3, 4] rfl
              have hD := hD.sub (ws' := [(am, .inr (5, [.int zm_thrown, .ref am_there, .ref am_ones, .ref am_others, .ref am_xs, .ref am_ys, .int zm_many, .ref am_a, .ref am_b, .ref am_from, .ref am_to, .ref am_way, .ref am_depth, .ref am_above, .ref am_pile, .ref am_next, .ref am_leader, .ref am_turned, .ref am_piece, .ref am_numbers, .ref am_row])), (am_ones, .inl (km_ones, 24, .inl zm_ones)), (am_others, .inl (km_others, 24, .inl zm_others)), (am_xs, .inl (km_xs, 10, .inl zm_xs)), (am_ys, .inl (km_ys, 10, .inl zm_ys))]) [2, 0, 1, 3, 4] (by decide) rfl
              exact W.zret (v := 1) (ty := .boolean) hx hb hr (nr01 (Or.inr rfl)) (fun t ht hW => ⟨⟨1, (), rfl, ⟨(Option.some.inj hI).symm, (Or.inr rfl)⟩, by rw [ht]; exact hP, va_K.moved hW.alike hK, hD⟩, hS.F ht⟩) hS.2.2 d_Mod_meetNow_150
            · skip
              have hI := hI.trans (if_pos hc_121)
              refine lv_aload_n hx hb d_Mod_meetNow_124 rfl (lv_at hl 4 rfl) ?_
              refine lv_iload hx hb d_Mod_meetNow_125 (lv_at hl 1 rfl) ?_
              refine lv_iload hx hb d_Mod_meetNow_127 (lv_at hl 0 rfl) ?_
              refine lv_iload_n hx hb d_Mod_meetNow_129 rfl (lv_at hl 3 rfl) ?_
              obtain ⟨p_130, hg_130, hI⟩ := ob_bd hI
              have hPc := hP.sub (ws' := [(am, .inr (5, [.int zm_thrown, .ref am_there, .ref am_ones, .ref am_others, .ref am_xs, .ref am_ys, .int zm_many, .ref am_a, .ref am_b, .ref am_from, .ref am_to, .ref am_way, .ref am_depth, .ref am_above, .ref am_pile, .ref am_next, .ref am_leader, .ref am_turned, .ref am_piece, .ref am_numbers, .ref am_row])), (am_xs, .inl (km_xs, 10, .inl zm_xs)), (am_ys, .inl (km_ys, 10, .inl zm_ys))]) [2, 3, 4] rfl
              have hDc := hD.sub (ws' := [(am, .inr (5, [.int zm_thrown, .ref am_there, .ref am_ones, .ref am_others, .ref am_xs, .ref am_ys, .int zm_many, .ref am_a, .ref am_b, .ref am_from, .ref am_to, .ref am_way, .ref am_depth, .ref am_above, .ref am_pile, .ref am_next, .ref am_leader, .ref am_turned, .ref am_piece, .ref am_numbers, .ref am_row])), (am_xs, .inl (km_xs, 10, .inl zm_xs)), (am_ys, .inl (km_ys, 10, .inl zm_ys))]) [2, 3, 4] (by decide) rfl
              have hKc := hK.sub (tys' := [(km_xs, .int), (km_ys, .int)]) [2, 3] rfl
              have hFc := va_free (wc := [(am, .inr (5, [.int zm_thrown, .ref am_there, .ref am_ones, .ref am_others, .ref am_xs, .ref am_ys, .int zm_many, .ref am_a, .ref am_b, .ref am_from, .ref am_to, .ref am_way, .ref am_depth, .ref am_above, .ref am_pile, .ref am_next, .ref am_leader, .ref am_turned, .ref am_piece, .ref am_numbers, .ref am_row])), (am_xs, .inl (km_xs, 10, .inl zm_xs)), (am_ys, .inl (km_ys, 10, .inl zm_ys))]) hD hS hA [2, 3, 4] rfl
              refine va_calli (va_runV (As := [.int (zm_ones (Int32.toNatClampNeg v2)), .int (zm_others (Int32.toNatClampNeg v2)), .int (zm_ones (Int32.toNatClampNeg v1))]) (rest := []) ⟨hx, hb, hml, hown, hts⟩ (c_isOnM l dC dI H.size am am_there am_ones am_others am_xs am_ys am_a am_b am_from am_to am_way am_depth am_above am_pile am_next am_leader am_turned am_piece am_numbers am_row km_xs km_ys zm_thrown zm_many zm_xs zm_ys (zm_ones (Int32.toNatClampNeg v2)) (zm_others (Int32.toNatClampNeg v2)) (zm_ones (Int32.toNatClampNeg v1)) p_130 hg_130) (cwV 3 hts (gi4 mw_4_220 mw_4_222 mw_p_66 mw_1_6 mw_4_223) rfl rfl rfl (by decide +kernel) ⟨Nat.le_of_ble_eq_true rfl, Nat.le_of_ble_eq_true rfl⟩) ⟨fb_, va_recv (q0 := 2) (ci := 5) hK hP rfl rfl, pre_ hPc hKc hDc hN⟩ rfl rfl hl.1 rfl (lv_room (Nat.le_of_ble_eq_true rfl)) d_Mod_meetNow_130 ⟨Nat.le_of_ble_eq_true rfl, Nat.le_of_ble_eq_true rfl⟩) hS (fun q _ h => hFc q h) hFc (fun r_130 u t H locs ht hvm hp_130 hB hz1 hk1 hS => ?_)
              obtain ⟨hP1, -, hD1⟩ := hB
              rw [ht] at hP1
              obtain ⟨hP, hD⟩ := va_join (wr := [(am_ones, .inl (km_ones, 24, .inl zm_ones)), (am_others, .inl (km_others, 24, .inl zm_others))]) (w1 := [(am, .inr (5, [.int zm_thrown, .ref am_there, .ref am_ones, .ref am_others, .ref am_xs, .ref am_ys, .int zm_many, .ref am_a, .ref am_b, .ref am_from, .ref am_to, .ref am_way, .ref am_depth, .ref am_above, .ref am_pile, .ref am_next, .ref am_leader, .ref am_turned, .ref am_piece, .ref am_numbers, .ref am_row])), (am_xs, .inl (km_xs, 10, .inl zm_xs)), (am_ys, .inl (km_ys, 10, .inl zm_ys))]) hP hD [2, 3, 4] [0, 1] rfl rfl (by decide) (by decide) hk1 hFc hP1 hD1
              obtain ⟨hp_130, hz_130⟩ := hp_130
              have hp_130 : (r_130) = p_130 := hp_130
              subst hp_130
              have hP : va_P (dC, dI) classes [(am_ones, .inl (km_ones, 24, .inl zm_ones)), (am_others, .inl (km_others, 24, .inl zm_others)), (am, .inr (5, [.int zm_thrown, .ref am_there, .ref am_ones, .ref am_others, .ref am_xs, .ref am_ys, .int zm_many, .ref am_a, .ref am_b, .ref am_from, .ref am_to, .ref am_way, .ref am_depth, .ref am_above, .ref am_pile, .ref am_next, .ref am_leader, .ref am_turned, .ref am_piece, .ref am_numbers, .ref am_row])), (am_xs, .inl (km_xs, 10, .inl zm_xs)), (am_ys, .inl (km_ys, 10, .inl zm_ys))] H := hP
              have hD : va_D A [(am_ones, .inl (km_ones, 24, .inl zm_ones)), (am_others, .inl (km_others, 24, .inl zm_others)), (am, .inr (5, [.int zm_thrown, .ref am_there, .ref am_ones, .ref am_others, .ref am_xs, .ref am_ys, .int zm_many, .ref am_a, .ref am_b, .ref am_from, .ref am_to, .ref am_way, .ref am_depth, .ref am_above, .ref am_pile, .ref am_next, .ref am_leader, .ref am_turned, .ref am_piece, .ref am_numbers, .ref am_row])), (am_xs, .inl (km_xs, 10, .inl zm_xs)), (am_ys, .inl (km_ys, 10, .inl zm_ys))] := hD
              refine lv_if_ne (tgt := 149) hx hb d_Mod_meetNow_133 rfl (fun hc_133 => ?_) (fun hc_133 => ?_)
              · skip
                have hI := hI.trans (if_neg hc_133)
                refine lv_iconst (v := 1) hx hb d_Mod_meetNow_149 (by decide) ?_
                have hP := hP.sub (ws' := [(am, .inr (5, [.int zm_thrown, .ref am_there, .ref am_ones, .ref am_others, .ref am_xs, .ref am_ys, .int zm_many, .ref am_a, .ref am_b, .ref am_from, .ref am_to, .ref am_way, .ref am_depth, .ref am_above, .ref am_pile, .ref am_next, .ref am_leader, .ref am_turned, .ref am_piece, .ref am_numbers, .ref am_row])), (am_ones, .inl (km_ones, 24, .inl zm_ones)), (am_others, .inl (km_others, 24, .inl zm_others)), (am_xs, .inl (km_xs, 10, .inl zm_xs)), (am_ys, .inl (km_ys, 10, .inl zm_ys))]) [2, 0, 1, 3, 4] rfl
                have hD := hD.sub (ws' := [(am, .inr (5, [.int zm_thrown, .ref am_there, .ref am_ones, .ref am_others, .ref am_xs, .ref am_ys, .int zm_many, .ref am_a, .ref am_b, .ref am_from, .ref am_to, .ref am_way, .ref am_depth, .ref am_above, .ref am_pile, .ref am_next, .ref am_leader, .ref am_turned, .ref am_piece, .ref am_numbers, .ref am_row])), (am_ones, .inl (km_ones, 24, .inl zm_ones)), (am_others, .inl (km_others, 24, .inl zm_others)), (am_xs, .inl (km_xs, 10, .inl zm_xs)), (am_ys, .inl (km_ys, 10, .inl zm_ys))]) [2, 0, 1, 3, 4] (by decide) rfl
                exact W.zret (v := 1) (ty := .boolean) hx hb hr (nr01 (Or.inr rfl)) (fun t ht hW => ⟨⟨1, (), rfl, ⟨(Option.some.inj hI).symm, (Or.inr rfl)⟩, by rw [ht]; exact hP, va_K.moved hW.alike hK, hD⟩, hS.F ht⟩) hS.2.2 d_Mod_meetNow_150
              · skip
                have hI := hI.trans (if_pos hc_133)
                refine lv_aload_n hx hb d_Mod_meetNow_136 rfl (lv_at hl 4 rfl) ?_
                refine lv_iload hx hb d_Mod_meetNow_137 (lv_at hl 1 rfl) ?_
                refine lv_iload hx hb d_Mod_meetNow_139 (lv_at hl 0 rfl) ?_
                refine lv_iload hx hb d_Mod_meetNow_141 (lv_at hl 2 rfl) ?_
                obtain ⟨p_143, hg_143, hI⟩ := ob_bd hI
                have hPc := hP.sub (ws' := [(am, .inr (5, [.int zm_thrown, .ref am_there, .ref am_ones, .ref am_others, .ref am_xs, .ref am_ys, .int zm_many, .ref am_a, .ref am_b, .ref am_from, .ref am_to, .ref am_way, .ref am_depth, .ref am_above, .ref am_pile, .ref am_next, .ref am_leader, .ref am_turned, .ref am_piece, .ref am_numbers, .ref am_row])), (am_xs, .inl (km_xs, 10, .inl zm_xs)), (am_ys, .inl (km_ys, 10, .inl zm_ys))]) [2, 3, 4] rfl
                have hDc := hD.sub (ws' := [(am, .inr (5, [.int zm_thrown, .ref am_there, .ref am_ones, .ref am_others, .ref am_xs, .ref am_ys, .int zm_many, .ref am_a, .ref am_b, .ref am_from, .ref am_to, .ref am_way, .ref am_depth, .ref am_above, .ref am_pile, .ref am_next, .ref am_leader, .ref am_turned, .ref am_piece, .ref am_numbers, .ref am_row])), (am_xs, .inl (km_xs, 10, .inl zm_xs)), (am_ys, .inl (km_ys, 10, .inl zm_ys))]) [2, 3, 4] (by decide) rfl
                have hKc := hK.sub (tys' := [(km_xs, .int), (km_ys, .int)]) [2, 3] rfl
                have hFc := va_free (wc := [(am, .inr (5, [.int zm_thrown, .ref am_there, .ref am_ones, .ref am_others, .ref am_xs, .ref am_ys, .int zm_many, .ref am_a, .ref am_b, .ref am_from, .ref am_to, .ref am_way, .ref am_depth, .ref am_above, .ref am_pile, .ref am_next, .ref am_leader, .ref am_turned, .ref am_piece, .ref am_numbers, .ref am_row])), (am_xs, .inl (km_xs, 10, .inl zm_xs)), (am_ys, .inl (km_ys, 10, .inl zm_ys))]) hD hS hA [2, 3, 4] rfl
                refine va_calli (va_runV (As := [.int (zm_ones (Int32.toNatClampNeg v2)), .int (zm_others (Int32.toNatClampNeg v2)), .int (zm_others (Int32.toNatClampNeg v1))]) (rest := []) ⟨hx, hb, hml, hown, hts⟩ (c_isOnM l dC dI H.size am am_there am_ones am_others am_xs am_ys am_a am_b am_from am_to am_way am_depth am_above am_pile am_next am_leader am_turned am_piece am_numbers am_row km_xs km_ys zm_thrown zm_many zm_xs zm_ys (zm_ones (Int32.toNatClampNeg v2)) (zm_others (Int32.toNatClampNeg v2)) (zm_others (Int32.toNatClampNeg v1)) p_143 hg_143) (cwV 3 hts (gi4 mw_4_220 mw_4_222 mw_p_66 mw_1_6 mw_4_223) rfl rfl rfl (by decide +kernel) ⟨Nat.le_of_ble_eq_true rfl, Nat.le_of_ble_eq_true rfl⟩) ⟨fb_, va_recv (q0 := 2) (ci := 5) hK hP rfl rfl, pre_ hPc hKc hDc hN⟩ rfl rfl hl.1 rfl (lv_room (Nat.le_of_ble_eq_true rfl)) d_Mod_meetNow_143 ⟨Nat.le_of_ble_eq_true rfl, Nat.le_of_ble_eq_true rfl⟩) hS (fun q _ h => hFc q h) hFc (fun r_143 u t H locs ht hvm hp_143 hB hz1 hk1 hS => ?_)
                obtain ⟨hP1, -, hD1⟩ := hB
                rw [ht] at hP1
                obtain ⟨hP, hD⟩ := va_join (wr := [(am_ones, .inl (km_ones, 24, .inl zm_ones)), (am_others, .inl (km_others, 24, .inl zm_others))]) (w1 := [(am, .inr (5, [.int zm_thrown, .ref am_there, .ref am_ones, .ref am_others, .ref am_xs, .ref am_ys, .int zm_many, .ref am_a, .ref am_b, .ref am_from, .ref am_to, .ref am_way, .ref am_depth, .ref am_above, .ref am_pile, .ref am_next, .ref am_leader, .ref am_turned, .ref am_piece, .ref am_numbers, .ref am_row])), (am_xs, .inl (km_xs, 10, .inl zm_xs)), (am_ys, .inl (km_ys, 10, .inl zm_ys))]) hP hD [2, 3, 4] [0, 1] rfl rfl (by decide) (by decide) hk1 hFc hP1 hD1
                obtain ⟨hp_143, hz_143⟩ := hp_143
                have hp_143 : (r_143) = p_143 := hp_143
                subst hp_143
                have hP : va_P (dC, dI) classes [(am_ones, .inl (km_ones, 24, .inl zm_ones)), (am_others, .inl (km_others, 24, .inl zm_others)), (am, .inr (5, [.int zm_thrown, .ref am_there, .ref am_ones, .ref am_others, .ref am_xs, .ref am_ys, .int zm_many, .ref am_a, .ref am_b, .ref am_from, .ref am_to, .ref am_way, .ref am_depth, .ref am_above, .ref am_pile, .ref am_next, .ref am_leader, .ref am_turned, .ref am_piece, .ref am_numbers, .ref am_row])), (am_xs, .inl (km_xs, 10, .inl zm_xs)), (am_ys, .inl (km_ys, 10, .inl zm_ys))] H := hP
                have hD : va_D A [(am_ones, .inl (km_ones, 24, .inl zm_ones)), (am_others, .inl (km_others, 24, .inl zm_others)), (am, .inr (5, [.int zm_thrown, .ref am_there, .ref am_ones, .ref am_others, .ref am_xs, .ref am_ys, .int zm_many, .ref am_a, .ref am_b, .ref am_from, .ref am_to, .ref am_way, .ref am_depth, .ref am_above, .ref am_pile, .ref am_next, .ref am_leader, .ref am_turned, .ref am_piece, .ref am_numbers, .ref am_row])), (am_xs, .inl (km_xs, 10, .inl zm_xs)), (am_ys, .inl (km_ys, 10, .inl zm_ys))] := hD
                refine lv_if_eq (tgt := 151) hx hb d_Mod_meetNow_146 rfl (fun hc_146 => ?_) (fun hc_146 => ?_)
                · skip
                  have hI := hI.trans (if_pos hc_146)
                  refine lv_aload_n hx hb d_Mod_meetNow_151 rfl (lv_at hl 4 rfl) ?_
                  refine lv_iload_n hx hb d_Mod_meetNow_152 rfl (lv_at hl 3 rfl) ?_
                  refine lv_iload hx hb d_Mod_meetNow_153 (lv_at hl 2 rfl) ?_
                  refine lv_iload hx hb d_Mod_meetNow_155 (lv_at hl 1 rfl) ?_
                  obtain ⟨p_157, hg_157, hI⟩ := ob_bd hI
                  have hPc := hP.sub (ws' := [(am, .inr (5, [.int zm_thrown, .ref am_there, .ref am_ones, .ref am_others, .ref am_xs, .ref am_ys, .int zm_many, .ref am_a, .ref am_b, .ref am_from, .ref am_to, .ref am_way, .ref am_depth, .ref am_above, .ref am_pile, .ref am_next, .ref am_leader, .ref am_turned, .ref am_piece, .ref am_numbers, .ref am_row])), (am_xs, .inl (km_xs, 10, .inl zm_xs)), (am_ys, .inl (km_ys, 10, .inl zm_ys))]) [2, 3, 4] rfl
                  have hDc := hD.sub (ws' := [(am, .inr (5, [.int zm_thrown, .ref am_there, .ref am_ones, .ref am_others, .ref am_xs, .ref am_ys, .int zm_many, .ref am_a, .ref am_b, .ref am_from, .ref am_to, .ref am_way, .ref am_depth, .ref am_above, .ref am_pile, .ref am_next, .ref am_leader, .ref am_turned, .ref am_piece, .ref am_numbers, .ref am_row])), (am_xs, .inl (km_xs, 10, .inl zm_xs)), (am_ys, .inl (km_ys, 10, .inl zm_ys))]) [2, 3, 4] (by decide) rfl
                  have hKc := hK.sub (tys' := [(km_xs, .int), (km_ys, .int)]) [2, 3] rfl
                  have hFc := va_free (wc := [(am, .inr (5, [.int zm_thrown, .ref am_there, .ref am_ones, .ref am_others, .ref am_xs, .ref am_ys, .int zm_many, .ref am_a, .ref am_b, .ref am_from, .ref am_to, .ref am_way, .ref am_depth, .ref am_above, .ref am_pile, .ref am_next, .ref am_leader, .ref am_turned, .ref am_piece, .ref am_numbers, .ref am_row])), (am_xs, .inl (km_xs, 10, .inl zm_xs)), (am_ys, .inl (km_ys, 10, .inl zm_ys))]) hD hS hA [2, 3, 4] rfl
                  refine va_calli (va_runV (As := [.int (zm_ones (Int32.toNatClampNeg v1)), .int (zm_others (Int32.toNatClampNeg v1)), .int (zm_ones (Int32.toNatClampNeg v2))]) (rest := []) ⟨hx, hb, hml, hown, hts⟩ (c_turnM l dC dI H.size am am_there am_ones am_others am_xs am_ys am_a am_b am_from am_to am_way am_depth am_above am_pile am_next am_leader am_turned am_piece am_numbers am_row km_xs km_ys zm_thrown zm_many zm_xs zm_ys (zm_ones (Int32.toNatClampNeg v1)) (zm_others (Int32.toNatClampNeg v1)) (zm_ones (Int32.toNatClampNeg v2)) p_157 hg_157) (cwV 3 hts (gi4 mw_4_216 mw_4_218 mw_p_65 mw_1_6 mw_4_219) rfl rfl rfl (by decide +kernel) ⟨Nat.le_of_ble_eq_true rfl, Nat.le_of_ble_eq_true rfl⟩) ⟨fb_, va_recv (q0 := 2) (ci := 5) hK hP rfl rfl, pre_ hPc hKc hDc hN⟩ rfl rfl hl.1 rfl (lv_room (Nat.le_of_ble_eq_true rfl)) d_Mod_meetNow_157 ⟨Nat.le_of_ble_eq_true rfl, Nat.le_of_ble_eq_true rfl⟩) hS (fun q _ h => hFc q h) hFc (fun r_157 u t H locs ht hvm hp_157 hB hz1 hk1 hS => ?_)
                  obtain ⟨hP1, -, hD1⟩ := hB
                  rw [ht] at hP1
                  obtain ⟨hP, hD⟩ := va_join (wr := [(am_ones, .inl (km_ones, 24, .inl zm_ones)), (am_others, .inl (km_others, 24, .inl zm_others))]) (w1 := [(am, .inr (5, [.int zm_thrown, .ref am_there, .ref am_ones, .ref am_others, .ref am_xs, .ref am_ys, .int zm_many, .ref am_a, .ref am_b, .ref am_from, .ref am_to, .ref am_way, .ref am_depth, .ref am_above, .ref am_pile, .ref am_next, .ref am_leader, .ref am_turned, .ref am_piece, .ref am_numbers, .ref am_row])), (am_xs, .inl (km_xs, 10, .inl zm_xs)), (am_ys, .inl (km_ys, 10, .inl zm_ys))]) hP hD [2, 3, 4] [0, 1] rfl rfl (by decide) (by decide) hk1 hFc hP1 hD1
                  have hp_157 : (r_157) = p_157 := hp_157
                  subst hp_157
                  have hP : va_P (dC, dI) classes [(am_ones, .inl (km_ones, 24, .inl zm_ones)), (am_others, .inl (km_others, 24, .inl zm_others)), (am, .inr (5, [.int zm_thrown, .ref am_there, .ref am_ones, .ref am_others, .ref am_xs, .ref am_ys, .int zm_many, .ref am_a, .ref am_b, .ref am_from, .ref am_to, .ref am_way, .ref am_depth, .ref am_above, .ref am_pile, .ref am_next, .ref am_leader, .ref am_turned, .ref am_piece, .ref am_numbers, .ref am_row])), (am_xs, .inl (km_xs, 10, .inl zm_xs)), (am_ys, .inl (km_ys, 10, .inl zm_ys))] H := hP
                  have hD : va_D A [(am_ones, .inl (km_ones, 24, .inl zm_ones)), (am_others, .inl (km_others, 24, .inl zm_others)), (am, .inr (5, [.int zm_thrown, .ref am_there, .ref am_ones, .ref am_others, .ref am_xs, .ref am_ys, .int zm_many, .ref am_a, .ref am_b, .ref am_from, .ref am_to, .ref am_way, .ref am_depth, .ref am_above, .ref am_pile, .ref am_next, .ref am_leader, .ref am_turned, .ref am_piece, .ref am_numbers, .ref am_row])), (am_xs, .inl (km_xs, 10, .inl zm_xs)), (am_ys, .inl (km_ys, 10, .inl zm_ys))] := hD
                  refine lv_aload_n hx hb d_Mod_meetNow_160 rfl (lv_at hl 4 rfl) ?_
                  refine lv_iload_n hx hb d_Mod_meetNow_161 rfl (lv_at hl 3 rfl) ?_
                  refine lv_iload hx hb d_Mod_meetNow_162 (lv_at hl 2 rfl) ?_
                  refine lv_iload hx hb d_Mod_meetNow_164 (lv_at hl 0 rfl) ?_
                  obtain ⟨p_166, hg_166, hI⟩ := ob_bd hI
                  have hPc := hP.sub (ws' := [(am, .inr (5, [.int zm_thrown, .ref am_there, .ref am_ones, .ref am_others, .ref am_xs, .ref am_ys, .int zm_many, .ref am_a, .ref am_b, .ref am_from, .ref am_to, .ref am_way, .ref am_depth, .ref am_above, .ref am_pile, .ref am_next, .ref am_leader, .ref am_turned, .ref am_piece, .ref am_numbers, .ref am_row])), (am_xs, .inl (km_xs, 10, .inl zm_xs)), (am_ys, .inl (km_ys, 10, .inl zm_ys))]) [2, 3, 4] rfl
                  have hDc := hD.sub (ws' := [(am, .inr (5, [.int zm_thrown, .ref am_there, .ref am_ones, .ref am_others, .ref am_xs, .ref am_ys, .int zm_many, .ref am_a, .ref am_b, .ref am_from, .ref am_to, .ref am_way, .ref am_depth, .ref am_above, .ref am_pile, .ref am_next, .ref am_leader, .ref am_turned, .ref am_piece, .ref am_numbers, .ref am_row])), (am_xs, .inl (km_xs, 10, .inl zm_xs)), (am_ys, .inl (km_ys, 10, .inl zm_ys))]) [2, 3, 4] (by decide) rfl
                  have hKc := hK.sub (tys' := [(km_xs, .int), (km_ys, .int)]) [2, 3] rfl
                  have hFc := va_free (wc := [(am, .inr (5, [.int zm_thrown, .ref am_there, .ref am_ones, .ref am_others, .ref am_xs, .ref am_ys, .int zm_many, .ref am_a, .ref am_b, .ref am_from, .ref am_to, .ref am_way, .ref am_depth, .ref am_above, .ref am_pile, .ref am_next, .ref am_leader, .ref am_turned, .ref am_piece, .ref am_numbers, .ref am_row])), (am_xs, .inl (km_xs, 10, .inl zm_xs)), (am_ys, .inl (km_ys, 10, .inl zm_ys))]) hD hS hA [2, 3, 4] rfl
                  refine va_calli (va_runV (As := [.int (zm_ones (Int32.toNatClampNeg v1)), .int (zm_others (Int32.toNatClampNeg v1)), .int (zm_others (Int32.toNatClampNeg v2))]) (rest := [.int r_157]) ⟨hx, hb, hml, hown, hts⟩ (c_turnM l dC dI H.size am am_there am_ones am_others am_xs am_ys am_a am_b am_from am_to am_way am_depth am_above am_pile am_next am_leader am_turned am_piece am_numbers am_row km_xs km_ys zm_thrown zm_many zm_xs zm_ys (zm_ones (Int32.toNatClampNeg v1)) (zm_others (Int32.toNatClampNeg v1)) (zm_others (Int32.toNatClampNeg v2)) p_166 hg_166) (cwV 3 hts (gi4 mw_4_216 mw_4_218 mw_p_65 mw_1_6 mw_4_219) rfl rfl rfl (by decide +kernel) ⟨Nat.le_of_ble_eq_true rfl, Nat.le_of_ble_eq_true rfl⟩) ⟨fb_, va_recv (q0 := 2) (ci := 5) hK hP rfl rfl, pre_ hPc hKc hDc hN⟩ rfl rfl hl.1 rfl (lv_room (Nat.le_of_ble_eq_true rfl)) d_Mod_meetNow_166 ⟨Nat.le_of_ble_eq_true rfl, Nat.le_of_ble_eq_true rfl⟩) hS (fun q _ h => hFc q h) hFc (fun r_166 u t H locs ht hvm hp_166 hB hz1 hk1 hS => ?_)
                  obtain ⟨hP1, -, hD1⟩ := hB
                  rw [ht] at hP1
                  obtain ⟨hP, hD⟩ := va_join (wr := [(am_ones, .inl (km_ones, 24, .inl zm_ones)), (am_others, .inl (km_others, 24, .inl zm_others))]) (w1 := [(am, .inr (5, [.int zm_thrown, .ref am_there, .ref am_ones, .ref am_others, .ref am_xs, .ref am_ys, .int zm_many, .ref am_a, .ref am_b, .ref am_from, .ref am_to, .ref am_way, .ref am_depth, .ref am_above, .ref am_pile, .ref am_next, .ref am_leader, .ref am_turned, .ref am_piece, .ref am_numbers, .ref am_row])), (am_xs, .inl (km_xs, 10, .inl zm_xs)), (am_ys, .inl (km_ys, 10, .inl zm_ys))]) hP hD [2, 3, 4] [0, 1] rfl rfl (by decide) (by decide) hk1 hFc hP1 hD1
                  have hp_166 : (r_166) = p_166 := hp_166
                  subst hp_166
                  have hP : va_P (dC, dI) classes [(am_ones, .inl (km_ones, 24, .inl zm_ones)), (am_others, .inl (km_others, 24, .inl zm_others)), (am, .inr (5, [.int zm_thrown, .ref am_there, .ref am_ones, .ref am_others, .ref am_xs, .ref am_ys, .int zm_many, .ref am_a, .ref am_b, .ref am_from, .ref am_to, .ref am_way, .ref am_depth, .ref am_above, .ref am_pile, .ref am_next, .ref am_leader, .ref am_turned, .ref am_piece, .ref am_numbers, .ref am_row])), (am_xs, .inl (km_xs, 10, .inl zm_xs)), (am_ys, .inl (km_ys, 10, .inl zm_ys))] H := hP
                  have hD : va_D A [(am_ones, .inl (km_ones, 24, .inl zm_ones)), (am_others, .inl (km_others, 24, .inl zm_others)), (am, .inr (5, [.int zm_thrown, .ref am_there, .ref am_ones, .ref am_others, .ref am_xs, .ref am_ys, .int zm_many, .ref am_a, .ref am_b, .ref am_from, .ref am_to, .ref am_way, .ref am_depth, .ref am_above, .ref am_pile, .ref am_next, .ref am_leader, .ref am_turned, .ref am_piece, .ref am_numbers, .ref am_row])), (am_xs, .inl (km_xs, 10, .inl zm_xs)), (am_ys, .inl (km_ys, 10, .inl zm_ys))] := hD
                  refine lv_imul hx hb d_Mod_meetNow_169 ?_
                  refine lv_if_ge (tgt := 200) hx hb d_Mod_meetNow_170 rfl (fun hc_170 => ?_) (fun hc_170 => ?_)
                  · skip
                    have hI := hI.trans (if_pos hc_170)
                    refine lv_iconst (v := 0) hx hb d_Mod_meetNow_200 (by decide) ?_
                    have hP := hP.sub (ws' := [(am, .inr (5, [.int zm_thrown, .ref am_there, .ref am_ones, .ref am_others, .ref am_xs, .ref am_ys, .int zm_many, .ref am_a, .ref am_b, .ref am_from, .ref am_to, .ref am_way, .ref am_depth, .ref am_above, .ref am_pile, .ref am_next, .ref am_leader, .ref am_turned, .ref am_piece, .ref am_numbers, .ref am_row])), (am_ones, .inl (km_ones, 24, .inl zm_ones)), (am_others, .inl (km_others, 24, .inl zm_others)), (am_xs, .inl (km_xs, 10, .inl zm_xs)), (am_ys, .inl (km_ys, 10, .inl zm_ys))]) [2, 0, 1, 3, 4] rfl
                    have hD := hD.sub (ws' := [(am, .inr (5, [.int zm_thrown, .ref am_there, .ref am_ones, .ref am_others, .ref am_xs, .ref am_ys, .int zm_many, .ref am_a, .ref am_b, .ref am_from, .ref am_to, .ref am_way, .ref am_depth, .ref am_above, .ref am_pile, .ref am_next, .ref am_leader, .ref am_turned, .ref am_piece, .ref am_numbers, .ref am_row])), (am_ones, .inl (km_ones, 24, .inl zm_ones)), (am_others, .inl (km_others, 24, .inl zm_others)), (am_xs, .inl (km_xs, 10, .inl zm_xs)), (am_ys, .inl (km_ys, 10, .inl zm_ys))]) [2, 0, 1, 3, 4] (by decide) rfl
                    exact W.zret (v := 0) (ty := .boolean) hx hb hr (nr01 (Or.inl rfl)) (fun t ht hW => ⟨⟨0, (), rfl, ⟨(Option.some.inj hI).symm, (Or.inl rfl)⟩, by rw [ht]; exact hP, va_K.moved hW.alike hK, hD⟩, hS.F ht⟩) hS.2.2 d_Mod_meetNow_201
                  · skip
                    have hI := hI.trans (if_neg hc_170)
                    refine lv_aload_n hx hb d_Mod_meetNow_173 rfl (lv_at hl 4 rfl) ?_
                    refine lv_iload hx hb d_Mod_meetNow_174 (lv_at hl 1 rfl) ?_
                    refine lv_iload hx hb d_Mod_meetNow_176 (lv_at hl 0 rfl) ?_
                    refine lv_iload_n hx hb d_Mod_meetNow_178 rfl (lv_at hl 3 rfl) ?_
                    obtain ⟨p_179, hg_179, hI⟩ := ob_bd hI
                    have hPc := hP.sub (ws' := [(am, .inr (5, [.int zm_thrown, .ref am_there, .ref am_ones, .ref am_others, .ref am_xs, .ref am_ys, .int zm_many, .ref am_a, .ref am_b, .ref am_from, .ref am_to, .ref am_way, .ref am_depth, .ref am_above, .ref am_pile, .ref am_next, .ref am_leader, .ref am_turned, .ref am_piece, .ref am_numbers, .ref am_row])), (am_xs, .inl (km_xs, 10, .inl zm_xs)), (am_ys, .inl (km_ys, 10, .inl zm_ys))]) [2, 3, 4] rfl
                    have hDc := hD.sub (ws' := [(am, .inr (5, [.int zm_thrown, .ref am_there, .ref am_ones, .ref am_others, .ref am_xs, .ref am_ys, .int zm_many, .ref am_a, .ref am_b, .ref am_from, .ref am_to, .ref am_way, .ref am_depth, .ref am_above, .ref am_pile, .ref am_next, .ref am_leader, .ref am_turned, .ref am_piece, .ref am_numbers, .ref am_row])), (am_xs, .inl (km_xs, 10, .inl zm_xs)), (am_ys, .inl (km_ys, 10, .inl zm_ys))]) [2, 3, 4] (by decide) rfl
                    have hKc := hK.sub (tys' := [(km_xs, .int), (km_ys, .int)]) [2, 3] rfl
                    have hFc := va_free (wc := [(am, .inr (5, [.int zm_thrown, .ref am_there, .ref am_ones, .ref am_others, .ref am_xs, .ref am_ys, .int zm_many, .ref am_a, .ref am_b, .ref am_from, .ref am_to, .ref am_way, .ref am_depth, .ref am_above, .ref am_pile, .ref am_next, .ref am_leader, .ref am_turned, .ref am_piece, .ref am_numbers, .ref am_row])), (am_xs, .inl (km_xs, 10, .inl zm_xs)), (am_ys, .inl (km_ys, 10, .inl zm_ys))]) hD hS hA [2, 3, 4] rfl
                    refine va_calli (va_runV (As := [.int (zm_ones (Int32.toNatClampNeg v2)), .int (zm_others (Int32.toNatClampNeg v2)), .int (zm_ones (Int32.toNatClampNeg v1))]) (rest := []) ⟨hx, hb, hml, hown, hts⟩ (c_turnM l dC dI H.size am am_there am_ones am_others am_xs am_ys am_a am_b am_from am_to am_way am_depth am_above am_pile am_next am_leader am_turned am_piece am_numbers am_row km_xs km_ys zm_thrown zm_many zm_xs zm_ys (zm_ones (Int32.toNatClampNeg v2)) (zm_others (Int32.toNatClampNeg v2)) (zm_ones (Int32.toNatClampNeg v1)) p_179 hg_179) (cwV 3 hts (gi4 mw_4_216 mw_4_218 mw_p_65 mw_1_6 mw_4_219) rfl rfl rfl (by decide +kernel) ⟨Nat.le_of_ble_eq_true rfl, Nat.le_of_ble_eq_true rfl⟩) ⟨fb_, va_recv (q0 := 2) (ci := 5) hK hP rfl rfl, pre_ hPc hKc hDc hN⟩ rfl rfl hl.1 rfl (lv_room (Nat.le_of_ble_eq_true rfl)) d_Mod_meetNow_179 ⟨Nat.le_of_ble_eq_true rfl, Nat.le_of_ble_eq_true rfl⟩) hS (fun q _ h => hFc q h) hFc (fun r_179 u t H locs ht hvm hp_179 hB hz1 hk1 hS => ?_)
                    obtain ⟨hP1, -, hD1⟩ := hB
                    rw [ht] at hP1
                    obtain ⟨hP, hD⟩ := va_join (wr := [(am_ones, .inl (km_ones, 24, .inl zm_ones)), (am_others, .inl (km_others, 24, .inl zm_others))]) (w1 := [(am, .inr (5, [.int zm_thrown, .ref am_there, .ref am_ones, .ref am_others, .ref am_xs, .ref am_ys, .int zm_many, .ref am_a, .ref am_b, .ref am_from, .ref am_to, .ref am_way, .ref am_depth, .ref am_above, .ref am_pile, .ref am_next, .ref am_leader, .ref am_turned, .ref am_piece, .ref am_numbers, .ref am_row])), (am_xs, .inl (km_xs, 10, .inl zm_xs)), (am_ys, .inl (km_ys, 10, .inl zm_ys))]) hP hD [2, 3, 4] [0, 1] rfl rfl (by decide) (by decide) hk1 hFc hP1 hD1
                    have hp_179 : (r_179) = p_179 := hp_179
                    subst hp_179
                    have hP : va_P (dC, dI) classes [(am_ones, .inl (km_ones, 24, .inl zm_ones)), (am_others, .inl (km_others, 24, .inl zm_others)), (am, .inr (5, [.int zm_thrown, .ref am_there, .ref am_ones, .ref am_others, .ref am_xs, .ref am_ys, .int zm_many, .ref am_a, .ref am_b, .ref am_from, .ref am_to, .ref am_way, .ref am_depth, .ref am_above, .ref am_pile, .ref am_next, .ref am_leader, .ref am_turned, .ref am_piece, .ref am_numbers, .ref am_row])), (am_xs, .inl (km_xs, 10, .inl zm_xs)), (am_ys, .inl (km_ys, 10, .inl zm_ys))] H := hP
                    have hD : va_D A [(am_ones, .inl (km_ones, 24, .inl zm_ones)), (am_others, .inl (km_others, 24, .inl zm_others)), (am, .inr (5, [.int zm_thrown, .ref am_there, .ref am_ones, .ref am_others, .ref am_xs, .ref am_ys, .int zm_many, .ref am_a, .ref am_b, .ref am_from, .ref am_to, .ref am_way, .ref am_depth, .ref am_above, .ref am_pile, .ref am_next, .ref am_leader, .ref am_turned, .ref am_piece, .ref am_numbers, .ref am_row])), (am_xs, .inl (km_xs, 10, .inl zm_xs)), (am_ys, .inl (km_ys, 10, .inl zm_ys))] := hD
                    refine lv_aload_n hx hb d_Mod_meetNow_182 rfl (lv_at hl 4 rfl) ?_
                    refine lv_iload hx hb d_Mod_meetNow_183 (lv_at hl 1 rfl) ?_
                    refine lv_iload hx hb d_Mod_meetNow_185 (lv_at hl 0 rfl) ?_
                    refine lv_iload hx hb d_Mod_meetNow_187 (lv_at hl 2 rfl) ?_
                    obtain ⟨p_189, hg_189, hI⟩ := ob_bd hI
                    have hPc := hP.sub (ws' := [(am, .inr (5, [.int zm_thrown, .ref am_there, .ref am_ones, .ref am_others, .ref am_xs, .ref am_ys, .int zm_many, .ref am_a, .ref am_b, .ref am_from, .ref am_to, .ref am_way, .ref am_depth, .ref am_above, .ref am_pile, .ref am_next, .ref am_leader, .ref am_turned, .ref am_piece, .ref am_numbers, .ref am_row])), (am_xs, .inl (km_xs, 10, .inl zm_xs)), (am_ys, .inl (km_ys, 10, .inl zm_ys))]) [2, 3, 4] rfl
                    have hDc := hD.sub (ws' := [(am, .inr (5, [.int zm_thrown, .ref am_there, .ref am_ones, .ref am_others, .ref am_xs, .ref am_ys, .int zm_many, .ref am_a, .ref am_b, .ref am_from, .ref am_to, .ref am_way, .ref am_depth, .ref am_above, .ref am_pile, .ref am_next, .ref am_leader, .ref am_turned, .ref am_piece, .ref am_numbers, .ref am_row])), (am_xs, .inl (km_xs, 10, .inl zm_xs)), (am_ys, .inl (km_ys, 10, .inl zm_ys))]) [2, 3, 4] (by decide) rfl
                    have hKc := hK.sub (tys' := [(km_xs, .int), (km_ys, .int)]) [2, 3] rfl
                    have hFc := va_free (wc := [(am, .inr (5, [.int zm_thrown, .ref am_there, .ref am_ones, .ref am_others, .ref am_xs, .ref am_ys, .int zm_many, .ref am_a, .ref am_b, .ref am_from, .ref am_to, .ref am_way, .ref am_depth, .ref am_above, .ref am_pile, .ref am_next, .ref am_leader, .ref am_turned, .ref am_piece, .ref am_numbers, .ref am_row])), (am_xs, .inl (km_xs, 10, .inl zm_xs)), (am_ys, .inl (km_ys, 10, .inl zm_ys))]) hD hS hA [2, 3, 4] rfl
                    refine va_calli (va_runV (As := [.int (zm_ones (Int32.toNatClampNeg v2)), .int (zm_others (Int32.toNatClampNeg v2)), .int (zm_others (Int32.toNatClampNeg v1))]) (rest := [.int r_179]) ⟨hx, hb, hml, hown, hts⟩ (c_turnM l dC dI H.size am am_there am_ones am_others am_xs am_ys am_a am_b am_from am_to am_way am_depth am_above am_pile am_next am_leader am_turned am_piece am_numbers am_row km_xs km_ys zm_thrown zm_many zm_xs zm_ys (zm_ones (Int32.toNatClampNeg v2)) (zm_others (Int32.toNatClampNeg v2)) (zm_others (Int32.toNatClampNeg v1)) p_189 hg_189) (cwV 3 hts (gi4 mw_4_216 mw_4_218 mw_p_65 mw_1_6 mw_4_219) rfl rfl rfl (by decide +kernel) ⟨Nat.le_of_ble_eq_true rfl, Nat.le_of_ble_eq_true rfl⟩) ⟨fb_, va_recv (q0 := 2) (ci := 5) hK hP rfl rfl, pre_ hPc hKc hDc hN⟩ rfl rfl hl.1 rfl (lv_room (Nat.le_of_ble_eq_true rfl)) d_Mod_meetNow_189 ⟨Nat.le_of_ble_eq_true rfl, Nat.le_of_ble_eq_true rfl⟩) hS (fun q _ h => hFc q h) hFc (fun r_189 u t H locs ht hvm hp_189 hB hz1 hk1 hS => ?_)
                    obtain ⟨hP1, -, hD1⟩ := hB
                    rw [ht] at hP1
                    obtain ⟨hP, hD⟩ := va_join (wr := [(am_ones, .inl (km_ones, 24, .inl zm_ones)), (am_others, .inl (km_others, 24, .inl zm_others))]) (w1 := [(am, .inr (5, [.int zm_thrown, .ref am_there, .ref am_ones, .ref am_others, .ref am_xs, .ref am_ys, .int zm_many, .ref am_a, .ref am_b, .ref am_from, .ref am_to, .ref am_way, .ref am_depth, .ref am_above, .ref am_pile, .ref am_next, .ref am_leader, .ref am_turned, .ref am_piece, .ref am_numbers, .ref am_row])), (am_xs, .inl (km_xs, 10, .inl zm_xs)), (am_ys, .inl (km_ys, 10, .inl zm_ys))]) hP hD [2, 3, 4] [0, 1] rfl rfl (by decide) (by decide) hk1 hFc hP1 hD1
                    have hp_189 : (r_189) = p_189 := hp_189
                    subst hp_189
                    have hP : va_P (dC, dI) classes [(am_ones, .inl (km_ones, 24, .inl zm_ones)), (am_others, .inl (km_others, 24, .inl zm_others)), (am, .inr (5, [.int zm_thrown, .ref am_there, .ref am_ones, .ref am_others, .ref am_xs, .ref am_ys, .int zm_many, .ref am_a, .ref am_b, .ref am_from, .ref am_to, .ref am_way, .ref am_depth, .ref am_above, .ref am_pile, .ref am_next, .ref am_leader, .ref am_turned, .ref am_piece, .ref am_numbers, .ref am_row])), (am_xs, .inl (km_xs, 10, .inl zm_xs)), (am_ys, .inl (km_ys, 10, .inl zm_ys))] H := hP
                    have hD : va_D A [(am_ones, .inl (km_ones, 24, .inl zm_ones)), (am_others, .inl (km_others, 24, .inl zm_others)), (am, .inr (5, [.int zm_thrown, .ref am_there, .ref am_ones, .ref am_others, .ref am_xs, .ref am_ys, .int zm_many, .ref am_a, .ref am_b, .ref am_from, .ref am_to, .ref am_way, .ref am_depth, .ref am_above, .ref am_pile, .ref am_next, .ref am_leader, .ref am_turned, .ref am_piece, .ref am_numbers, .ref am_row])), (am_xs, .inl (km_xs, 10, .inl zm_xs)), (am_ys, .inl (km_ys, 10, .inl zm_ys))] := hD
                    refine lv_imul hx hb d_Mod_meetNow_192 ?_
                    refine lv_if_ge (tgt := 200) hx hb d_Mod_meetNow_193 rfl (fun hc_193 => ?_) (fun hc_193 => ?_)
                    · skip
                      have hI := hI.trans (if_pos hc_193)
                      refine lv_iconst (v := 0) hx hb d_Mod_meetNow_200 (by decide) ?_
                      have hP := hP.sub (ws' := [(am, .inr (5, [.int zm_thrown, .ref am_there, .ref am_ones, .ref am_others, .ref am_xs, .ref am_ys, .int zm_many, .ref am_a, .ref am_b, .ref am_from, .ref am_to, .ref am_way, .ref am_depth, .ref am_above, .ref am_pile, .ref am_next, .ref am_leader, .ref am_turned, .ref am_piece, .ref am_numbers, .ref am_row])), (am_ones, .inl (km_ones, 24, .inl zm_ones)), (am_others, .inl (km_others, 24, .inl zm_others)), (am_xs, .inl (km_xs, 10, .inl zm_xs)), (am_ys, .inl (km_ys, 10, .inl zm_ys))]) [2, 0, 1, 3, 4] rfl
                      have hD := hD.sub (ws' := [(am, .inr (5, [.int zm_thrown, .ref am_there, .ref am_ones, .ref am_others, .ref am_xs, .ref am_ys, .int zm_many, .ref am_a, .ref am_b, .ref am_from, .ref am_to, .ref am_way, .ref am_depth, .ref am_above, .ref am_pile, .ref am_next, .ref am_leader, .ref am_turned, .ref am_piece, .ref am_numbers, .ref am_row])), (am_ones, .inl (km_ones, 24, .inl zm_ones)), (am_others, .inl (km_others, 24, .inl zm_others)), (am_xs, .inl (km_xs, 10, .inl zm_xs)), (am_ys, .inl (km_ys, 10, .inl zm_ys))]) [2, 0, 1, 3, 4] (by decide) rfl
                      exact W.zret (v := 0) (ty := .boolean) hx hb hr (nr01 (Or.inl rfl)) (fun t ht hW => ⟨⟨0, (), rfl, ⟨(Option.some.inj hI).symm, (Or.inl rfl)⟩, by rw [ht]; exact hP, va_K.moved hW.alike hK, hD⟩, hS.F ht⟩) hS.2.2 d_Mod_meetNow_201
                    · skip
                      have hI := hI.trans (if_neg hc_193)
                      refine lv_iconst (v := 1) hx hb d_Mod_meetNow_196 (by decide) ?_
                      refine lv_goto (tgt := 201) hx hb d_Mod_meetNow_197 rfl ?_
                      have hP := hP.sub (ws' := [(am, .inr (5, [.int zm_thrown, .ref am_there, .ref am_ones, .ref am_others, .ref am_xs, .ref am_ys, .int zm_many, .ref am_a, .ref am_b, .ref am_from, .ref am_to, .ref am_way, .ref am_depth, .ref am_above, .ref am_pile, .ref am_next, .ref am_leader, .ref am_turned, .ref am_piece, .ref am_numbers, .ref am_row])), (am_ones, .inl (km_ones, 24, .inl zm_ones)), (am_others, .inl (km_others, 24, .inl zm_others)), (am_xs, .inl (km_xs, 10, .inl zm_xs)), (am_ys, .inl (km_ys, 10, .inl zm_ys))]) [2, 0, 1, 3, 4] rfl
                      have hD := hD.sub (ws' := [(am, .inr (5, [.int zm_thrown, .ref am_there, .ref am_ones, .ref am_others, .ref am_xs, .ref am_ys, .int zm_many, .ref am_a, .ref am_b, .ref am_from, .ref am_to, .ref am_way, .ref am_depth, .ref am_above, .ref am_pile, .ref am_next, .ref am_leader, .ref am_turned, .ref am_piece, .ref am_numbers, .ref am_row])), (am_ones, .inl (km_ones, 24, .inl zm_ones)), (am_others, .inl (km_others, 24, .inl zm_others)), (am_xs, .inl (km_xs, 10, .inl zm_xs)), (am_ys, .inl (km_ys, 10, .inl zm_ys))]) [2, 0, 1, 3, 4] (by decide) rfl
                      exact W.zret (v := 1) (ty := .boolean) hx hb hr (nr01 (Or.inr rfl)) (fun t ht hW => ⟨⟨1, (), rfl, ⟨(Option.some.inj hI).symm, (Or.inr rfl)⟩, by rw [ht]; exact hP, va_K.moved hW.alike hK, hD⟩, hS.F ht⟩) hS.2.2 d_Mod_meetNow_201
                · skip
                  have hI := hI.trans (if_neg hc_146)
                  refine lv_iconst (v := 1) hx hb d_Mod_meetNow_149 (by decide) ?_
                  have hP := hP.sub (ws' := [(am, .inr (5, [.int zm_thrown, .ref am_there, .ref am_ones, .ref am_others, .ref am_xs, .ref am_ys, .int zm_many, .ref am_a, .ref am_b, .ref am_from, .ref am_to, .ref am_way, .ref am_depth, .ref am_above, .ref am_pile, .ref am_next, .ref am_leader, .ref am_turned, .ref am_piece, .ref am_numbers, .ref am_row])), (am_ones, .inl (km_ones, 24, .inl zm_ones)), (am_others, .inl (km_others, 24, .inl zm_others)), (am_xs, .inl (km_xs, 10, .inl zm_xs)), (am_ys, .inl (km_ys, 10, .inl zm_ys))]) [2, 0, 1, 3, 4] rfl
                  have hD := hD.sub (ws' := [(am, .inr (5, [.int zm_thrown, .ref am_there, .ref am_ones, .ref am_others, .ref am_xs, .ref am_ys, .int zm_many, .ref am_a, .ref am_b, .ref am_from, .ref am_to, .ref am_way, .ref am_depth, .ref am_above, .ref am_pile, .ref am_next, .ref am_leader, .ref am_turned, .ref am_piece, .ref am_numbers, .ref am_row])), (am_ones, .inl (km_ones, 24, .inl zm_ones)), (am_others, .inl (km_others, 24, .inl zm_others)), (am_xs, .inl (km_xs, 10, .inl zm_xs)), (am_ys, .inl (km_ys, 10, .inl zm_ys))]) [2, 0, 1, 3, 4] (by decide) rfl
                  exact W.zret (v := 1) (ty := .boolean) hx hb hr (nr01 (Or.inr rfl)) (fun t ht hW => ⟨⟨1, (), rfl, ⟨(Option.some.inj hI).symm, (Or.inr rfl)⟩, by rw [ht]; exact hP, va_K.moved hW.alike hK, hD⟩, hS.F ht⟩) hS.2.2 d_Mod_meetNow_150
        · skip
          have hI := hI.trans (if_pos hc_75)
          refine lv_aload_n hx hb d_Mod_meetNow_78 rfl (lv_at hl 4 rfl) ?_
          refine lv_iload hx hb d_Mod_meetNow_79 (lv_at hl 2 rfl) ?_
          refine lv_iload_n hx hb d_Mod_meetNow_81 rfl (lv_at hl 3 rfl) ?_
          refine lv_iload hx hb d_Mod_meetNow_82 (lv_at hl 2 rfl) ?_
          refine lv_iload hx hb d_Mod_meetNow_84 (lv_at hl 1 rfl) ?_
          obtain ⟨K_j96_86, hK_j96_86⟩ : ∃ K : Int32 → Option (Int32), K = (fun (j_96_86 : Int32) => ((F_meetBehindM zm_xs zm_ys (zm_others (Int32.toNatClampNeg v1)) (zm_ones (Int32.toNatClampNeg v1)) j_96_86).bind (fun p_96 => some (p_96)))) := ⟨_, rfl⟩
          have J_96_86 : ∀ (s0_96_86 : Int32) (H : Heap) (locs : List Loc) (ls : Array Slot), some R = (K_j96_86 s0_96_86) → va_P (dC, dI) classes [(am, .inr (5, [.int zm_thrown, .ref am_there, .ref am_ones, .ref am_others, .ref am_xs, .ref am_ys, .int zm_many, .ref am_a, .ref am_b, .ref am_from, .ref am_to, .ref am_way, .ref am_depth, .ref am_above, .ref am_pile, .ref am_next, .ref am_leader, .ref am_turned, .ref am_piece, .ref am_numbers, .ref am_row])), (am_ones, .inl (km_ones, 24, .inl zm_ones)), (am_others, .inl (km_others, 24, .inl zm_others)), (am_xs, .inl (km_xs, 10, .inl zm_xs)), (am_ys, .inl (km_ys, 10, .inl zm_ys))] H → va_D A [(am, .inr (5, [.int zm_thrown, .ref am_there, .ref am_ones, .ref am_others, .ref am_xs, .ref am_ys, .int zm_many, .ref am_a, .ref am_b, .ref am_from, .ref am_to, .ref am_way, .ref am_depth, .ref am_above, .ref am_pile, .ref am_next, .ref am_leader, .ref am_turned, .ref am_piece, .ref am_numbers, .ref am_row])), (am_ones, .inl (km_ones, 24, .inl zm_ones)), (am_others, .inl (km_others, 24, .inl zm_others)), (am_xs, .inl (km_xs, 10, .inl zm_xs)), (am_ys, .inl (km_ys, 10, .inl zm_ys))] → va_S A s.heap H locs → lv_has ls 7 [(0, .ref am), (1, .int v1), (2, .int v2), (3, .int (zm_ones (Int32.toNatClampNeg v1))), (4, .int (zm_others (Int32.toNatClampNeg v1))), (5, .int (zm_ones (Int32.toNatClampNeg v2))), (6, .int (zm_others (Int32.toNatClampNeg v2)))] → W p l e (headSpec w_Mod_meetNow ({ frames := 2, cells := 0, slots := 0, locals := 49 })).room s m args below meth c H locs 0 0 (MQ below (va_Qi (fun (r : Int32) (u : Unit) => (r = R) ∧ z01 r) (fun u t => End_ dC dI A [(km_ones, .int), (km_others, .int), (km_xs, .int), (km_ys, .int)] [(am, .inr (5, [.int zm_thrown, .ref am_there, .ref am_ones, .ref am_others, .ref am_xs, .ref am_ys, .int zm_many, .ref am_a, .ref am_b, .ref am_from, .ref am_to, .ref am_way, .ref am_depth, .ref am_above, .ref am_pile, .ref am_next, .ref am_leader, .ref am_turned, .ref am_piece, .ref am_numbers, .ref am_row])), (am_ones, .inl (km_ones, 24, .inl zm_ones)), (am_others, .inl (km_others, 24, .inl zm_others)), (am_xs, .inl (km_xs, 10, .inl zm_xs)), (am_ys, .inl (km_ys, 10, .inl zm_ys))] t) A) args s 0 0 A) (F0 m 96 ls [.int s0_96_86, .int (zm_ones (Int32.toNatClampNeg v1)), .int (zm_others (Int32.toNatClampNeg v1)), .ref am]) := by
            intro s0_96_86 H locs ls hI hP hD hS hl
            rw [hK_j96_86] at hI
            obtain ⟨p_96, hg_96, hI⟩ := ob_bd hI
            have hPc := hP.sub (ws' := [(am, .inr (5, [.int zm_thrown, .ref am_there, .ref am_ones, .ref am_others, .ref am_xs, .ref am_ys, .int zm_many, .ref am_a, .ref am_b, .ref am_from, .ref am_to, .ref am_way, .ref am_depth, .ref am_above, .ref am_pile, .ref am_next, .ref am_leader, .ref am_turned, .ref am_piece, .ref am_numbers, .ref am_row])), (am_xs, .inl (km_xs, 10, .inl zm_xs)), (am_ys, .inl (km_ys, 10, .inl zm_ys))]) [0, 3, 4] rfl
            have hDc := hD.sub (ws' := [(am, .inr (5, [.int zm_thrown, .ref am_there, .ref am_ones, .ref am_others, .ref am_xs, .ref am_ys, .int zm_many, .ref am_a, .ref am_b, .ref am_from, .ref am_to, .ref am_way, .ref am_depth, .ref am_above, .ref am_pile, .ref am_next, .ref am_leader, .ref am_turned, .ref am_piece, .ref am_numbers, .ref am_row])), (am_xs, .inl (km_xs, 10, .inl zm_xs)), (am_ys, .inl (km_ys, 10, .inl zm_ys))]) [0, 3, 4] (by decide) rfl
            have hKc := hK.sub (tys' := [(km_xs, .int), (km_ys, .int)]) [2, 3] rfl
            have hFc := va_free (wc := [(am, .inr (5, [.int zm_thrown, .ref am_there, .ref am_ones, .ref am_others, .ref am_xs, .ref am_ys, .int zm_many, .ref am_a, .ref am_b, .ref am_from, .ref am_to, .ref am_way, .ref am_depth, .ref am_above, .ref am_pile, .ref am_next, .ref am_leader, .ref am_turned, .ref am_piece, .ref am_numbers, .ref am_row])), (am_xs, .inl (km_xs, 10, .inl zm_xs)), (am_ys, .inl (km_ys, 10, .inl zm_ys))]) hD hS hA [0, 3, 4] rfl
            refine va_calli (va_runV (As := [.int (zm_others (Int32.toNatClampNeg v1)), .int (zm_ones (Int32.toNatClampNeg v1)), .int s0_96_86]) (rest := []) ⟨hx, hb, hml, hown, hts⟩ (c_meetBehindM l dC dI H.size am am_there am_ones am_others am_xs am_ys am_a am_b am_from am_to am_way am_depth am_above am_pile am_next am_leader am_turned am_piece am_numbers am_row km_xs km_ys zm_thrown zm_many zm_xs zm_ys (zm_others (Int32.toNatClampNeg v1)) (zm_ones (Int32.toNatClampNeg v1)) s0_96_86 p_96 hg_96) (cwV 3 hts (gi4 mw_4_212 mw_4_214 mw_p_64 mw_1_6 mw_4_215) rfl rfl rfl (by decide +kernel) ⟨Nat.le_of_ble_eq_true rfl, Nat.le_of_ble_eq_true rfl⟩) ⟨fb_, va_recv (q0 := 0) (ci := 5) hK hP rfl rfl, pre_ hPc hKc hDc hN⟩ rfl rfl hl.1 rfl (lv_room (Nat.le_of_ble_eq_true rfl)) d_Mod_meetNow_96 ⟨Nat.le_of_ble_eq_true rfl, Nat.le_of_ble_eq_true rfl⟩) hS (fun q _ h => hFc q h) hFc (fun r_96 u t H locs ht hvm hp_96 hB hz1 hk1 hS => ?_)
            obtain ⟨hP1, -, hD1⟩ := hB
            rw [ht] at hP1
            obtain ⟨hP, hD⟩ := va_join (wr := [(am_ones, .inl (km_ones, 24, .inl zm_ones)), (am_others, .inl (km_others, 24, .inl zm_others))]) (w1 := [(am, .inr (5, [.int zm_thrown, .ref am_there, .ref am_ones, .ref am_others, .ref am_xs, .ref am_ys, .int zm_many, .ref am_a, .ref am_b, .ref am_from, .ref am_to, .ref am_way, .ref am_depth, .ref am_above, .ref am_pile, .ref am_next, .ref am_leader, .ref am_turned, .ref am_piece, .ref am_numbers, .ref am_row])), (am_xs, .inl (km_xs, 10, .inl zm_xs)), (am_ys, .inl (km_ys, 10, .inl zm_ys))]) hP hD [0, 3, 4] [1, 2] rfl rfl (by decide) (by decide) hk1 hFc hP1 hD1
            obtain ⟨hp_96, hz_96⟩ := hp_96
            have hp_96 : (r_96) = p_96 := hp_96
            subst hp_96
            have hP : va_P (dC, dI) classes [(am_ones, .inl (km_ones, 24, .inl zm_ones)), (am_others, .inl (km_others, 24, .inl zm_others)), (am, .inr (5, [.int zm_thrown, .ref am_there, .ref am_ones, .ref am_others, .ref am_xs, .ref am_ys, .int zm_many, .ref am_a, .ref am_b, .ref am_from, .ref am_to, .ref am_way, .ref am_depth, .ref am_above, .ref am_pile, .ref am_next, .ref am_leader, .ref am_turned, .ref am_piece, .ref am_numbers, .ref am_row])), (am_xs, .inl (km_xs, 10, .inl zm_xs)), (am_ys, .inl (km_ys, 10, .inl zm_ys))] H := hP
            have hD : va_D A [(am_ones, .inl (km_ones, 24, .inl zm_ones)), (am_others, .inl (km_others, 24, .inl zm_others)), (am, .inr (5, [.int zm_thrown, .ref am_there, .ref am_ones, .ref am_others, .ref am_xs, .ref am_ys, .int zm_many, .ref am_a, .ref am_b, .ref am_from, .ref am_to, .ref am_way, .ref am_depth, .ref am_above, .ref am_pile, .ref am_next, .ref am_leader, .ref am_turned, .ref am_piece, .ref am_numbers, .ref am_row])), (am_xs, .inl (km_xs, 10, .inl zm_xs)), (am_ys, .inl (km_ys, 10, .inl zm_ys))] := hD
            have hP := hP.sub (ws' := [(am, .inr (5, [.int zm_thrown, .ref am_there, .ref am_ones, .ref am_others, .ref am_xs, .ref am_ys, .int zm_many, .ref am_a, .ref am_b, .ref am_from, .ref am_to, .ref am_way, .ref am_depth, .ref am_above, .ref am_pile, .ref am_next, .ref am_leader, .ref am_turned, .ref am_piece, .ref am_numbers, .ref am_row])), (am_ones, .inl (km_ones, 24, .inl zm_ones)), (am_others, .inl (km_others, 24, .inl zm_others)), (am_xs, .inl (km_xs, 10, .inl zm_xs)), (am_ys, .inl (km_ys, 10, .inl zm_ys))]) [2, 0, 1, 3, 4] rfl
            have hD := hD.sub (ws' := [(am, .inr (5, [.int zm_thrown, .ref am_there, .ref am_ones, .ref am_others, .ref am_xs, .ref am_ys, .int zm_many, .ref am_a, .ref am_b, .ref am_from, .ref am_to, .ref am_way, .ref am_depth, .ref am_above, .ref am_pile, .ref am_next, .ref am_leader, .ref am_turned, .ref am_piece, .ref am_numbers, .ref am_row])), (am_ones, .inl (km_ones, 24, .inl zm_ones)), (am_others, .inl (km_others, 24, .inl zm_others)), (am_xs, .inl (km_xs, 10, .inl zm_xs)), (am_ys, .inl (km_ys, 10, .inl zm_ys))]) [2, 0, 1, 3, 4] (by decide) rfl
            exact W.zret (v := r_96) (ty := .boolean) hx hb hr (nr01 hz_96) (fun t ht hW => ⟨⟨r_96, (), rfl, ⟨(Option.some.inj hI).symm, hz_96⟩, by rw [ht]; exact hP, va_K.moved hW.alike hK, hD⟩, hS.F ht⟩) hS.2.2 d_Mod_meetNow_99
          have hI : some R = (K_j96_86 (if (zm_others (Int32.toNatClampNeg v1)) = (zm_ones (Int32.toNatClampNeg v2)) then (zm_others (Int32.toNatClampNeg v2)) else (zm_ones (Int32.toNatClampNeg v2)))) := by rw [hK_j96_86]; exact hI
          refine lv_icmp_ne (tgt := 94) hx hb d_Mod_meetNow_86 rfl (fun hc_86 => ?_) (fun hc_86 => ?_)
          · skip
            have hI := ob_elC (C := fun y_ => K_j96_86 y_) hc_86 hI
            refine lv_iload hx hb d_Mod_meetNow_94 (lv_at hl 1 rfl) ?_
            have hl := lv_sub hl [4, 5, 6, 3, 2, 1, 0] rfl
            exact J_96_86 _ _ _ _ hI hP hD hS hl
          · skip
            have hI := ob_ifC (C := fun y_ => K_j96_86 y_) hc_86 hI
            refine lv_iload hx hb d_Mod_meetNow_89 (lv_at hl 0 rfl) ?_
            refine lv_goto (tgt := 96) hx hb d_Mod_meetNow_91 rfl ?_
            have hl := lv_sub hl [4, 5, 6, 3, 2, 1, 0] rfl
            exact J_96_86 _ _ _ _ hI hP hD hS hl
    · skip
      have hI := hI.trans (if_pos hc_40)
      refine lv_aload_n hx hb d_Mod_meetNow_43 rfl (lv_at hl 4 rfl) ?_
      refine lv_iload_n hx hb d_Mod_meetNow_44 rfl (lv_at hl 3 rfl) ?_
      refine lv_iload hx hb d_Mod_meetNow_45 (lv_at hl 2 rfl) ?_
      refine lv_iload_n hx hb d_Mod_meetNow_47 rfl (lv_at hl 3 rfl) ?_
      refine lv_iload hx hb d_Mod_meetNow_48 (lv_at hl 1 rfl) ?_
      obtain ⟨K_j60_50, hK_j60_50⟩ : ∃ K : Int32 → Option (Int32), K = (fun (j_60_50 : Int32) => ((F_meetBehindM zm_xs zm_ys (zm_ones (Int32.toNatClampNeg v1)) (zm_others (Int32.toNatClampNeg v1)) j_60_50).bind (fun p_60 => some (p_60)))) := ⟨_, rfl⟩
      have J_60_50 : ∀ (s0_60_50 : Int32) (H : Heap) (locs : List Loc) (ls : Array Slot), some R = (K_j60_50 s0_60_50) → va_P (dC, dI) classes [(am, .inr (5, [.int zm_thrown, .ref am_there, .ref am_ones, .ref am_others, .ref am_xs, .ref am_ys, .int zm_many, .ref am_a, .ref am_b, .ref am_from, .ref am_to, .ref am_way, .ref am_depth, .ref am_above, .ref am_pile, .ref am_next, .ref am_leader, .ref am_turned, .ref am_piece, .ref am_numbers, .ref am_row])), (am_ones, .inl (km_ones, 24, .inl zm_ones)), (am_others, .inl (km_others, 24, .inl zm_others)), (am_xs, .inl (km_xs, 10, .inl zm_xs)), (am_ys, .inl (km_ys, 10, .inl zm_ys))] H → va_D A [(am, .inr (5, [.int zm_thrown, .ref am_there, .ref am_ones, .ref am_others, .ref am_xs, .ref am_ys, .int zm_many, .ref am_a, .ref am_b, .ref am_from, .ref am_to, .ref am_way, .ref am_depth, .ref am_above, .ref am_pile, .ref am_next, .ref am_leader, .ref am_turned, .ref am_piece, .ref am_numbers, .ref am_row])), (am_ones, .inl (km_ones, 24, .inl zm_ones)), (am_others, .inl (km_others, 24, .inl zm_others)), (am_xs, .inl (km_xs, 10, .inl zm_xs)), (am_ys, .inl (km_ys, 10, .inl zm_ys))] → va_S A s.heap H locs → lv_has ls 7 [(0, .ref am), (1, .int v1), (2, .int v2), (3, .int (zm_ones (Int32.toNatClampNeg v1))), (4, .int (zm_others (Int32.toNatClampNeg v1))), (5, .int (zm_ones (Int32.toNatClampNeg v2))), (6, .int (zm_others (Int32.toNatClampNeg v2)))] → W p l e (headSpec w_Mod_meetNow ({ frames := 2, cells := 0, slots := 0, locals := 49 })).room s m args below meth c H locs 0 0 (MQ below (va_Qi (fun (r : Int32) (u : Unit) => (r = R) ∧ z01 r) (fun u t => End_ dC dI A [(km_ones, .int), (km_others, .int), (km_xs, .int), (km_ys, .int)] [(am, .inr (5, [.int zm_thrown, .ref am_there, .ref am_ones, .ref am_others, .ref am_xs, .ref am_ys, .int zm_many, .ref am_a, .ref am_b, .ref am_from, .ref am_to, .ref am_way, .ref am_depth, .ref am_above, .ref am_pile, .ref am_next, .ref am_leader, .ref am_turned, .ref am_piece, .ref am_numbers, .ref am_row])), (am_ones, .inl (km_ones, 24, .inl zm_ones)), (am_others, .inl (km_others, 24, .inl zm_others)), (am_xs, .inl (km_xs, 10, .inl zm_xs)), (am_ys, .inl (km_ys, 10, .inl zm_ys))] t) A) args s 0 0 A) (F0 m 60 ls [.int s0_60_50, .int (zm_others (Int32.toNatClampNeg v1)), .int (zm_ones (Int32.toNatClampNeg v1)), .ref am]) := by
        intro s0_60_50 H locs ls hI hP hD hS hl
        rw [hK_j60_50] at hI
        obtain ⟨p_60, hg_60, hI⟩ := ob_bd hI
        have hPc := hP.sub (ws' := [(am, .inr (5, [.int zm_thrown, .ref am_there, .ref am_ones, .ref am_others, .ref am_xs, .ref am_ys, .int zm_many, .ref am_a, .ref am_b, .ref am_from, .ref am_to, .ref am_way, .ref am_depth, .ref am_above, .ref am_pile, .ref am_next, .ref am_leader, .ref am_turned, .ref am_piece, .ref am_numbers, .ref am_row])), (am_xs, .inl (km_xs, 10, .inl zm_xs)), (am_ys, .inl (km_ys, 10, .inl zm_ys))]) [0, 3, 4] rfl
        have hDc := hD.sub (ws' := [(am, .inr (5, [.int zm_thrown, .ref am_there, .ref am_ones, .ref am_others, .ref am_xs, .ref am_ys, .int zm_many, .ref am_a, .ref am_b, .ref am_from, .ref am_to, .ref am_way, .ref am_depth, .ref am_above, .ref am_pile, .ref am_next, .ref am_leader, .ref am_turned, .ref am_piece, .ref am_numbers, .ref am_row])), (am_xs, .inl (km_xs, 10, .inl zm_xs)), (am_ys, .inl (km_ys, 10, .inl zm_ys))]) [0, 3, 4] (by decide) rfl
        have hKc := hK.sub (tys' := [(km_xs, .int), (km_ys, .int)]) [2, 3] rfl
        have hFc := va_free (wc := [(am, .inr (5, [.int zm_thrown, .ref am_there, .ref am_ones, .ref am_others, .ref am_xs, .ref am_ys, .int zm_many, .ref am_a, .ref am_b, .ref am_from, .ref am_to, .ref am_way, .ref am_depth, .ref am_above, .ref am_pile, .ref am_next, .ref am_leader, .ref am_turned, .ref am_piece, .ref am_numbers, .ref am_row])), (am_xs, .inl (km_xs, 10, .inl zm_xs)), (am_ys, .inl (km_ys, 10, .inl zm_ys))]) hD hS hA [0, 3, 4] rfl
        refine va_calli (va_runV (As := [.int (zm_ones (Int32.toNatClampNeg v1)), .int (zm_others (Int32.toNatClampNeg v1)), .int s0_60_50]) (rest := []) ⟨hx, hb, hml, hown, hts⟩ (c_meetBehindM l dC dI H.size am am_there am_ones am_others am_xs am_ys am_a am_b am_from am_to am_way am_depth am_above am_pile am_next am_leader am_turned am_piece am_numbers am_row km_xs km_ys zm_thrown zm_many zm_xs zm_ys (zm_ones (Int32.toNatClampNeg v1)) (zm_others (Int32.toNatClampNeg v1)) s0_60_50 p_60 hg_60) (cwV 3 hts (gi4 mw_4_212 mw_4_214 mw_p_64 mw_1_6 mw_4_215) rfl rfl rfl (by decide +kernel) ⟨Nat.le_of_ble_eq_true rfl, Nat.le_of_ble_eq_true rfl⟩) ⟨fb_, va_recv (q0 := 0) (ci := 5) hK hP rfl rfl, pre_ hPc hKc hDc hN⟩ rfl rfl hl.1 rfl (lv_room (Nat.le_of_ble_eq_true rfl)) d_Mod_meetNow_60 ⟨Nat.le_of_ble_eq_true rfl, Nat.le_of_ble_eq_true rfl⟩) hS (fun q _ h => hFc q h) hFc (fun r_60 u t H locs ht hvm hp_60 hB hz1 hk1 hS => ?_)
        obtain ⟨hP1, -, hD1⟩ := hB
        rw [ht] at hP1
        obtain ⟨hP, hD⟩ := va_join (wr := [(am_ones, .inl (km_ones, 24, .inl zm_ones)), (am_others, .inl (km_others, 24, .inl zm_others))]) (w1 := [(am, .inr (5, [.int zm_thrown, .ref am_there, .ref am_ones, .ref am_others, .ref am_xs, .ref am_ys, .int zm_many, .ref am_a, .ref am_b, .ref am_from, .ref am_to, .ref am_way, .ref am_depth, .ref am_above, .ref am_pile, .ref am_next, .ref am_leader, .ref am_turned, .ref am_piece, .ref am_numbers, .ref am_row])), (am_xs, .inl (km_xs, 10, .inl zm_xs)), (am_ys, .inl (km_ys, 10, .inl zm_ys))]) hP hD [0, 3, 4] [1, 2] rfl rfl (by decide) (by decide) hk1 hFc hP1 hD1
        obtain ⟨hp_60, hz_60⟩ := hp_60
        have hp_60 : (r_60) = p_60 := hp_60
        subst hp_60
        have hP : va_P (dC, dI) classes [(am_ones, .inl (km_ones, 24, .inl zm_ones)), (am_others, .inl (km_others, 24, .inl zm_others)), (am, .inr (5, [.int zm_thrown, .ref am_there, .ref am_ones, .ref am_others, .ref am_xs, .ref am_ys, .int zm_many, .ref am_a, .ref am_b, .ref am_from, .ref am_to, .ref am_way, .ref am_depth, .ref am_above, .ref am_pile, .ref am_next, .ref am_leader, .ref am_turned, .ref am_piece, .ref am_numbers, .ref am_row])), (am_xs, .inl (km_xs, 10, .inl zm_xs)), (am_ys, .inl (km_ys, 10, .inl zm_ys))] H := hP
        have hD : va_D A [(am_ones, .inl (km_ones, 24, .inl zm_ones)), (am_others, .inl (km_others, 24, .inl zm_others)), (am, .inr (5, [.int zm_thrown, .ref am_there, .ref am_ones, .ref am_others, .ref am_xs, .ref am_ys, .int zm_many, .ref am_a, .ref am_b, .ref am_from, .ref am_to, .ref am_way, .ref am_depth, .ref am_above, .ref am_pile, .ref am_next, .ref am_leader, .ref am_turned, .ref am_piece, .ref am_numbers, .ref am_row])), (am_xs, .inl (km_xs, 10, .inl zm_xs)), (am_ys, .inl (km_ys, 10, .inl zm_ys))] := hD
        have hP := hP.sub (ws' := [(am, .inr (5, [.int zm_thrown, .ref am_there, .ref am_ones, .ref am_others, .ref am_xs, .ref am_ys, .int zm_many, .ref am_a, .ref am_b, .ref am_from, .ref am_to, .ref am_way, .ref am_depth, .ref am_above, .ref am_pile, .ref am_next, .ref am_leader, .ref am_turned, .ref am_piece, .ref am_numbers, .ref am_row])), (am_ones, .inl (km_ones, 24, .inl zm_ones)), (am_others, .inl (km_others, 24, .inl zm_others)), (am_xs, .inl (km_xs, 10, .inl zm_xs)), (am_ys, .inl (km_ys, 10, .inl zm_ys))]) [2, 0, 1, 3, 4] rfl
        have hD := hD.sub (ws' := [(am, .inr (5, [.int zm_thrown, .ref am_there, .ref am_ones, .ref am_others, .ref am_xs, .ref am_ys, .int zm_many, .ref am_a, .ref am_b, .ref am_from, .ref am_to, .ref am_way, .ref am_depth, .ref am_above, .ref am_pile, .ref am_next, .ref am_leader, .ref am_turned, .ref am_piece, .ref am_numbers, .ref am_row])), (am_ones, .inl (km_ones, 24, .inl zm_ones)), (am_others, .inl (km_others, 24, .inl zm_others)), (am_xs, .inl (km_xs, 10, .inl zm_xs)), (am_ys, .inl (km_ys, 10, .inl zm_ys))]) [2, 0, 1, 3, 4] (by decide) rfl
        exact W.zret (v := r_60) (ty := .boolean) hx hb hr (nr01 hz_60) (fun t ht hW => ⟨⟨r_60, (), rfl, ⟨(Option.some.inj hI).symm, hz_60⟩, by rw [ht]; exact hP, va_K.moved hW.alike hK, hD⟩, hS.F ht⟩) hS.2.2 d_Mod_meetNow_63
      have hI : some R = (K_j60_50 (if (zm_ones (Int32.toNatClampNeg v1)) = (zm_ones (Int32.toNatClampNeg v2)) then (zm_others (Int32.toNatClampNeg v2)) else (zm_ones (Int32.toNatClampNeg v2)))) := by rw [hK_j60_50]; exact hI
      refine lv_icmp_ne (tgt := 58) hx hb d_Mod_meetNow_50 rfl (fun hc_50 => ?_) (fun hc_50 => ?_)
      · skip
        have hI := ob_elC (C := fun y_ => K_j60_50 y_) hc_50 hI
        refine lv_iload hx hb d_Mod_meetNow_58 (lv_at hl 1 rfl) ?_
        have hl := lv_sub hl [4, 5, 6, 3, 2, 1, 0] rfl
        exact J_60_50 _ _ _ _ hI hP hD hS hl
      · skip
        have hI := ob_ifC (C := fun y_ => K_j60_50 y_) hc_50 hI
        refine lv_iload hx hb d_Mod_meetNow_53 (lv_at hl 0 rfl) ?_
        refine lv_goto (tgt := 60) hx hb d_Mod_meetNow_55 rfl ?_
        have hl := lv_sub hl [4, 5, 6, 3, 2, 1, 0] rfl
        exact J_60_50 _ _ _ _ hI hP hD hS hl
set_option maxHeartbeats 4000000 in
set_option maxRecDepth 100000 in
theorem c_meetingsM (l : Launch) (dC : Nat → ClassId) (dI : Nat → Nat → Nat) (sz : Nat) (am am_there am_ones am_others am_xs am_ys am_a am_b am_from am_to am_way am_depth am_above am_pile am_next am_leader am_turned am_piece am_numbers am_row : Nat) (km_ones km_others km_xs km_ys : ClassId) (zm_thrown : Int32) (zm_many : Int32) (zm_ones : Nat → Int32) (zm_others : Nat → Int32) (zm_xs : Nat → Int32) (zm_ys : Nat → Int32) (R : Int32) (hR : F_meetingsM zm_ones zm_others zm_xs zm_ys = some R) : Met l y_Mod_meetings w_Mod_meetings ({ frames := 3, cells := 0, slots := 0, locals := 75 }) (Pre_ dC dI sz [.ref am] [(am, .inr (5, [.int zm_thrown, .ref am_there, .ref am_ones, .ref am_others, .ref am_xs, .ref am_ys, .int zm_many, .ref am_a, .ref am_b, .ref am_from, .ref am_to, .ref am_way, .ref am_depth, .ref am_above, .ref am_pile, .ref am_next, .ref am_leader, .ref am_turned, .ref am_piece, .ref am_numbers, .ref am_row])), (am_ones, .inl (km_ones, 24, .inl zm_ones)), (am_others, .inl (km_others, 24, .inl zm_others)), (am_xs, .inl (km_xs, 10, .inl zm_xs)), (am_ys, .inl (km_ys, 10, .inl zm_ys))] [(km_ones, .int), (km_others, .int), (km_xs, .int), (km_ys, .int)]) (va_Qi (fun (r : Int32) (u : Unit) => r = R) (fun u t => End_ dC dI (va_A [(am, .inr (5, [.int zm_thrown, .ref am_there, .ref am_ones, .ref am_others, .ref am_xs, .ref am_ys, .int zm_many, .ref am_a, .ref am_b, .ref am_from, .ref am_to, .ref am_way, .ref am_depth, .ref am_above, .ref am_pile, .ref am_next, .ref am_leader, .ref am_turned, .ref am_piece, .ref am_numbers, .ref am_row])), (am_ones, .inl (km_ones, 24, .inl zm_ones)), (am_others, .inl (km_others, 24, .inl zm_others)), (am_xs, .inl (km_xs, 10, .inl zm_xs)), (am_ys, .inl (km_ys, 10, .inl zm_ys))] sz) [(km_ones, .int), (km_others, .int), (km_xs, .int), (km_ys, .int)] [(am, .inr (5, [.int zm_thrown, .ref am_there, .ref am_ones, .ref am_others, .ref am_xs, .ref am_ys, .int zm_many, .ref am_a, .ref am_b, .ref am_from, .ref am_to, .ref am_way, .ref am_depth, .ref am_above, .ref am_pile, .ref am_next, .ref am_leader, .ref am_turned, .ref am_piece, .ref am_numbers, .ref am_row])), (am_ones, .inl (km_ones, 24, .inl zm_ones)), (am_others, .inl (km_others, 24, .inl zm_others)), (am_xs, .inl (km_xs, 10, .inl zm_xs)), (am_ys, .inl (km_ys, 10, .inl zm_ys))] t) (va_A [(am, .inr (5, [.int zm_thrown, .ref am_there, .ref am_ones, .ref am_others, .ref am_xs, .ref am_ys, .int zm_many, .ref am_a, .ref am_b, .ref am_from, .ref am_to, .ref am_way, .ref am_depth, .ref am_above, .ref am_pile, .ref am_next, .ref am_leader, .ref am_turned, .ref am_piece, .ref am_numbers, .ref am_row])), (am_ones, .inl (km_ones, 24, .inl zm_ones)), (am_others, .inl (km_others, 24, .inl zm_others)), (am_xs, .inl (km_xs, 10, .inl zm_xs)), (am_ys, .inl (km_ys, 10, .inl zm_ys))] sz)) 0 0 (va_A [(am, .inr (5, [.int zm_thrown, .ref am_there, .ref am_ones, .ref am_others, .ref am_xs, .ref am_ys, .int zm_many, .ref am_a, .ref am_b, .ref am_from, .ref am_to, .ref am_way, .ref am_depth, .ref am_above, .ref am_pile, .ref am_next, .ref am_leader, .ref am_turned, .ref am_piece, .ref am_numbers, .ref am_row])), (am_ones, .inl (km_ones, 24, .inl zm_ones)), (am_others, .inl (km_others, 24, .inl zm_others)), (am_xs, .inl (km_xs, 10, .inl zm_xs)), (am_ys, .inl (km_ys, 10, .inl zm_ys))] sz) := by
  refine Met.ofW (cc := b_Mod_meetings) (maxL := 4) (ret := (some .int)) (by decide) rfl ?_
  intro p e s m args below meth c s₁ B hml hv
  obtain ⟨hargs, hsz, hP, hK, hD0, hN⟩ := hv
  have hx := B.exec
  have hb := B.bytes
  have hr := B.returns
  have hts := atoms_spec (ws := w_Mod_meetings) B.pre
  have hown : s.vm.findClass R_Mod = some m.cls := findClass_of_methodNamed B.named
  have hlocks := B.notSynchronized
  subst hsz
  have hD := hD0.self (sz := s.heap.size)
  generalize hAe : va_A [(am, .inr (5, [.int zm_thrown, .ref am_there, .ref am_ones, .ref am_others, .ref am_xs, .ref am_ys, .int zm_many, .ref am_a, .ref am_b, .ref am_from, .ref am_to, .ref am_way, .ref am_depth, .ref am_above, .ref am_pile, .ref am_next, .ref am_leader, .ref am_turned, .ref am_piece, .ref am_numbers, .ref am_row])), (am_ones, .inl (km_ones, 24, .inl zm_ones)), (am_others, .inl (km_others, 24, .inl zm_others)), (am_xs, .inl (km_xs, 10, .inl zm_xs)), (am_ys, .inl (km_ys, 10, .inl zm_ys))] s.heap.size = A at hD ⊢
  have hA : ∀ q : Nat, s.heap.size ≤ q → A q := fun q h => by rw [← hAe]; exact Or.inr h
  have hS : va_S A s.heap s.heap [] := va_S.rf
  have hl := lv_entry ([.ref am]) (n := 4) (Nat.le_of_ble_eq_true rfl)
  refine W.eq (congrArg (fun a => entryFrame m a 4) hargs) ?_
  rw [lg_entry_eq]
  generalize (lg_sl ([.ref am]) ++ List.replicate (4 - (lg_sl ([.ref am])).length) Slot.unset).toArray = ls at hl ⊢
  have hl : lv_has ls 4 [(0, .ref am)] := hl
  generalize hH0 : ([] : List Loc) = locs at hS ⊢
  have hI := hR.symm
  rw [F_meetingsM] at hI
  refine lv_iconst (v := 0) hx hb d_Mod_meetings_0 (by decide) ?_
  refine lv_istore_n (lv' := [(1, .int 0), (0, .ref am)]) hx hb d_Mod_meetings_1 rfl hl (by decide) rfl (fun ls hl => ?_)
  refine lv_iconst (v := 0) hx hb d_Mod_meetings_2 (by decide) ?_
  refine lv_istore_n (lv' := [(2, .int 0), (1, .int 0), (0, .ref am)]) hx hb d_Mod_meetings_3 rfl hl (by decide) rfl (fun ls hl => ?_)
  obtain ⟨K_4, hK_4⟩ : ∃ K : Int32 → Option (Int32), K = (fun v1_4 => some (v1_4)) := ⟨_, rfl⟩
  have X_4 : ∀ (k_4 : Nat) (v1_4 : Int32) (H : Heap) (locs : List Loc) (ls : Array Slot), some R = K_4 v1_4 → va_P (dC, dI) classes [(am, .inr (5, [.int zm_thrown, .ref am_there, .ref am_ones, .ref am_others, .ref am_xs, .ref am_ys, .int zm_many, .ref am_a, .ref am_b, .ref am_from, .ref am_to, .ref am_way, .ref am_depth, .ref am_above, .ref am_pile, .ref am_next, .ref am_leader, .ref am_turned, .ref am_piece, .ref am_numbers, .ref am_row])), (am_ones, .inl (km_ones, 24, .inl zm_ones)), (am_others, .inl (km_others, 24, .inl zm_others)), (am_xs, .inl (km_xs, 10, .inl zm_xs)), (am_ys, .inl (km_ys, 10, .inl zm_ys))] H → va_D A [(am, .inr (5, [.int zm_thrown, .ref am_there, .ref am_ones, .ref am_others, .ref am_xs, .ref am_ys, .int zm_many, .ref am_a, .ref am_b, .ref am_from, .ref am_to, .ref am_way, .ref am_depth, .ref am_above, .ref am_pile, .ref am_next, .ref am_leader, .ref am_turned, .ref am_piece, .ref am_numbers, .ref am_row])), (am_ones, .inl (km_ones, 24, .inl zm_ones)), (am_others, .inl (km_others, 24, .inl zm_others)), (am_xs, .inl (km_xs, 10, .inl zm_xs)), (am_ys, .inl (km_ys, 10, .inl zm_ys))] → va_S A s.heap H locs → lv_has ls 4 [(0, .ref am), (1, .int v1_4), (2, .int (nI k_4))] → W p l e (headSpec w_Mod_meetings ({ frames := 3, cells := 0, slots := 0, locals := 75 })).room s m args below meth c H locs 0 0 (MQ below (va_Qi (fun (r : Int32) (u : Unit) => r = R) (fun u t => End_ dC dI A [(km_ones, .int), (km_others, .int), (km_xs, .int), (km_ys, .int)] [(am, .inr (5, [.int zm_thrown, .ref am_there, .ref am_ones, .ref am_others, .ref am_xs, .ref am_ys, .int zm_many, .ref am_a, .ref am_b, .ref am_from, .ref am_to, .ref am_way, .ref am_depth, .ref am_above, .ref am_pile, .ref am_next, .ref am_leader, .ref am_turned, .ref am_piece, .ref am_numbers, .ref am_row])), (am_ones, .inl (km_ones, 24, .inl zm_ones)), (am_others, .inl (km_others, 24, .inl zm_others)), (am_xs, .inl (km_xs, 10, .inl zm_xs)), (am_ys, .inl (km_ys, 10, .inl zm_ys))] t) A) args s 0 0 A) (F0 m 67 ls []) := by
    intro k_4 v1_4 H locs ls hI hP hD hS hl
    rw [hK_4] at hI
    refine lv_iload_n hx hb d_Mod_meetings_67 rfl (lv_at hl 1 rfl) ?_
    exact W.iret (v := v1_4) hx hb hr (fun t ht hW => ⟨⟨v1_4, (), rfl, (Option.some.inj hI).symm, by rw [ht]; exact hP, va_K.moved hW.alike hK, hD⟩, hS.F ht⟩) hS.2.2 d_Mod_meetings_68
  have L_4 : ∀ (n_4 k_4 : Nat) (v1_4 : Int32) (H : Heap) (locs : List Loc) (ls : Array Slot), k_4 + n_4 = 24 → some R = F_meetingsM_L4 K_4 zm_ones zm_others zm_xs zm_ys n_4 k_4 v1_4 → va_P (dC, dI) classes [(am, .inr (5, [.int zm_thrown, .ref am_there, .ref am_ones, .ref am_others, .ref am_xs, .ref am_ys, .int zm_many, .ref am_a, .ref am_b, .ref am_from, .ref am_to, .ref am_way, .ref am_depth, .ref am_above, .ref am_pile, .ref am_next, .ref am_leader, .ref am_turned, .ref am_piece, .ref am_numbers, .ref am_row])), (am_ones, .inl (km_ones, 24, .inl zm_ones)), (am_others, .inl (km_others, 24, .inl zm_others)), (am_xs, .inl (km_xs, 10, .inl zm_xs)), (am_ys, .inl (km_ys, 10, .inl zm_ys))] H → va_D A [(am, .inr (5, [.int zm_thrown, .ref am_there, .ref am_ones, .ref am_others, .ref am_xs, .ref am_ys, .int zm_many, .ref am_a, .ref am_b, .ref am_from, .ref am_to, .ref am_way, .ref am_depth, .ref am_above, .ref am_pile, .ref am_next, .ref am_leader, .ref am_turned, .ref am_piece, .ref am_numbers, .ref am_row])), (am_ones, .inl (km_ones, 24, .inl zm_ones)), (am_others, .inl (km_others, 24, .inl zm_others)), (am_xs, .inl (km_xs, 10, .inl zm_xs)), (am_ys, .inl (km_ys, 10, .inl zm_ys))] → va_S A s.heap H locs → lv_has ls 4 [(0, .ref am), (1, .int v1_4), (2, .int (nI k_4))] → W p l e (headSpec w_Mod_meetings ({ frames := 3, cells := 0, slots := 0, locals := 75 })).room s m args below meth c H locs 0 0 (MQ below (va_Qi (fun (r : Int32) (u : Unit) => r = R) (fun u t => End_ dC dI A [(km_ones, .int), (km_others, .int), (km_xs, .int), (km_ys, .int)] [(am, .inr (5, [.int zm_thrown, .ref am_there, .ref am_ones, .ref am_others, .ref am_xs, .ref am_ys, .int zm_many, .ref am_a, .ref am_b, .ref am_from, .ref am_to, .ref am_way, .ref am_depth, .ref am_above, .ref am_pile, .ref am_next, .ref am_leader, .ref am_turned, .ref am_piece, .ref am_numbers, .ref am_row])), (am_ones, .inl (km_ones, 24, .inl zm_ones)), (am_others, .inl (km_others, 24, .inl zm_others)), (am_xs, .inl (km_xs, 10, .inl zm_xs)), (am_ys, .inl (km_ys, 10, .inl zm_ys))] t) A) args s 0 0 A) (F0 m 4 ls []) := by
    intro n_4
    induction n_4 with
    | zero =>
      intro k_4 v1_4 H locs ls hkn_4 hI hP hD hS hl
      rw [F_meetingsM_L4] at hI
      refine lv_iload_n hx hb d_Mod_meetings_4 rfl (lv_at hl 2 rfl) ?_
      refine lv_bipush (v := 24) hx hb d_Mod_meetings_5 (by decide) ?_
      refine lv_icmp_ge (tgt := 67) hx hb d_Mod_meetings_7 rfl (fun hc_7 => ?_) (fun hc_7 => absurd (z_exit rfl hkn_4) hc_7)
      have hl := lv_sub hl [0, 1, 2] rfl
      exact X_4 _ _ _ _ _ hI hP hD hS hl
    | succ n_4 ih_4 =>
      intro k_4 v1_4 H locs ls hkn_4 hI hP hD hS hl
      rw [F_meetingsM_L4] at hI
      refine lv_iload_n hx hb d_Mod_meetings_4 rfl (lv_at hl 2 rfl) ?_
      refine lv_bipush (v := 24) hx hb d_Mod_meetings_5 (by decide) ?_
      refine lv_icmp_ge (tgt := 67) hx hb d_Mod_meetings_7 rfl (fun hc_7 => absurd hc_7 (z_stay rfl hkn_4 (by decide))) (fun hc_7 => ?_)
      refine lv_iload_n hx hb d_Mod_meetings_10 rfl (lv_at hl 2 rfl) ?_
      refine lv_iconst (v := 1) hx hb d_Mod_meetings_11 (by decide) ?_
      refine lv_iadd hx hb d_Mod_meetings_12 ?_
      refine lv_istore_n (lv' := [(3, .int ((nI k_4) + 1)), (0, .ref am), (1, .int v1_4), (2, .int (nI k_4))]) hx hb d_Mod_meetings_13 rfl hl (by decide) rfl (fun ls hl => ?_)
      obtain ⟨K_14, hK_14⟩ : ∃ K : Int32 → Option (Int32), K = (fun v1_14 => (F_meetingsM_L4 K_4 zm_ones zm_others zm_xs zm_ys n_4 (k_4 + 1) v1_14)) := ⟨_, rfl⟩
      have X_14 : ∀ (k_14 : Nat) (v1_14 : Int32) (H : Heap) (locs : List Loc) (ls : Array Slot), some R = K_14 v1_14 → va_P (dC, dI) classes [(am, .inr (5, [.int zm_thrown, .ref am_there, .ref am_ones, .ref am_others, .ref am_xs, .ref am_ys, .int zm_many, .ref am_a, .ref am_b, .ref am_from, .ref am_to, .ref am_way, .ref am_depth, .ref am_above, .ref am_pile, .ref am_next, .ref am_leader, .ref am_turned, .ref am_piece, .ref am_numbers, .ref am_row])), (am_ones, .inl (km_ones, 24, .inl zm_ones)), (am_others, .inl (km_others, 24, .inl zm_others)), (am_xs, .inl (km_xs, 10, .inl zm_xs)), (am_ys, .inl (km_ys, 10, .inl zm_ys))] H → va_D A [(am, .inr (5, [.int zm_thrown, .ref am_there, .ref am_ones, .ref am_others, .ref am_xs, .ref am_ys, .int zm_many, .ref am_a, .ref am_b, .ref am_from, .ref am_to, .ref am_way, .ref am_depth, .ref am_above, .ref am_pile, .ref am_next, .ref am_leader, .ref am_turned, .ref am_piece, .ref am_numbers, .ref am_row])), (am_ones, .inl (km_ones, 24, .inl zm_ones)), (am_others, .inl (km_others, 24, .inl zm_others)), (am_xs, .inl (km_xs, 10, .inl zm_xs)), (am_ys, .inl (km_ys, 10, .inl zm_ys))] → va_S A s.heap H locs → lv_has ls 4 [(0, .ref am), (1, .int v1_14), (2, .int (nI k_4)), (3, .int (nI k_14))] → W p l e (headSpec w_Mod_meetings ({ frames := 3, cells := 0, slots := 0, locals := 75 })).room s m args below meth c H locs 0 0 (MQ below (va_Qi (fun (r : Int32) (u : Unit) => r = R) (fun u t => End_ dC dI A [(km_ones, .int), (km_others, .int), (km_xs, .int), (km_ys, .int)] [(am, .inr (5, [.int zm_thrown, .ref am_there, .ref am_ones, .ref am_others, .ref am_xs, .ref am_ys, .int zm_many, .ref am_a, .ref am_b, .ref am_from, .ref am_to, .ref am_way, .ref am_depth, .ref am_above, .ref am_pile, .ref am_next, .ref am_leader, .ref am_turned, .ref am_piece, .ref am_numbers, .ref am_row])), (am_ones, .inl (km_ones, 24, .inl zm_ones)), (am_others, .inl (km_others, 24, .inl zm_others)), (am_xs, .inl (km_xs, 10, .inl zm_xs)), (am_ys, .inl (km_ys, 10, .inl zm_ys))] t) A) args s 0 0 A) (F0 m 61 ls []) := by
        intro k_14 v1_14 H locs ls hI hP hD hS hl
        rw [hK_14] at hI
        refine lv_iinc (lv' := [(2, .int (nI (k_4 + 1))), (0, .ref am), (1, .int v1_14), (3, .int (nI k_14))]) (k := 2) hx hb d_Mod_meetings_61 hl rfl (z_inc _) (by decide) rfl (fun ls hl => ?_)
        refine lv_goto (tgt := 4) hx hb d_Mod_meetings_64 rfl ?_
        have hl := lv_sub hl [1, 2, 0] rfl
        exact ih_4 _ _ _ _ _ (by omega) hI hP hD hS hl
      have L_14 : ∀ (n_14 k_14 : Nat) (v1_14 : Int32) (H : Heap) (locs : List Loc) (ls : Array Slot), k_14 + n_14 = 24 → some R = F_meetingsM_L14 K_14 zm_ones zm_others zm_xs zm_ys k_4 n_14 k_14 v1_14 → va_P (dC, dI) classes [(am, .inr (5, [.int zm_thrown, .ref am_there, .ref am_ones, .ref am_others, .ref am_xs, .ref am_ys, .int zm_many, .ref am_a, .ref am_b, .ref am_from, .ref am_to, .ref am_way, .ref am_depth, .ref am_above, .ref am_pile, .ref am_next, .ref am_leader, .ref am_turned, .ref am_piece, .ref am_numbers, .ref am_row])), (am_ones, .inl (km_ones, 24, .inl zm_ones)), (am_others, .inl (km_others, 24, .inl zm_others)), (am_xs, .inl (km_xs, 10, .inl zm_xs)), (am_ys, .inl (km_ys, 10, .inl zm_ys))] H → va_D A [(am, .inr (5, [.int zm_thrown, .ref am_there, .ref am_ones, .ref am_others, .ref am_xs, .ref am_ys, .int zm_many, .ref am_a, .ref am_b, .ref am_from, .ref am_to, .ref am_way, .ref am_depth, .ref am_above, .ref am_pile, .ref am_next, .ref am_leader, .ref am_turned, .ref am_piece, .ref am_numbers, .ref am_row])), (am_ones, .inl (km_ones, 24, .inl zm_ones)), (am_others, .inl (km_others, 24, .inl zm_others)), (am_xs, .inl (km_xs, 10, .inl zm_xs)), (am_ys, .inl (km_ys, 10, .inl zm_ys))] → va_S A s.heap H locs → lv_has ls 4 [(0, .ref am), (1, .int v1_14), (2, .int (nI k_4)), (3, .int (nI k_14))] → W p l e (headSpec w_Mod_meetings ({ frames := 3, cells := 0, slots := 0, locals := 75 })).room s m args below meth c H locs 0 0 (MQ below (va_Qi (fun (r : Int32) (u : Unit) => r = R) (fun u t => End_ dC dI A [(km_ones, .int), (km_others, .int), (km_xs, .int), (km_ys, .int)] [(am, .inr (5, [.int zm_thrown, .ref am_there, .ref am_ones, .ref am_others, .ref am_xs, .ref am_ys, .int zm_many, .ref am_a, .ref am_b, .ref am_from, .ref am_to, .ref am_way, .ref am_depth, .ref am_above, .ref am_pile, .ref am_next, .ref am_leader, .ref am_turned, .ref am_piece, .ref am_numbers, .ref am_row])), (am_ones, .inl (km_ones, 24, .inl zm_ones)), (am_others, .inl (km_others, 24, .inl zm_others)), (am_xs, .inl (km_xs, 10, .inl zm_xs)), (am_ys, .inl (km_ys, 10, .inl zm_ys))] t) A) args s 0 0 A) (F0 m 14 ls []) := by
        intro n_14
        induction n_14 with
        | zero =>
          intro k_14 v1_14 H locs ls hkn_14 hI hP hD hS hl
          rw [F_meetingsM_L14] at hI
          refine lv_iload_n hx hb d_Mod_meetings_14 rfl (lv_at hl 3 rfl) ?_
          refine lv_bipush (v := 24) hx hb d_Mod_meetings_15 (by decide) ?_
          refine lv_icmp_ge (tgt := 61) hx hb d_Mod_meetings_17 rfl (fun hc_17 => ?_) (fun hc_17 => absurd (z_exit rfl hkn_14) hc_17)
          have hl := lv_sub hl [0, 1, 2, 3] rfl
          exact X_14 _ _ _ _ _ hI hP hD hS hl
        | succ n_14 ih_14 =>
          intro k_14 v1_14 H locs ls hkn_14 hI hP hD hS hl
          rw [F_meetingsM_L14] at hI
          refine lv_iload_n hx hb d_Mod_meetings_14 rfl (lv_at hl 3 rfl) ?_
          refine lv_bipush (v := 24) hx hb d_Mod_meetings_15 (by decide) ?_
          refine lv_icmp_ge (tgt := 61) hx hb d_Mod_meetings_17 rfl (fun hc_17 => absurd hc_17 (z_stay rfl hkn_14 (by decide))) (fun hc_17 => ?_)
          refine lv_aload_n hx hb d_Mod_meetings_20 rfl (lv_at hl 0 rfl) ?_
          refine va_get (D := (dC, dI)) (ci := 5) (v := .ref am_ones) (C := R_Mod) (T := F_Mod) (N := 21) hx hb hts (fun w h => List.mem_cons_of_mem _ (in_Mod w h)) hown hK hP 0 rfl rfl 2 (by decide) (hts _ (List.mem_cons_of_mem _ mw_3_158)) (fun _ h9 => h9) rfl d_Mod_meetings_21 ?_
          refine lv_iload_n hx hb d_Mod_meetings_24 rfl (lv_at hl 2 rfl) ?_
          refine va_iald (D := (dC, dI)) hx hb hK hP 1 0 rfl rfl (vp_in_nI (by omega) (by decide)) d_Mod_meetings_25 ?_
          refine lv_topi (fun y_25 e_25 => ?_)
          obtain rfl : y_25 = zm_ones k_4 := e_25.trans (by rw [nI_clamp (by omega)])
          obtain ⟨K_j54_26, hK_j54_26⟩ : ∃ K : Int32 → Option (Int32), K = (fun (j_54_26 : Int32) => (F_meetingsM_L14 K_14 zm_ones zm_others zm_xs zm_ys k_4 n_14 (k_14 + 1) j_54_26)) := ⟨_, rfl⟩
          have J_54_26 : ∀ (s0_54_26 : Int32) (H : Heap) (locs : List Loc) (ls : Array Slot), some R = (K_j54_26 s0_54_26) → va_P (dC, dI) classes [(am, .inr (5, [.int zm_thrown, .ref am_there, .ref am_ones, .ref am_others, .ref am_xs, .ref am_ys, .int zm_many, .ref am_a, .ref am_b, .ref am_from, .ref am_to, .ref am_way, .ref am_depth, .ref am_above, .ref am_pile, .ref am_next, .ref am_leader, .ref am_turned, .ref am_piece, .ref am_numbers, .ref am_row])), (am_ones, .inl (km_ones, 24, .inl zm_ones)), (am_others, .inl (km_others, 24, .inl zm_others)), (am_xs, .inl (km_xs, 10, .inl zm_xs)), (am_ys, .inl (km_ys, 10, .inl zm_ys))] H → va_D A [(am, .inr (5, [.int zm_thrown, .ref am_there, .ref am_ones, .ref am_others, .ref am_xs, .ref am_ys, .int zm_many, .ref am_a, .ref am_b, .ref am_from, .ref am_to, .ref am_way, .ref am_depth, .ref am_above, .ref am_pile, .ref am_next, .ref am_leader, .ref am_turned, .ref am_piece, .ref am_numbers, .ref am_row])), (am_ones, .inl (km_ones, 24, .inl zm_ones)), (am_others, .inl (km_others, 24, .inl zm_others)), (am_xs, .inl (km_xs, 10, .inl zm_xs)), (am_ys, .inl (km_ys, 10, .inl zm_ys))] → va_S A s.heap H locs → lv_has ls 4 [(0, .ref am), (1, .int v1_14), (2, .int (nI k_4)), (3, .int (nI k_14))] → W p l e (headSpec w_Mod_meetings ({ frames := 3, cells := 0, slots := 0, locals := 75 })).room s m args below meth c H locs 0 0 (MQ below (va_Qi (fun (r : Int32) (u : Unit) => r = R) (fun u t => End_ dC dI A [(km_ones, .int), (km_others, .int), (km_xs, .int), (km_ys, .int)] [(am, .inr (5, [.int zm_thrown, .ref am_there, .ref am_ones, .ref am_others, .ref am_xs, .ref am_ys, .int zm_many, .ref am_a, .ref am_b, .ref am_from, .ref am_to, .ref am_way, .ref am_depth, .ref am_above, .ref am_pile, .ref am_next, .ref am_leader, .ref am_turned, .ref am_piece, .ref am_numbers, .ref am_row])), (am_ones, .inl (km_ones, 24, .inl zm_ones)), (am_others, .inl (km_others, 24, .inl zm_others)), (am_xs, .inl (km_xs, 10, .inl zm_xs)), (am_ys, .inl (km_ys, 10, .inl zm_ys))] t) A) args s 0 0 A) (F0 m 54 ls [.int s0_54_26]) := by
            intro s0_54_26 H locs ls hI hP hD hS hl
            rw [hK_j54_26] at hI
            refine lv_istore_n (lv' := [(1, .int s0_54_26), (0, .ref am), (2, .int (nI k_4)), (3, .int (nI k_14))]) hx hb d_Mod_meetings_54 rfl hl (by decide) rfl (fun ls hl => ?_)
            refine lv_iinc (lv' := [(3, .int (nI (k_14 + 1))), (1, .int s0_54_26), (0, .ref am), (2, .int (nI k_4))]) (k := 3) hx hb d_Mod_meetings_55 hl rfl (z_inc _) (by decide) rfl (fun ls hl => ?_)
            refine lv_goto (tgt := 14) hx hb d_Mod_meetings_58 rfl ?_
            have hl := lv_sub hl [2, 1, 3, 0] rfl
            exact ih_14 _ _ _ _ _ (by omega) hI hP hD hS hl
          have hI : some R = (Option.bind (if (zm_ones k_4) < 0 then (some (v1_14)) else (if (zm_ones k_14) < 0 then (some (v1_14)) else ((F_meetNowM zm_ones zm_others zm_xs zm_ys (nI k_4) (nI k_14)).bind (fun p_41 => (if p_41 = 0 then (some (v1_14)) else (some (v1_14 + 1))))))) K_j54_26) := by rw [hK_j54_26]; exact hI
          refine lv_if_lt (tgt := 53) hx hb d_Mod_meetings_26 rfl (fun hc_26 => ?_) (fun hc_26 => ?_)
          · skip
            have hI := ob_ifC (C := fun y_ => Option.bind y_ K_j54_26) hc_26 hI
            refine lv_iload_n hx hb d_Mod_meetings_53 rfl (lv_at hl 1 rfl) ?_
            have hl := lv_sub hl [0, 1, 2, 3] rfl
            exact J_54_26 _ _ _ _ hI hP hD hS hl
          · skip
            have hI := ob_elC (C := fun y_ => Option.bind y_ K_j54_26) hc_26 hI
            refine lv_aload_n hx hb d_Mod_meetings_29 rfl (lv_at hl 0 rfl) ?_
            refine va_get (D := (dC, dI)) (ci := 5) (v := .ref am_ones) (C := R_Mod) (T := F_Mod) (N := 21) hx hb hts (fun w h => List.mem_cons_of_mem _ (in_Mod w h)) hown hK hP 0 rfl rfl 2 (by decide) (hts _ (List.mem_cons_of_mem _ mw_3_158)) (fun _ h9 => h9) rfl d_Mod_meetings_30 ?_
            refine lv_iload_n hx hb d_Mod_meetings_33 rfl (lv_at hl 3 rfl) ?_
            refine va_iald (D := (dC, dI)) hx hb hK hP 1 0 rfl rfl (vp_in_nI (by omega) (by decide)) d_Mod_meetings_34 ?_
            refine lv_topi (fun y_34 e_34 => ?_)
            obtain rfl : y_34 = zm_ones k_14 := e_34.trans (by rw [nI_clamp (by omega)])
            refine lv_if_lt (tgt := 53) hx hb d_Mod_meetings_35 rfl (fun hc_35 => ?_) (fun hc_35 => ?_)
            · skip
              have hI := ob_ifC (C := fun y_ => Option.bind y_ K_j54_26) hc_35 hI
              refine lv_iload_n hx hb d_Mod_meetings_53 rfl (lv_at hl 1 rfl) ?_
              have hl := lv_sub hl [0, 1, 2, 3] rfl
              exact J_54_26 _ _ _ _ hI hP hD hS hl
            · skip
              have hI := ob_elC (C := fun y_ => Option.bind y_ K_j54_26) hc_35 hI
              refine lv_aload_n hx hb d_Mod_meetings_38 rfl (lv_at hl 0 rfl) ?_
              refine lv_iload_n hx hb d_Mod_meetings_39 rfl (lv_at hl 2 rfl) ?_
              refine lv_iload_n hx hb d_Mod_meetings_40 rfl (lv_at hl 3 rfl) ?_
              obtain ⟨p_41, hg_41, hI⟩ := ob_bdC (C := fun y_ => Option.bind y_ K_j54_26) rfl hI
              have hPc := hP.sub (ws' := [(am, .inr (5, [.int zm_thrown, .ref am_there, .ref am_ones, .ref am_others, .ref am_xs, .ref am_ys, .int zm_many, .ref am_a, .ref am_b, .ref am_from, .ref am_to, .ref am_way, .ref am_depth, .ref am_above, .ref am_pile, .ref am_next, .ref am_leader, .ref am_turned, .ref am_piece, .ref am_numbers, .ref am_row])), (am_ones, .inl (km_ones, 24, .inl zm_ones)), (am_others, .inl (km_others, 24, .inl zm_others)), (am_xs, .inl (km_xs, 10, .inl zm_xs)), (am_ys, .inl (km_ys, 10, .inl zm_ys))]) [0, 1, 2, 3, 4] rfl
              have hDc := hD.sub (ws' := [(am, .inr (5, [.int zm_thrown, .ref am_there, .ref am_ones, .ref am_others, .ref am_xs, .ref am_ys, .int zm_many, .ref am_a, .ref am_b, .ref am_from, .ref am_to, .ref am_way, .ref am_depth, .ref am_above, .ref am_pile, .ref am_next, .ref am_leader, .ref am_turned, .ref am_piece, .ref am_numbers, .ref am_row])), (am_ones, .inl (km_ones, 24, .inl zm_ones)), (am_others, .inl (km_others, 24, .inl zm_others)), (am_xs, .inl (km_xs, 10, .inl zm_xs)), (am_ys, .inl (km_ys, 10, .inl zm_ys))]) [0, 1, 2, 3, 4] (by decide) rfl
              have hKc := hK.sub (tys' := [(km_ones, .int), (km_others, .int), (km_xs, .int), (km_ys, .int)]) [0, 1, 2, 3] rfl
              have hFc := va_free (wc := [(am, .inr (5, [.int zm_thrown, .ref am_there, .ref am_ones, .ref am_others, .ref am_xs, .ref am_ys, .int zm_many, .ref am_a, .ref am_b, .ref am_from, .ref am_to, .ref am_way, .ref am_depth, .ref am_above, .ref am_pile, .ref am_next, .ref am_leader, .ref am_turned, .ref am_piece, .ref am_numbers, .ref am_row])), (am_ones, .inl (km_ones, 24, .inl zm_ones)), (am_others, .inl (km_others, 24, .inl zm_others)), (am_xs, .inl (km_xs, 10, .inl zm_xs)), (am_ys, .inl (km_ys, 10, .inl zm_ys))]) hD hS hA [0, 1, 2, 3, 4] rfl
              refine va_calli (va_runV (As := [.int (nI k_4), .int (nI k_14)]) (rest := []) ⟨hx, hb, hml, hown, hts⟩ (c_meetNowM l dC dI H.size am am_there am_ones am_others am_xs am_ys am_a am_b am_from am_to am_way am_depth am_above am_pile am_next am_leader am_turned am_piece am_numbers am_row km_ones km_others km_xs km_ys zm_thrown zm_many zm_ones zm_others zm_xs zm_ys (nI k_4) (nI k_14) p_41 hg_41) (cwV 2 hts (gi4 mw_4_208 mw_4_210 mw_p_63 mw_1_6 mw_4_211) rfl rfl rfl (by decide +kernel) ⟨Nat.le_of_ble_eq_true rfl, Nat.le_of_ble_eq_true rfl⟩) ⟨fb_, va_recv (q0 := 0) (ci := 5) hK hP rfl rfl, pre_ hPc hKc hDc hN⟩ rfl rfl hl.1 rfl (lv_room (Nat.le_of_ble_eq_true rfl)) d_Mod_meetings_41 ⟨Nat.le_of_ble_eq_true rfl, Nat.le_of_ble_eq_true rfl⟩) hS (fun q _ h => hFc q h) hFc (fun r_41 u t H locs ht hvm hp_41 hB hz1 hk1 hS => ?_)
              obtain ⟨hP1, -, hD1⟩ := hB
              rw [ht] at hP1
              obtain ⟨hP, hD⟩ := va_join (wr := []) (w1 := [(am, .inr (5, [.int zm_thrown, .ref am_there, .ref am_ones, .ref am_others, .ref am_xs, .ref am_ys, .int zm_many, .ref am_a, .ref am_b, .ref am_from, .ref am_to, .ref am_way, .ref am_depth, .ref am_above, .ref am_pile, .ref am_next, .ref am_leader, .ref am_turned, .ref am_piece, .ref am_numbers, .ref am_row])), (am_ones, .inl (km_ones, 24, .inl zm_ones)), (am_others, .inl (km_others, 24, .inl zm_others)), (am_xs, .inl (km_xs, 10, .inl zm_xs)), (am_ys, .inl (km_ys, 10, .inl zm_ys))]) hP hD [0, 1, 2, 3, 4] [] rfl rfl (by decide) (by decide) hk1 hFc hP1 hD1
              obtain ⟨hp_41, hz_41⟩ := hp_41
              have hp_41 : (r_41) = p_41 := hp_41
              subst hp_41
              have hP : va_P (dC, dI) classes [(am, .inr (5, [.int zm_thrown, .ref am_there, .ref am_ones, .ref am_others, .ref am_xs, .ref am_ys, .int zm_many, .ref am_a, .ref am_b, .ref am_from, .ref am_to, .ref am_way, .ref am_depth, .ref am_above, .ref am_pile, .ref am_next, .ref am_leader, .ref am_turned, .ref am_piece, .ref am_numbers, .ref am_row])), (am_ones, .inl (km_ones, 24, .inl zm_ones)), (am_others, .inl (km_others, 24, .inl zm_others)), (am_xs, .inl (km_xs, 10, .inl zm_xs)), (am_ys, .inl (km_ys, 10, .inl zm_ys))] H := hP
              have hD : va_D A [(am, .inr (5, [.int zm_thrown, .ref am_there, .ref am_ones, .ref am_others, .ref am_xs, .ref am_ys, .int zm_many, .ref am_a, .ref am_b, .ref am_from, .ref am_to, .ref am_way, .ref am_depth, .ref am_above, .ref am_pile, .ref am_next, .ref am_leader, .ref am_turned, .ref am_piece, .ref am_numbers, .ref am_row])), (am_ones, .inl (km_ones, 24, .inl zm_ones)), (am_others, .inl (km_others, 24, .inl zm_others)), (am_xs, .inl (km_xs, 10, .inl zm_xs)), (am_ys, .inl (km_ys, 10, .inl zm_ys))] := hD
              refine lv_if_eq (tgt := 53) hx hb d_Mod_meetings_44 rfl (fun hc_44 => ?_) (fun hc_44 => ?_)
              · skip
                have hI := ob_ifC (C := fun y_ => Option.bind y_ K_j54_26) hc_44 hI
                refine lv_iload_n hx hb d_Mod_meetings_53 rfl (lv_at hl 1 rfl) ?_
                have hl := lv_sub hl [0, 1, 2, 3] rfl
                exact J_54_26 _ _ _ _ hI hP hD hS hl
              · skip
                have hI := ob_elC (C := fun y_ => Option.bind y_ K_j54_26) hc_44 hI
                refine lv_iload_n hx hb d_Mod_meetings_47 rfl (lv_at hl 1 rfl) ?_
                refine lv_iconst (v := 1) hx hb d_Mod_meetings_48 (by decide) ?_
                refine lv_iadd hx hb d_Mod_meetings_49 ?_
                refine lv_goto (tgt := 54) hx hb d_Mod_meetings_50 rfl ?_
                have hl := lv_sub hl [0, 1, 2, 3] rfl
                exact J_54_26 _ _ _ _ hI hP hD hS hl
      have hl : lv_has ls 4 [(0, .ref am), (1, .int v1_4), (2, .int (nI k_4)), (3, .int (nI (k_4 + 1)))] := by first | exact lv_sub hl [1, 2, 3, 0] rfl | (rw [nI_succ]; exact lv_sub hl [1, 2, 3, 0] rfl)
      exact L_14 ((24 - (k_4 + 1))) (k_4 + 1) _ _ _ _ (by omega) (by rw [hK_14]; exact hI) hP hD hS hl
  have hl : lv_has ls 4 [(0, .ref am), (1, .int 0), (2, .int (nI 0))] := by first | exact lv_sub hl [2, 1, 0] rfl | (rw [nI_succ]; exact lv_sub hl [2, 1, 0] rfl)
  exact L_4 24 0 _ _ _ _ (by omega) (by rw [hK_4]; exact hI) hP hD hS hl
set_option maxHeartbeats 4000000 in
set_option maxRecDepth 100000 in
theorem c_placeM (l : Launch) (dC : Nat → ClassId) (dI : Nat → Nat → Nat) (sz : Nat) (am am_there am_ones am_others am_xs am_ys am_a am_b am_from am_to am_way am_depth am_above am_pile am_next am_leader am_turned am_piece am_numbers am_row : Nat) (km_ones km_others km_xs km_ys : ClassId) (zm_thrown : Int32) (zm_many : Int32) (zm_ones : Nat → Int32) (zm_others : Nat → Int32) (zm_xs : Nat → Int32) (zm_ys : Nat → Int32) (v1 v2 v3 : Int32) (R : Int32 × Int32 × (Nat → Int32) × (Nat → Int32)) (hR : F_placeM zm_ones zm_others zm_xs zm_ys v1 v2 v3 = some R) : Met l y_Mod_place w_Mod_place ({ frames := 4, cells := 0, slots := 0, locals := 98 }) (Pre_ dC dI sz [.ref am, .int v1, .int v2, .int v3] [(am, .inr (5, [.int zm_thrown, .ref am_there, .ref am_ones, .ref am_others, .ref am_xs, .ref am_ys, .int zm_many, .ref am_a, .ref am_b, .ref am_from, .ref am_to, .ref am_way, .ref am_depth, .ref am_above, .ref am_pile, .ref am_next, .ref am_leader, .ref am_turned, .ref am_piece, .ref am_numbers, .ref am_row])), (am_ones, .inl (km_ones, 24, .inl zm_ones)), (am_others, .inl (km_others, 24, .inl zm_others)), (am_xs, .inl (km_xs, 10, .inl zm_xs)), (am_ys, .inl (km_ys, 10, .inl zm_ys))] [(km_ones, .int), (km_others, .int), (km_xs, .int), (km_ys, .int)]) (va_Qi (fun (r : Int32) (u : Int32 × (Nat → Int32) × (Nat → Int32)) => (r, u) = R) (fun u t => End_ dC dI (va_A [(am, .inr (5, [.int zm_thrown, .ref am_there, .ref am_ones, .ref am_others, .ref am_xs, .ref am_ys, .int zm_many, .ref am_a, .ref am_b, .ref am_from, .ref am_to, .ref am_way, .ref am_depth, .ref am_above, .ref am_pile, .ref am_next, .ref am_leader, .ref am_turned, .ref am_piece, .ref am_numbers, .ref am_row])), (am_ones, .inl (km_ones, 24, .inl zm_ones)), (am_others, .inl (km_others, 24, .inl zm_others)), (am_xs, .inl (km_xs, 10, .inl zm_xs)), (am_ys, .inl (km_ys, 10, .inl zm_ys))] sz) [(km_ones, .int), (km_others, .int), (km_xs, .int), (km_ys, .int)] [(am, .inr (5, [.int u.1, .ref am_there, .ref am_ones, .ref am_others, .ref am_xs, .ref am_ys, .int zm_many, .ref am_a, .ref am_b, .ref am_from, .ref am_to, .ref am_way, .ref am_depth, .ref am_above, .ref am_pile, .ref am_next, .ref am_leader, .ref am_turned, .ref am_piece, .ref am_numbers, .ref am_row])), (am_ones, .inl (km_ones, 24, .inl zm_ones)), (am_others, .inl (km_others, 24, .inl zm_others)), (am_xs, .inl (km_xs, 10, .inl u.2.1)), (am_ys, .inl (km_ys, 10, .inl u.2.2))] t) (va_A [(am, .inr (5, [.int zm_thrown, .ref am_there, .ref am_ones, .ref am_others, .ref am_xs, .ref am_ys, .int zm_many, .ref am_a, .ref am_b, .ref am_from, .ref am_to, .ref am_way, .ref am_depth, .ref am_above, .ref am_pile, .ref am_next, .ref am_leader, .ref am_turned, .ref am_piece, .ref am_numbers, .ref am_row])), (am_ones, .inl (km_ones, 24, .inl zm_ones)), (am_others, .inl (km_others, 24, .inl zm_others)), (am_xs, .inl (km_xs, 10, .inl zm_xs)), (am_ys, .inl (km_ys, 10, .inl zm_ys))] sz)) 0 0 (va_A [(am, .inr (5, [.int zm_thrown, .ref am_there, .ref am_ones, .ref am_others, .ref am_xs, .ref am_ys, .int zm_many, .ref am_a, .ref am_b, .ref am_from, .ref am_to, .ref am_way, .ref am_depth, .ref am_above, .ref am_pile, .ref am_next, .ref am_leader, .ref am_turned, .ref am_piece, .ref am_numbers, .ref am_row])), (am_ones, .inl (km_ones, 24, .inl zm_ones)), (am_others, .inl (km_others, 24, .inl zm_others)), (am_xs, .inl (km_xs, 10, .inl zm_xs)), (am_ys, .inl (km_ys, 10, .inl zm_ys))] sz) := by
  refine Met.ofW (cc := b_Mod_place) (maxL := 4) (ret := (some .int)) (by decide) rfl ?_
  intro p e s m args below meth c s₁ B hml hv
  obtain ⟨hargs, hsz, hP, hK, hD0, hN⟩ := hv
  have hx := B.exec
  have hb := B.bytes
  have hr := B.returns
  have hts := atoms_spec (ws := w_Mod_place) B.pre
  have hown : s.vm.findClass R_Mod = some m.cls := findClass_of_methodNamed B.named
  have hlocks := B.notSynchronized
  subst hsz
  have hD := hD0.self (sz := s.heap.size)
  generalize hAe : va_A [(am, .inr (5, [.int zm_thrown, .ref am_there, .ref am_ones, .ref am_others, .ref am_xs, .ref am_ys, .int zm_many, .ref am_a, .ref am_b, .ref am_from, .ref am_to, .ref am_way, .ref am_depth, .ref am_above, .ref am_pile, .ref am_next, .ref am_leader, .ref am_turned, .ref am_piece, .ref am_numbers, .ref am_row])), (am_ones, .inl (km_ones, 24, .inl zm_ones)), (am_others, .inl (km_others, 24, .inl zm_others)), (am_xs, .inl (km_xs, 10, .inl zm_xs)), (am_ys, .inl (km_ys, 10, .inl zm_ys))] s.heap.size = A at hD ⊢
  have hA : ∀ q : Nat, s.heap.size ≤ q → A q := fun q h => by rw [← hAe]; exact Or.inr h
  have hS : va_S A s.heap s.heap [] := va_S.rf
  have hl := lv_entry ([.ref am, .int v1, .int v2, .int v3]) (n := 4) (Nat.le_of_ble_eq_true rfl)
  refine W.eq (congrArg (fun a => entryFrame m a 4) hargs) ?_
  rw [lg_entry_eq]
  generalize (lg_sl ([.ref am, .int v1, .int v2, .int v3]) ++ List.replicate (4 - (lg_sl ([.ref am, .int v1, .int v2, .int v3])).length) Slot.unset).toArray = ls at hl ⊢
  have hl : lv_has ls 4 [(0, .ref am), (1, .int v1), (2, .int v2), (3, .int v3)] := hl
  generalize hH0 : ([] : List Loc) = locs at hS ⊢
  have hI := hR.symm
  rw [F_placeM] at hI
  refine lv_aload_n hx hb d_Mod_place_0 rfl (lv_at hl 0 rfl) ?_
  refine lv_iload_n hx hb d_Mod_place_1 rfl (lv_at hl 1 rfl) ?_
  have hPc := hP.sub (ws' := []) [] rfl
  have hDc := hD.sub (ws' := []) [] (by decide) rfl
  have hKc := hK.sub (tys' := []) [] rfl
  have hFc := va_free (wc := []) hD hS hA [] rfl
  refine va_calli (va_runS (As := [.int v1]) (rest := [.ref am]) ⟨hx, hb, hml, hown, hts⟩ (c_isNode l dC dI s.heap.size v1) (cwS 1 hts (gi3 mw_3_229 mw_3_230 mw_1_6 mw_3_231) rfl rfl rfl (by decide +kernel) ⟨Nat.le_of_ble_eq_true rfl, Nat.le_of_ble_eq_true rfl⟩) ⟨fb_, pre_ hPc hKc hDc hN⟩ rfl rfl hl.1 rfl (lv_room (Nat.le_of_ble_eq_true rfl)) d_Mod_place_2 ⟨Nat.le_of_ble_eq_true rfl, Nat.le_of_ble_eq_true rfl⟩) hS (fun q _ h => hFc q h) hFc (fun r_2 u t H locs ht hvm hp_2 hB hz1 hk1 hS => ?_)
  obtain ⟨hP1, -, hD1⟩ := hB
  rw [ht] at hP1
  obtain ⟨hP, hD⟩ := va_join (wr := [(am, .inr (5, [.int zm_thrown, .ref am_there, .ref am_ones, .ref am_others, .ref am_xs, .ref am_ys, .int zm_many, .ref am_a, .ref am_b, .ref am_from, .ref am_to, .ref am_way, .ref am_depth, .ref am_above, .ref am_pile, .ref am_next, .ref am_leader, .ref am_turned, .ref am_piece, .ref am_numbers, .ref am_row])), (am_ones, .inl (km_ones, 24, .inl zm_ones)), (am_others, .inl (km_others, 24, .inl zm_others)), (am_xs, .inl (km_xs, 10, .inl zm_xs)), (am_ys, .inl (km_ys, 10, .inl zm_ys))]) (w1 := []) hP hD [] [0, 1, 2, 3, 4] rfl rfl (by decide) (by decide) hk1 hFc hP1 hD1
  have hp_2 : r_2 = f_isNN v1 := hp_2
  subst hp_2
  have hP : va_P (dC, dI) classes [(am, .inr (5, [.int zm_thrown, .ref am_there, .ref am_ones, .ref am_others, .ref am_xs, .ref am_ys, .int zm_many, .ref am_a, .ref am_b, .ref am_from, .ref am_to, .ref am_way, .ref am_depth, .ref am_above, .ref am_pile, .ref am_next, .ref am_leader, .ref am_turned, .ref am_piece, .ref am_numbers, .ref am_row])), (am_ones, .inl (km_ones, 24, .inl zm_ones)), (am_others, .inl (km_others, 24, .inl zm_others)), (am_xs, .inl (km_xs, 10, .inl zm_xs)), (am_ys, .inl (km_ys, 10, .inl zm_ys))] H := hP
  have hD : va_D A [(am, .inr (5, [.int zm_thrown, .ref am_there, .ref am_ones, .ref am_others, .ref am_xs, .ref am_ys, .int zm_many, .ref am_a, .ref am_b, .ref am_from, .ref am_to, .ref am_way, .ref am_depth, .ref am_above, .ref am_pile, .ref am_next, .ref am_leader, .ref am_turned, .ref am_piece, .ref am_numbers, .ref am_row])), (am_ones, .inl (km_ones, 24, .inl zm_ones)), (am_others, .inl (km_others, 24, .inl zm_others)), (am_xs, .inl (km_xs, 10, .inl zm_xs)), (am_ys, .inl (km_ys, 10, .inl zm_ys))] := hD
  obtain ⟨K_j13_5, hK_j13_5⟩ : ∃ K : Int32 → Option (Int32 × Int32 × (Nat → Int32) × (Nat → Int32)), K = (fun (j_13_5 : Int32) => ((fun (j_38_14 : Int32) => ((F_refusedM j_13_5 j_38_14 ((0 : Int32))).bind (fun p_39 => (if p_39.1 = 0 then (if inb v1 10 = true then ((F_meetingsM zm_ones zm_others (upd zm_xs (Int32.toNatClampNeg v1) v2) (upd zm_ys (Int32.toNatClampNeg v1) v3)).bind (fun p_62 => some (p_62, p_39.2, upd zm_xs (Int32.toNatClampNeg v1) v2, upd zm_ys (Int32.toNatClampNeg v1) v3))) else none) else some ((0 : Int32), p_39.2, zm_xs, zm_ys))))) (if v2 < 0 then ((1 : Int32)) else (if 30 < v2 then ((1 : Int32)) else (if v3 < 0 then ((1 : Int32)) else (if v3 ≤ 30 then ((0 : Int32)) else ((1 : Int32)))))))) := ⟨_, rfl⟩
  have J_13_5 : ∀ (s0_13_5 : Int32) (H : Heap) (locs : List Loc) (ls : Array Slot), some R = (K_j13_5 s0_13_5) → va_P (dC, dI) classes [(am, .inr (5, [.int zm_thrown, .ref am_there, .ref am_ones, .ref am_others, .ref am_xs, .ref am_ys, .int zm_many, .ref am_a, .ref am_b, .ref am_from, .ref am_to, .ref am_way, .ref am_depth, .ref am_above, .ref am_pile, .ref am_next, .ref am_leader, .ref am_turned, .ref am_piece, .ref am_numbers, .ref am_row])), (am_ones, .inl (km_ones, 24, .inl zm_ones)), (am_others, .inl (km_others, 24, .inl zm_others)), (am_xs, .inl (km_xs, 10, .inl zm_xs)), (am_ys, .inl (km_ys, 10, .inl zm_ys))] H → va_D A [(am, .inr (5, [.int zm_thrown, .ref am_there, .ref am_ones, .ref am_others, .ref am_xs, .ref am_ys, .int zm_many, .ref am_a, .ref am_b, .ref am_from, .ref am_to, .ref am_way, .ref am_depth, .ref am_above, .ref am_pile, .ref am_next, .ref am_leader, .ref am_turned, .ref am_piece, .ref am_numbers, .ref am_row])), (am_ones, .inl (km_ones, 24, .inl zm_ones)), (am_others, .inl (km_others, 24, .inl zm_others)), (am_xs, .inl (km_xs, 10, .inl zm_xs)), (am_ys, .inl (km_ys, 10, .inl zm_ys))] → va_S A s.heap H locs → lv_has ls 4 [(0, .ref am), (1, .int v1), (2, .int v2), (3, .int v3)] → W p l e (headSpec w_Mod_place ({ frames := 4, cells := 0, slots := 0, locals := 98 })).room s m args below meth c H locs 0 0 (MQ below (va_Qi (fun (r : Int32) (u : Int32 × (Nat → Int32) × (Nat → Int32)) => (r, u) = R) (fun u t => End_ dC dI A [(km_ones, .int), (km_others, .int), (km_xs, .int), (km_ys, .int)] [(am, .inr (5, [.int u.1, .ref am_there, .ref am_ones, .ref am_others, .ref am_xs, .ref am_ys, .int zm_many, .ref am_a, .ref am_b, .ref am_from, .ref am_to, .ref am_way, .ref am_depth, .ref am_above, .ref am_pile, .ref am_next, .ref am_leader, .ref am_turned, .ref am_piece, .ref am_numbers, .ref am_row])), (am_ones, .inl (km_ones, 24, .inl zm_ones)), (am_others, .inl (km_others, 24, .inl zm_others)), (am_xs, .inl (km_xs, 10, .inl u.2.1)), (am_ys, .inl (km_ys, 10, .inl u.2.2))] t) A) args s 0 0 A) (F0 m 13 ls [.int s0_13_5, .ref am]) := by
    intro s0_13_5 H locs ls hI hP hD hS hl
    rw [hK_j13_5] at hI
    refine lv_iload_n hx hb d_Mod_place_13 rfl (lv_at hl 2 rfl) ?_
    obtain ⟨K_j38_14, hK_j38_14⟩ : ∃ K : Int32 → Option (Int32 × Int32 × (Nat → Int32) × (Nat → Int32)), K = (fun (j_38_14 : Int32) => ((F_refusedM s0_13_5 j_38_14 ((0 : Int32))).bind (fun p_39 => (if p_39.1 = 0 then (if inb v1 10 = true then ((F_meetingsM zm_ones zm_others (upd zm_xs (Int32.toNatClampNeg v1) v2) (upd zm_ys (Int32.toNatClampNeg v1) v3)).bind (fun p_62 => some (p_62, p_39.2, upd zm_xs (Int32.toNatClampNeg v1) v2, upd zm_ys (Int32.toNatClampNeg v1) v3))) else none) else some ((0 : Int32), p_39.2, zm_xs, zm_ys))))) := ⟨_, rfl⟩
    have J_38_14 : ∀ (s0_38_14 : Int32) (H : Heap) (locs : List Loc) (ls : Array Slot), some R = (K_j38_14 s0_38_14) → va_P (dC, dI) classes [(am, .inr (5, [.int zm_thrown, .ref am_there, .ref am_ones, .ref am_others, .ref am_xs, .ref am_ys, .int zm_many, .ref am_a, .ref am_b, .ref am_from, .ref am_to, .ref am_way, .ref am_depth, .ref am_above, .ref am_pile, .ref am_next, .ref am_leader, .ref am_turned, .ref am_piece, .ref am_numbers, .ref am_row])), (am_ones, .inl (km_ones, 24, .inl zm_ones)), (am_others, .inl (km_others, 24, .inl zm_others)), (am_xs, .inl (km_xs, 10, .inl zm_xs)), (am_ys, .inl (km_ys, 10, .inl zm_ys))] H → va_D A [(am, .inr (5, [.int zm_thrown, .ref am_there, .ref am_ones, .ref am_others, .ref am_xs, .ref am_ys, .int zm_many, .ref am_a, .ref am_b, .ref am_from, .ref am_to, .ref am_way, .ref am_depth, .ref am_above, .ref am_pile, .ref am_next, .ref am_leader, .ref am_turned, .ref am_piece, .ref am_numbers, .ref am_row])), (am_ones, .inl (km_ones, 24, .inl zm_ones)), (am_others, .inl (km_others, 24, .inl zm_others)), (am_xs, .inl (km_xs, 10, .inl zm_xs)), (am_ys, .inl (km_ys, 10, .inl zm_ys))] → va_S A s.heap H locs → lv_has ls 4 [(0, .ref am), (1, .int v1), (2, .int v2), (3, .int v3)] → W p l e (headSpec w_Mod_place ({ frames := 4, cells := 0, slots := 0, locals := 98 })).room s m args below meth c H locs 0 0 (MQ below (va_Qi (fun (r : Int32) (u : Int32 × (Nat → Int32) × (Nat → Int32)) => (r, u) = R) (fun u t => End_ dC dI A [(km_ones, .int), (km_others, .int), (km_xs, .int), (km_ys, .int)] [(am, .inr (5, [.int u.1, .ref am_there, .ref am_ones, .ref am_others, .ref am_xs, .ref am_ys, .int zm_many, .ref am_a, .ref am_b, .ref am_from, .ref am_to, .ref am_way, .ref am_depth, .ref am_above, .ref am_pile, .ref am_next, .ref am_leader, .ref am_turned, .ref am_piece, .ref am_numbers, .ref am_row])), (am_ones, .inl (km_ones, 24, .inl zm_ones)), (am_others, .inl (km_others, 24, .inl zm_others)), (am_xs, .inl (km_xs, 10, .inl u.2.1)), (am_ys, .inl (km_ys, 10, .inl u.2.2))] t) A) args s 0 0 A) (F0 m 38 ls [.int s0_38_14, .int s0_13_5, .ref am]) := by
      intro s0_38_14 H locs ls hI hP hD hS hl
      rw [hK_j38_14] at hI
      refine lv_iconst (v := 0) hx hb d_Mod_place_38 (by decide) ?_
      obtain ⟨p_39, hg_39, hI⟩ := ob_bd hI
      have hPc := hP.sub (ws' := [(am, .inr (5, [.int zm_thrown, .ref am_there, .ref am_ones, .ref am_others, .ref am_xs, .ref am_ys, .int zm_many, .ref am_a, .ref am_b, .ref am_from, .ref am_to, .ref am_way, .ref am_depth, .ref am_above, .ref am_pile, .ref am_next, .ref am_leader, .ref am_turned, .ref am_piece, .ref am_numbers, .ref am_row]))]) [0] rfl
      have hDc := hD.sub (ws' := [(am, .inr (5, [.int zm_thrown, .ref am_there, .ref am_ones, .ref am_others, .ref am_xs, .ref am_ys, .int zm_many, .ref am_a, .ref am_b, .ref am_from, .ref am_to, .ref am_way, .ref am_depth, .ref am_above, .ref am_pile, .ref am_next, .ref am_leader, .ref am_turned, .ref am_piece, .ref am_numbers, .ref am_row]))]) [0] (by decide) rfl
      have hKc := hK.sub (tys' := []) [] rfl
      have hFc := va_free (wc := [(am, .inr (5, [.int zm_thrown, .ref am_there, .ref am_ones, .ref am_others, .ref am_xs, .ref am_ys, .int zm_many, .ref am_a, .ref am_b, .ref am_from, .ref am_to, .ref am_way, .ref am_depth, .ref am_above, .ref am_pile, .ref am_next, .ref am_leader, .ref am_turned, .ref am_piece, .ref am_numbers, .ref am_row]))]) hD hS hA [0] rfl
      refine va_calli (va_runV (As := [.int s0_13_5, .int s0_38_14, .int 0]) (rest := []) ⟨hx, hb, hml, hown, hts⟩ (c_refusedM l dC dI H.size am am_there am_ones am_others am_xs am_ys am_a am_b am_from am_to am_way am_depth am_above am_pile am_next am_leader am_turned am_piece am_numbers am_row zm_thrown zm_many s0_13_5 s0_38_14 0 p_39 hg_39) (cwV 3 hts (gi4 mw_3_236 mw_3_238 mw_p_31 mw_1_6 mw_3_239) rfl rfl rfl (by decide +kernel) ⟨Nat.le_of_ble_eq_true rfl, Nat.le_of_ble_eq_true rfl⟩) ⟨fb_, va_recv (q0 := 0) (ci := 5) hK hP rfl rfl, pre_ hPc hKc hDc hN⟩ rfl rfl hl.1 rfl (lv_room (Nat.le_of_ble_eq_true rfl)) d_Mod_place_39 ⟨Nat.le_of_ble_eq_true rfl, Nat.le_of_ble_eq_true rfl⟩) hS (fun q _ h => hFc q h) hFc (fun r_39 wm_thrown_39 t H locs ht hvm hp_39 hB hz1 hk1 hS => ?_)
      obtain ⟨hP1, -, hD1⟩ := hB
      rw [ht] at hP1
      obtain ⟨hP, hD⟩ := va_join (wr := [(am_ones, .inl (km_ones, 24, .inl zm_ones)), (am_others, .inl (km_others, 24, .inl zm_others)), (am_xs, .inl (km_xs, 10, .inl zm_xs)), (am_ys, .inl (km_ys, 10, .inl zm_ys))]) (w1 := [(am, .inr (5, [.int wm_thrown_39, .ref am_there, .ref am_ones, .ref am_others, .ref am_xs, .ref am_ys, .int zm_many, .ref am_a, .ref am_b, .ref am_from, .ref am_to, .ref am_way, .ref am_depth, .ref am_above, .ref am_pile, .ref am_next, .ref am_leader, .ref am_turned, .ref am_piece, .ref am_numbers, .ref am_row]))]) hP hD [0] [1, 2, 3, 4] rfl rfl (by decide) (by decide) hk1 hFc hP1 hD1
      obtain ⟨hp_39, hz_39⟩ := hp_39
      have hp_39 : (r_39, wm_thrown_39) = p_39 := hp_39
      subst hp_39
      have hP : va_P (dC, dI) classes [(am_ones, .inl (km_ones, 24, .inl zm_ones)), (am_others, .inl (km_others, 24, .inl zm_others)), (am_xs, .inl (km_xs, 10, .inl zm_xs)), (am_ys, .inl (km_ys, 10, .inl zm_ys)), (am, .inr (5, [.int wm_thrown_39, .ref am_there, .ref am_ones, .ref am_others, .ref am_xs, .ref am_ys, .int zm_many, .ref am_a, .ref am_b, .ref am_from, .ref am_to, .ref am_way, .ref am_depth, .ref am_above, .ref am_pile, .ref am_next, .ref am_leader, .ref am_turned, .ref am_piece, .ref am_numbers, .ref am_row]))] H := hP
      have hD : va_D A [(am_ones, .inl (km_ones, 24, .inl zm_ones)), (am_others, .inl (km_others, 24, .inl zm_others)), (am_xs, .inl (km_xs, 10, .inl zm_xs)), (am_ys, .inl (km_ys, 10, .inl zm_ys)), (am, .inr (5, [.int wm_thrown_39, .ref am_there, .ref am_ones, .ref am_others, .ref am_xs, .ref am_ys, .int zm_many, .ref am_a, .ref am_b, .ref am_from, .ref am_to, .ref am_way, .ref am_depth, .ref am_above, .ref am_pile, .ref am_next, .ref am_leader, .ref am_turned, .ref am_piece, .ref am_numbers, .ref am_row]))] := hD
      refine lv_if_eq (tgt := 47) hx hb d_Mod_place_42 rfl (fun hc_42 => ?_) (fun hc_42 => ?_)
      · skip
        have hI := hI.trans (if_pos hc_42)
        refine lv_aload_n hx hb d_Mod_place_47 rfl (lv_at hl 0 rfl) ?_
        refine va_get (D := (dC, dI)) (ci := 5) (v := .ref am_xs) (C := R_Mod) (T := F_Mod) (N := 21) hx hb hts (fun w h => List.mem_cons_of_mem _ (in_Mod w h)) hown hK hP 4 rfl rfl 4 (by decide) (hts _ (List.mem_cons_of_mem _ mw_3_160)) (fun _ h9 => h9) rfl d_Mod_place_48 ?_
        refine lv_iload_n hx hb d_Mod_place_51 rfl (lv_at hl 1 rfl) ?_
        refine lv_iload_n hx hb d_Mod_place_52 rfl (lv_at hl 2 rfl) ?_
        have hi_53 := ob_in hI
        have hI := ob_th hI
        refine va_iast (D := (dC, dI)) hx hb hK hP hD hS 2 2 rfl rfl hi_53 d_Mod_place_53 (fun H locs hP hD hS => ?_)
        have hP : va_P (dC, dI) classes [(am_ones, .inl (km_ones, 24, .inl zm_ones)), (am_others, .inl (km_others, 24, .inl zm_others)), (am_xs, .inl (km_xs, 10, .inl (upd zm_xs (Int32.toNatClampNeg v1) v2))), (am_ys, .inl (km_ys, 10, .inl zm_ys)), (am, .inr (5, [.int wm_thrown_39, .ref am_there, .ref am_ones, .ref am_others, .ref am_xs, .ref am_ys, .int zm_many, .ref am_a, .ref am_b, .ref am_from, .ref am_to, .ref am_way, .ref am_depth, .ref am_above, .ref am_pile, .ref am_next, .ref am_leader, .ref am_turned, .ref am_piece, .ref am_numbers, .ref am_row]))] H := hP
        have hD : va_D A [(am_ones, .inl (km_ones, 24, .inl zm_ones)), (am_others, .inl (km_others, 24, .inl zm_others)), (am_xs, .inl (km_xs, 10, .inl (upd zm_xs (Int32.toNatClampNeg v1) v2))), (am_ys, .inl (km_ys, 10, .inl zm_ys)), (am, .inr (5, [.int wm_thrown_39, .ref am_there, .ref am_ones, .ref am_others, .ref am_xs, .ref am_ys, .int zm_many, .ref am_a, .ref am_b, .ref am_from, .ref am_to, .ref am_way, .ref am_depth, .ref am_above, .ref am_pile, .ref am_next, .ref am_leader, .ref am_turned, .ref am_piece, .ref am_numbers, .ref am_row]))] := hD
        refine lv_aload_n hx hb d_Mod_place_54 rfl (lv_at hl 0 rfl) ?_
        refine va_get (D := (dC, dI)) (ci := 5) (v := .ref am_ys) (C := R_Mod) (T := F_Mod) (N := 21) hx hb hts (fun w h => List.mem_cons_of_mem _ (in_Mod w h)) hown hK hP 4 rfl rfl 5 (by decide) (hts _ (List.mem_cons_of_mem _ mw_3_161)) (fun _ h9 => h9) rfl d_Mod_place_55 ?_
        refine lv_iload_n hx hb d_Mod_place_58 rfl (lv_at hl 1 rfl) ?_
        refine lv_iload_n hx hb d_Mod_place_59 rfl (lv_at hl 3 rfl) ?_
        refine va_iast (D := (dC, dI)) hx hb hK hP hD hS 3 3 rfl rfl hi_53 d_Mod_place_60 (fun H locs hP hD hS => ?_)
        have hP : va_P (dC, dI) classes [(am_ones, .inl (km_ones, 24, .inl zm_ones)), (am_others, .inl (km_others, 24, .inl zm_others)), (am_xs, .inl (km_xs, 10, .inl (upd zm_xs (Int32.toNatClampNeg v1) v2))), (am_ys, .inl (km_ys, 10, .inl (upd zm_ys (Int32.toNatClampNeg v1) v3))), (am, .inr (5, [.int wm_thrown_39, .ref am_there, .ref am_ones, .ref am_others, .ref am_xs, .ref am_ys, .int zm_many, .ref am_a, .ref am_b, .ref am_from, .ref am_to, .ref am_way, .ref am_depth, .ref am_above, .ref am_pile, .ref am_next, .ref am_leader, .ref am_turned, .ref am_piece, .ref am_numbers, .ref am_row]))] H := hP
        have hD : va_D A [(am_ones, .inl (km_ones, 24, .inl zm_ones)), (am_others, .inl (km_others, 24, .inl zm_others)), (am_xs, .inl (km_xs, 10, .inl (upd zm_xs (Int32.toNatClampNeg v1) v2))), (am_ys, .inl (km_ys, 10, .inl (upd zm_ys (Int32.toNatClampNeg v1) v3))), (am, .inr (5, [.int wm_thrown_39, .ref am_there, .ref am_ones, .ref am_others, .ref am_xs, .ref am_ys, .int zm_many, .ref am_a, .ref am_b, .ref am_from, .ref am_to, .ref am_way, .ref am_depth, .ref am_above, .ref am_pile, .ref am_next, .ref am_leader, .ref am_turned, .ref am_piece, .ref am_numbers, .ref am_row]))] := hD
        refine lv_aload_n hx hb d_Mod_place_61 rfl (lv_at hl 0 rfl) ?_
        obtain ⟨p_62, hg_62, hI⟩ := ob_bd hI
        have hPc := hP.sub (ws' := [(am, .inr (5, [.int wm_thrown_39, .ref am_there, .ref am_ones, .ref am_others, .ref am_xs, .ref am_ys, .int zm_many, .ref am_a, .ref am_b, .ref am_from, .ref am_to, .ref am_way, .ref am_depth, .ref am_above, .ref am_pile, .ref am_next, .ref am_leader, .ref am_turned, .ref am_piece, .ref am_numbers, .ref am_row])), (am_ones, .inl (km_ones, 24, .inl zm_ones)), (am_others, .inl (km_others, 24, .inl zm_others)), (am_xs, .inl (km_xs, 10, .inl (upd zm_xs (Int32.toNatClampNeg v1) v2))), (am_ys, .inl (km_ys, 10, .inl (upd zm_ys (Int32.toNatClampNeg v1) v3)))]) [4, 0, 1, 2, 3] rfl
        have hDc := hD.sub (ws' := [(am, .inr (5, [.int wm_thrown_39, .ref am_there, .ref am_ones, .ref am_others, .ref am_xs, .ref am_ys, .int zm_many, .ref am_a, .ref am_b, .ref am_from, .ref am_to, .ref am_way, .ref am_depth, .ref am_above, .ref am_pile, .ref am_next, .ref am_leader, .ref am_turned, .ref am_piece, .ref am_numbers, .ref am_row])), (am_ones, .inl (km_ones, 24, .inl zm_ones)), (am_others, .inl (km_others, 24, .inl zm_others)), (am_xs, .inl (km_xs, 10, .inl (upd zm_xs (Int32.toNatClampNeg v1) v2))), (am_ys, .inl (km_ys, 10, .inl (upd zm_ys (Int32.toNatClampNeg v1) v3)))]) [4, 0, 1, 2, 3] (by decide) rfl
        have hKc := hK.sub (tys' := [(km_ones, .int), (km_others, .int), (km_xs, .int), (km_ys, .int)]) [0, 1, 2, 3] rfl
        have hFc := va_free (wc := [(am, .inr (5, [.int wm_thrown_39, .ref am_there, .ref am_ones, .ref am_others, .ref am_xs, .ref am_ys, .int zm_many, .ref am_a, .ref am_b, .ref am_from, .ref am_to, .ref am_way, .ref am_depth, .ref am_above, .ref am_pile, .ref am_next, .ref am_leader, .ref am_turned, .ref am_piece, .ref am_numbers, .ref am_row])), (am_ones, .inl (km_ones, 24, .inl zm_ones)), (am_others, .inl (km_others, 24, .inl zm_others)), (am_xs, .inl (km_xs, 10, .inl (upd zm_xs (Int32.toNatClampNeg v1) v2))), (am_ys, .inl (km_ys, 10, .inl (upd zm_ys (Int32.toNatClampNeg v1) v3)))]) hD hS hA [4, 0, 1, 2, 3] rfl
        refine va_calli (va_runV (As := []) (rest := []) ⟨hx, hb, hml, hown, hts⟩ (c_meetingsM l dC dI H.size am am_there am_ones am_others am_xs am_ys am_a am_b am_from am_to am_way am_depth am_above am_pile am_next am_leader am_turned am_piece am_numbers am_row km_ones km_others km_xs km_ys wm_thrown_39 zm_many zm_ones zm_others (upd zm_xs (Int32.toNatClampNeg v1) v2) (upd zm_ys (Int32.toNatClampNeg v1) v3) p_62 hg_62) (cwV 0 hts (gi4 mw_4_204 mw_4_206 mw_p_62 mw_1_6 mw_4_207) rfl rfl rfl (by decide +kernel) ⟨Nat.le_of_ble_eq_true rfl, Nat.le_of_ble_eq_true rfl⟩) ⟨fb_, va_recv (q0 := 4) (ci := 5) hK hP rfl rfl, pre_ hPc hKc hDc hN⟩ rfl rfl hl.1 rfl (lv_room (Nat.le_of_ble_eq_true rfl)) d_Mod_place_62 ⟨Nat.le_of_ble_eq_true rfl, Nat.le_of_ble_eq_true rfl⟩) hS (fun q _ h => hFc q h) hFc (fun r_62 u t H locs ht hvm hp_62 hB hz1 hk1 hS => ?_)
        obtain ⟨hP1, -, hD1⟩ := hB
        rw [ht] at hP1
        obtain ⟨hP, hD⟩ := va_join (wr := []) (w1 := [(am, .inr (5, [.int wm_thrown_39, .ref am_there, .ref am_ones, .ref am_others, .ref am_xs, .ref am_ys, .int zm_many, .ref am_a, .ref am_b, .ref am_from, .ref am_to, .ref am_way, .ref am_depth, .ref am_above, .ref am_pile, .ref am_next, .ref am_leader, .ref am_turned, .ref am_piece, .ref am_numbers, .ref am_row])), (am_ones, .inl (km_ones, 24, .inl zm_ones)), (am_others, .inl (km_others, 24, .inl zm_others)), (am_xs, .inl (km_xs, 10, .inl (upd zm_xs (Int32.toNatClampNeg v1) v2))), (am_ys, .inl (km_ys, 10, .inl (upd zm_ys (Int32.toNatClampNeg v1) v3)))]) hP hD [4, 0, 1, 2, 3] [] rfl rfl (by decide) (by decide) hk1 hFc hP1 hD1
        have hp_62 : (r_62) = p_62 := hp_62
        subst hp_62
        have hP : va_P (dC, dI) classes [(am, .inr (5, [.int wm_thrown_39, .ref am_there, .ref am_ones, .ref am_others, .ref am_xs, .ref am_ys, .int zm_many, .ref am_a, .ref am_b, .ref am_from, .ref am_to, .ref am_way, .ref am_depth, .ref am_above, .ref am_pile, .ref am_next, .ref am_leader, .ref am_turned, .ref am_piece, .ref am_numbers, .ref am_row])), (am_ones, .inl (km_ones, 24, .inl zm_ones)), (am_others, .inl (km_others, 24, .inl zm_others)), (am_xs, .inl (km_xs, 10, .inl (upd zm_xs (Int32.toNatClampNeg v1) v2))), (am_ys, .inl (km_ys, 10, .inl (upd zm_ys (Int32.toNatClampNeg v1) v3)))] H := hP
        have hD : va_D A [(am, .inr (5, [.int wm_thrown_39, .ref am_there, .ref am_ones, .ref am_others, .ref am_xs, .ref am_ys, .int zm_many, .ref am_a, .ref am_b, .ref am_from, .ref am_to, .ref am_way, .ref am_depth, .ref am_above, .ref am_pile, .ref am_next, .ref am_leader, .ref am_turned, .ref am_piece, .ref am_numbers, .ref am_row])), (am_ones, .inl (km_ones, 24, .inl zm_ones)), (am_others, .inl (km_others, 24, .inl zm_others)), (am_xs, .inl (km_xs, 10, .inl (upd zm_xs (Int32.toNatClampNeg v1) v2))), (am_ys, .inl (km_ys, 10, .inl (upd zm_ys (Int32.toNatClampNeg v1) v3)))] := hD
        exact W.iret (v := r_62) hx hb hr (fun t ht hW => ⟨⟨r_62, (wm_thrown_39, upd zm_xs (Int32.toNatClampNeg v1) v2, upd zm_ys (Int32.toNatClampNeg v1) v3), rfl, (Option.some.inj hI).symm, by rw [ht]; exact hP, va_K.moved hW.alike hK, hD⟩, hS.F ht⟩) hS.2.2 d_Mod_place_65
      · skip
        have hI := hI.trans (if_neg hc_42)
        refine lv_iconst (v := 0) hx hb d_Mod_place_45 (by decide) ?_
        have hP := hP.sub (ws' := [(am, .inr (5, [.int wm_thrown_39, .ref am_there, .ref am_ones, .ref am_others, .ref am_xs, .ref am_ys, .int zm_many, .ref am_a, .ref am_b, .ref am_from, .ref am_to, .ref am_way, .ref am_depth, .ref am_above, .ref am_pile, .ref am_next, .ref am_leader, .ref am_turned, .ref am_piece, .ref am_numbers, .ref am_row])), (am_ones, .inl (km_ones, 24, .inl zm_ones)), (am_others, .inl (km_others, 24, .inl zm_others)), (am_xs, .inl (km_xs, 10, .inl zm_xs)), (am_ys, .inl (km_ys, 10, .inl zm_ys))]) [4, 0, 1, 2, 3] rfl
        have hD := hD.sub (ws' := [(am, .inr (5, [.int wm_thrown_39, .ref am_there, .ref am_ones, .ref am_others, .ref am_xs, .ref am_ys, .int zm_many, .ref am_a, .ref am_b, .ref am_from, .ref am_to, .ref am_way, .ref am_depth, .ref am_above, .ref am_pile, .ref am_next, .ref am_leader, .ref am_turned, .ref am_piece, .ref am_numbers, .ref am_row])), (am_ones, .inl (km_ones, 24, .inl zm_ones)), (am_others, .inl (km_others, 24, .inl zm_others)), (am_xs, .inl (km_xs, 10, .inl zm_xs)), (am_ys, .inl (km_ys, 10, .inl zm_ys))]) [4, 0, 1, 2, 3] (by decide) rfl
        exact W.iret (v := 0) hx hb hr (fun t ht hW => ⟨⟨0, (wm_thrown_39, zm_xs, zm_ys), rfl, (Option.some.inj hI).symm, by rw [ht]; exact hP, va_K.moved hW.alike hK, hD⟩, hS.F ht⟩) hS.2.2 d_Mod_place_46
    have hI : some R = (K_j38_14 (if v2 < 0 then ((1 : Int32)) else (if 30 < v2 then ((1 : Int32)) else (if v3 < 0 then ((1 : Int32)) else (if v3 ≤ 30 then ((0 : Int32)) else ((1 : Int32))))))) := by rw [hK_j38_14]; exact hI
    refine lv_if_lt (tgt := 33) hx hb d_Mod_place_14 rfl (fun hc_14 => ?_) (fun hc_14 => ?_)
    · skip
      have hI := ob_ifC (C := fun y_ => K_j38_14 y_) hc_14 hI
      refine lv_iconst (v := 1) hx hb d_Mod_place_33 (by decide) ?_
      refine lv_goto (tgt := 38) hx hb d_Mod_place_34 rfl ?_
      have hl := lv_sub hl [0, 1, 2, 3] rfl
      exact J_38_14 _ _ _ _ hI hP hD hS hl
    · skip
      have hI := ob_elC (C := fun y_ => K_j38_14 y_) hc_14 hI
      refine lv_iload_n hx hb d_Mod_place_17 rfl (lv_at hl 2 rfl) ?_
      refine lv_bipush (v := 30) hx hb d_Mod_place_18 (by decide) ?_
      refine lv_icmp_gt (tgt := 33) hx hb d_Mod_place_20 rfl (fun hc_20 => ?_) (fun hc_20 => ?_)
      · skip
        have hI := ob_ifC (C := fun y_ => K_j38_14 y_) hc_20 hI
        refine lv_iconst (v := 1) hx hb d_Mod_place_33 (by decide) ?_
        refine lv_goto (tgt := 38) hx hb d_Mod_place_34 rfl ?_
        have hl := lv_sub hl [0, 1, 2, 3] rfl
        exact J_38_14 _ _ _ _ hI hP hD hS hl
      · skip
        have hI := ob_elC (C := fun y_ => K_j38_14 y_) hc_20 hI
        refine lv_iload_n hx hb d_Mod_place_23 rfl (lv_at hl 3 rfl) ?_
        refine lv_if_lt (tgt := 33) hx hb d_Mod_place_24 rfl (fun hc_24 => ?_) (fun hc_24 => ?_)
        · skip
          have hI := ob_ifC (C := fun y_ => K_j38_14 y_) hc_24 hI
          refine lv_iconst (v := 1) hx hb d_Mod_place_33 (by decide) ?_
          refine lv_goto (tgt := 38) hx hb d_Mod_place_34 rfl ?_
          have hl := lv_sub hl [0, 1, 2, 3] rfl
          exact J_38_14 _ _ _ _ hI hP hD hS hl
        · skip
          have hI := ob_elC (C := fun y_ => K_j38_14 y_) hc_24 hI
          refine lv_iload_n hx hb d_Mod_place_27 rfl (lv_at hl 3 rfl) ?_
          refine lv_bipush (v := 30) hx hb d_Mod_place_28 (by decide) ?_
          refine lv_icmp_le (tgt := 37) hx hb d_Mod_place_30 rfl (fun hc_30 => ?_) (fun hc_30 => ?_)
          · skip
            have hI := ob_ifC (C := fun y_ => K_j38_14 y_) hc_30 hI
            refine lv_iconst (v := 0) hx hb d_Mod_place_37 (by decide) ?_
            have hl := lv_sub hl [0, 1, 2, 3] rfl
            exact J_38_14 _ _ _ _ hI hP hD hS hl
          · skip
            have hI := ob_elC (C := fun y_ => K_j38_14 y_) hc_30 hI
            refine lv_iconst (v := 1) hx hb d_Mod_place_33 (by decide) ?_
            refine lv_goto (tgt := 38) hx hb d_Mod_place_34 rfl ?_
            have hl := lv_sub hl [0, 1, 2, 3] rfl
            exact J_38_14 _ _ _ _ hI hP hD hS hl
  have hI : some R = (K_j13_5 (if (f_isNN v1) = 0 then ((1 : Int32)) else ((0 : Int32)))) := by rw [hK_j13_5]; exact hI
  refine lv_if_ne (tgt := 12) hx hb d_Mod_place_5 rfl (fun hc_5 => ?_) (fun hc_5 => ?_)
  · skip
    have hI := ob_elC (C := fun y_ => K_j13_5 y_) hc_5 hI
    refine lv_iconst (v := 0) hx hb d_Mod_place_12 (by decide) ?_
    have hl := lv_sub hl [0, 1, 2, 3] rfl
    exact J_13_5 _ _ _ _ hI hP hD hS hl
  · skip
    have hI := ob_ifC (C := fun y_ => K_j13_5 y_) hc_5 hI
    refine lv_iconst (v := 1) hx hb d_Mod_place_8 (by decide) ?_
    refine lv_goto (tgt := 13) hx hb d_Mod_place_9 rfl ?_
    have hl := lv_sub hl [0, 1, 2, 3] rfl
    exact J_13_5 _ _ _ _ hI hP hD hS hl
set_option maxHeartbeats 4000000 in
set_option maxRecDepth 100000 in
theorem c_atM (l : Launch) (dC : Nat → ClassId) (dI : Nat → Nat → Nat) (sz : Nat) (am am_there am_ones am_others am_xs am_ys am_a am_b am_from am_to am_way am_depth am_above am_pile am_next am_leader am_turned am_piece am_numbers am_row : Nat) (km_xs km_ys : ClassId) (zm_thrown : Int32) (zm_many : Int32) (zm_xs : Nat → Int32) (zm_ys : Nat → Int32) (v1 v2 : Int32) (R : Int32 × Int32) (hR : F_atM zm_xs zm_ys v1 v2 = some R) : Met l y_Mod_at w_Mod_at ({ frames := 1, cells := 0, slots := 0, locals := 23 }) (Pre_ dC dI sz [.ref am, .int v1, .int v2] [(am, .inr (5, [.int zm_thrown, .ref am_there, .ref am_ones, .ref am_others, .ref am_xs, .ref am_ys, .int zm_many, .ref am_a, .ref am_b, .ref am_from, .ref am_to, .ref am_way, .ref am_depth, .ref am_above, .ref am_pile, .ref am_next, .ref am_leader, .ref am_turned, .ref am_piece, .ref am_numbers, .ref am_row])), (am_xs, .inl (km_xs, 10, .inl zm_xs)), (am_ys, .inl (km_ys, 10, .inl zm_ys))] [(km_xs, .int), (km_ys, .int)]) (va_Qi (fun (r : Int32) (u : Int32) => (r, u) = R) (fun u t => End_ dC dI (va_A [(am, .inr (5, [.int zm_thrown, .ref am_there, .ref am_ones, .ref am_others, .ref am_xs, .ref am_ys, .int zm_many, .ref am_a, .ref am_b, .ref am_from, .ref am_to, .ref am_way, .ref am_depth, .ref am_above, .ref am_pile, .ref am_next, .ref am_leader, .ref am_turned, .ref am_piece, .ref am_numbers, .ref am_row])), (am_xs, .inl (km_xs, 10, .inl zm_xs)), (am_ys, .inl (km_ys, 10, .inl zm_ys))] sz) [(km_xs, .int), (km_ys, .int)] [(am, .inr (5, [.int u, .ref am_there, .ref am_ones, .ref am_others, .ref am_xs, .ref am_ys, .int zm_many, .ref am_a, .ref am_b, .ref am_from, .ref am_to, .ref am_way, .ref am_depth, .ref am_above, .ref am_pile, .ref am_next, .ref am_leader, .ref am_turned, .ref am_piece, .ref am_numbers, .ref am_row])), (am_xs, .inl (km_xs, 10, .inl zm_xs)), (am_ys, .inl (km_ys, 10, .inl zm_ys))] t) (va_A [(am, .inr (5, [.int zm_thrown, .ref am_there, .ref am_ones, .ref am_others, .ref am_xs, .ref am_ys, .int zm_many, .ref am_a, .ref am_b, .ref am_from, .ref am_to, .ref am_way, .ref am_depth, .ref am_above, .ref am_pile, .ref am_next, .ref am_leader, .ref am_turned, .ref am_piece, .ref am_numbers, .ref am_row])), (am_xs, .inl (km_xs, 10, .inl zm_xs)), (am_ys, .inl (km_ys, 10, .inl zm_ys))] sz)) 0 0 (va_A [(am, .inr (5, [.int zm_thrown, .ref am_there, .ref am_ones, .ref am_others, .ref am_xs, .ref am_ys, .int zm_many, .ref am_a, .ref am_b, .ref am_from, .ref am_to, .ref am_way, .ref am_depth, .ref am_above, .ref am_pile, .ref am_next, .ref am_leader, .ref am_turned, .ref am_piece, .ref am_numbers, .ref am_row])), (am_xs, .inl (km_xs, 10, .inl zm_xs)), (am_ys, .inl (km_ys, 10, .inl zm_ys))] sz) := by
  refine Met.ofW (cc := b_Mod_at) (maxL := 3) (ret := (some .int)) (by decide) rfl ?_
  intro p e s m args below meth c s₁ B hml hv
  obtain ⟨hargs, hsz, hP, hK, hD0, hN⟩ := hv
  have hx := B.exec
  have hb := B.bytes
  have hr := B.returns
  have hts := atoms_spec (ws := w_Mod_at) B.pre
  have hown : s.vm.findClass R_Mod = some m.cls := findClass_of_methodNamed B.named
  have hlocks := B.notSynchronized
  subst hsz
  have hD := hD0.self (sz := s.heap.size)
  generalize hAe : va_A [(am, .inr (5, [.int zm_thrown, .ref am_there, .ref am_ones, .ref am_others, .ref am_xs, .ref am_ys, .int zm_many, .ref am_a, .ref am_b, .ref am_from, .ref am_to, .ref am_way, .ref am_depth, .ref am_above, .ref am_pile, .ref am_next, .ref am_leader, .ref am_turned, .ref am_piece, .ref am_numbers, .ref am_row])), (am_xs, .inl (km_xs, 10, .inl zm_xs)), (am_ys, .inl (km_ys, 10, .inl zm_ys))] s.heap.size = A at hD ⊢
  have hA : ∀ q : Nat, s.heap.size ≤ q → A q := fun q h => by rw [← hAe]; exact Or.inr h
  have hS : va_S A s.heap s.heap [] := va_S.rf
  have hl := lv_entry ([.ref am, .int v1, .int v2]) (n := 3) (Nat.le_of_ble_eq_true rfl)
  refine W.eq (congrArg (fun a => entryFrame m a 3) hargs) ?_
  rw [lg_entry_eq]
  generalize (lg_sl ([.ref am, .int v1, .int v2]) ++ List.replicate (3 - (lg_sl ([.ref am, .int v1, .int v2])).length) Slot.unset).toArray = ls at hl ⊢
  have hl : lv_has ls 3 [(0, .ref am), (1, .int v1), (2, .int v2)] := hl
  generalize hH0 : ([] : List Loc) = locs at hS ⊢
  have hI := hR.symm
  rw [F_atM] at hI
  refine lv_aload_n hx hb d_Mod_at_0 rfl (lv_at hl 0 rfl) ?_
  refine lv_iload_n hx hb d_Mod_at_1 rfl (lv_at hl 1 rfl) ?_
  have hPc := hP.sub (ws' := []) [] rfl
  have hDc := hD.sub (ws' := []) [] (by decide) rfl
  have hKc := hK.sub (tys' := []) [] rfl
  have hFc := va_free (wc := []) hD hS hA [] rfl
  refine va_calli (va_runS (As := [.int v1]) (rest := [.ref am]) ⟨hx, hb, hml, hown, hts⟩ (c_isNode l dC dI s.heap.size v1) (cwS 1 hts (gi3 mw_3_229 mw_3_230 mw_1_6 mw_3_231) rfl rfl rfl (by decide +kernel) ⟨Nat.le_of_ble_eq_true rfl, Nat.le_of_ble_eq_true rfl⟩) ⟨fb_, pre_ hPc hKc hDc hN⟩ rfl rfl hl.1 rfl (lv_room (Nat.le_of_ble_eq_true rfl)) d_Mod_at_2 ⟨Nat.le_of_ble_eq_true rfl, Nat.le_of_ble_eq_true rfl⟩) hS (fun q _ h => hFc q h) hFc (fun r_2 u t H locs ht hvm hp_2 hB hz1 hk1 hS => ?_)
  obtain ⟨hP1, -, hD1⟩ := hB
  rw [ht] at hP1
  obtain ⟨hP, hD⟩ := va_join (wr := [(am, .inr (5, [.int zm_thrown, .ref am_there, .ref am_ones, .ref am_others, .ref am_xs, .ref am_ys, .int zm_many, .ref am_a, .ref am_b, .ref am_from, .ref am_to, .ref am_way, .ref am_depth, .ref am_above, .ref am_pile, .ref am_next, .ref am_leader, .ref am_turned, .ref am_piece, .ref am_numbers, .ref am_row])), (am_xs, .inl (km_xs, 10, .inl zm_xs)), (am_ys, .inl (km_ys, 10, .inl zm_ys))]) (w1 := []) hP hD [] [0, 1, 2] rfl rfl (by decide) (by decide) hk1 hFc hP1 hD1
  have hp_2 : r_2 = f_isNN v1 := hp_2
  subst hp_2
  have hP : va_P (dC, dI) classes [(am, .inr (5, [.int zm_thrown, .ref am_there, .ref am_ones, .ref am_others, .ref am_xs, .ref am_ys, .int zm_many, .ref am_a, .ref am_b, .ref am_from, .ref am_to, .ref am_way, .ref am_depth, .ref am_above, .ref am_pile, .ref am_next, .ref am_leader, .ref am_turned, .ref am_piece, .ref am_numbers, .ref am_row])), (am_xs, .inl (km_xs, 10, .inl zm_xs)), (am_ys, .inl (km_ys, 10, .inl zm_ys))] H := hP
  have hD : va_D A [(am, .inr (5, [.int zm_thrown, .ref am_there, .ref am_ones, .ref am_others, .ref am_xs, .ref am_ys, .int zm_many, .ref am_a, .ref am_b, .ref am_from, .ref am_to, .ref am_way, .ref am_depth, .ref am_above, .ref am_pile, .ref am_next, .ref am_leader, .ref am_turned, .ref am_piece, .ref am_numbers, .ref am_row])), (am_xs, .inl (km_xs, 10, .inl zm_xs)), (am_ys, .inl (km_ys, 10, .inl zm_ys))] := hD
  obtain ⟨K_j22_5, hK_j22_5⟩ : ∃ K : Int32 → Option (Int32 × Int32), K = (fun (j_22_5 : Int32) => ((F_refusedM j_22_5 ((0 : Int32)) ((0 : Int32))).bind (fun p_24 => (if p_24.1 = 0 then (if v2 = 0 then (if inb v1 10 = true then some (zm_xs (Int32.toNatClampNeg v1), p_24.2) else none) else (if inb v1 10 = true then some (zm_ys (Int32.toNatClampNeg v1), p_24.2) else none)) else some ((0 : Int32), p_24.2))))) := ⟨_, rfl⟩
  have J_22_5 : ∀ (s0_22_5 : Int32) (H : Heap) (locs : List Loc) (ls : Array Slot), some R = (K_j22_5 s0_22_5) → va_P (dC, dI) classes [(am, .inr (5, [.int zm_thrown, .ref am_there, .ref am_ones, .ref am_others, .ref am_xs, .ref am_ys, .int zm_many, .ref am_a, .ref am_b, .ref am_from, .ref am_to, .ref am_way, .ref am_depth, .ref am_above, .ref am_pile, .ref am_next, .ref am_leader, .ref am_turned, .ref am_piece, .ref am_numbers, .ref am_row])), (am_xs, .inl (km_xs, 10, .inl zm_xs)), (am_ys, .inl (km_ys, 10, .inl zm_ys))] H → va_D A [(am, .inr (5, [.int zm_thrown, .ref am_there, .ref am_ones, .ref am_others, .ref am_xs, .ref am_ys, .int zm_many, .ref am_a, .ref am_b, .ref am_from, .ref am_to, .ref am_way, .ref am_depth, .ref am_above, .ref am_pile, .ref am_next, .ref am_leader, .ref am_turned, .ref am_piece, .ref am_numbers, .ref am_row])), (am_xs, .inl (km_xs, 10, .inl zm_xs)), (am_ys, .inl (km_ys, 10, .inl zm_ys))] → va_S A s.heap H locs → lv_has ls 3 [(0, .ref am), (1, .int v1), (2, .int v2)] → W p l e (headSpec w_Mod_at ({ frames := 1, cells := 0, slots := 0, locals := 23 })).room s m args below meth c H locs 0 0 (MQ below (va_Qi (fun (r : Int32) (u : Int32) => (r, u) = R) (fun u t => End_ dC dI A [(km_xs, .int), (km_ys, .int)] [(am, .inr (5, [.int u, .ref am_there, .ref am_ones, .ref am_others, .ref am_xs, .ref am_ys, .int zm_many, .ref am_a, .ref am_b, .ref am_from, .ref am_to, .ref am_way, .ref am_depth, .ref am_above, .ref am_pile, .ref am_next, .ref am_leader, .ref am_turned, .ref am_piece, .ref am_numbers, .ref am_row])), (am_xs, .inl (km_xs, 10, .inl zm_xs)), (am_ys, .inl (km_ys, 10, .inl zm_ys))] t) A) args s 0 0 A) (F0 m 22 ls [.int s0_22_5, .ref am]) := by
    intro s0_22_5 H locs ls hI hP hD hS hl
    rw [hK_j22_5] at hI
    refine lv_iconst (v := 0) hx hb d_Mod_at_22 (by decide) ?_
    refine lv_iconst (v := 0) hx hb d_Mod_at_23 (by decide) ?_
    obtain ⟨p_24, hg_24, hI⟩ := ob_bd hI
    have hPc := hP.sub (ws' := [(am, .inr (5, [.int zm_thrown, .ref am_there, .ref am_ones, .ref am_others, .ref am_xs, .ref am_ys, .int zm_many, .ref am_a, .ref am_b, .ref am_from, .ref am_to, .ref am_way, .ref am_depth, .ref am_above, .ref am_pile, .ref am_next, .ref am_leader, .ref am_turned, .ref am_piece, .ref am_numbers, .ref am_row]))]) [0] rfl
    have hDc := hD.sub (ws' := [(am, .inr (5, [.int zm_thrown, .ref am_there, .ref am_ones, .ref am_others, .ref am_xs, .ref am_ys, .int zm_many, .ref am_a, .ref am_b, .ref am_from, .ref am_to, .ref am_way, .ref am_depth, .ref am_above, .ref am_pile, .ref am_next, .ref am_leader, .ref am_turned, .ref am_piece, .ref am_numbers, .ref am_row]))]) [0] (by decide) rfl
    have hKc := hK.sub (tys' := []) [] rfl
    have hFc := va_free (wc := [(am, .inr (5, [.int zm_thrown, .ref am_there, .ref am_ones, .ref am_others, .ref am_xs, .ref am_ys, .int zm_many, .ref am_a, .ref am_b, .ref am_from, .ref am_to, .ref am_way, .ref am_depth, .ref am_above, .ref am_pile, .ref am_next, .ref am_leader, .ref am_turned, .ref am_piece, .ref am_numbers, .ref am_row]))]) hD hS hA [0] rfl
    refine va_calli (va_runV (As := [.int s0_22_5, .int 0, .int 0]) (rest := []) ⟨hx, hb, hml, hown, hts⟩ (c_refusedM l dC dI H.size am am_there am_ones am_others am_xs am_ys am_a am_b am_from am_to am_way am_depth am_above am_pile am_next am_leader am_turned am_piece am_numbers am_row zm_thrown zm_many s0_22_5 0 0 p_24 hg_24) (cwV 3 hts (gi4 mw_3_236 mw_3_238 mw_p_31 mw_1_6 mw_3_239) rfl rfl rfl (by decide +kernel) ⟨Nat.le_of_ble_eq_true rfl, Nat.le_of_ble_eq_true rfl⟩) ⟨fb_, va_recv (q0 := 0) (ci := 5) hK hP rfl rfl, pre_ hPc hKc hDc hN⟩ rfl rfl hl.1 rfl (lv_room (Nat.le_of_ble_eq_true rfl)) d_Mod_at_24 ⟨Nat.le_of_ble_eq_true rfl, Nat.le_of_ble_eq_true rfl⟩) hS (fun q _ h => hFc q h) hFc (fun r_24 wm_thrown_24 t H locs ht hvm hp_24 hB hz1 hk1 hS => ?_)
    obtain ⟨hP1, -, hD1⟩ := hB
    rw [ht] at hP1
    obtain ⟨hP, hD⟩ := va_join (wr := [(am_xs, .inl (km_xs, 10, .inl zm_xs)), (am_ys, .inl (km_ys, 10, .inl zm_ys))]) (w1 := [(am, .inr (5, [.int wm_thrown_24, .ref am_there, .ref am_ones, .ref am_others, .ref am_xs, .ref am_ys, .int zm_many, .ref am_a, .ref am_b, .ref am_from, .ref am_to, .ref am_way, .ref am_depth, .ref am_above, .ref am_pile, .ref am_next, .ref am_leader, .ref am_turned, .ref am_piece, .ref am_numbers, .ref am_row]))]) hP hD [0] [1, 2] rfl rfl (by decide) (by decide) hk1 hFc hP1 hD1
    obtain ⟨hp_24, hz_24⟩ := hp_24
    have hp_24 : (r_24, wm_thrown_24) = p_24 := hp_24
    subst hp_24
    have hP : va_P (dC, dI) classes [(am_xs, .inl (km_xs, 10, .inl zm_xs)), (am_ys, .inl (km_ys, 10, .inl zm_ys)), (am, .inr (5, [.int wm_thrown_24, .ref am_there, .ref am_ones, .ref am_others, .ref am_xs, .ref am_ys, .int zm_many, .ref am_a, .ref am_b, .ref am_from, .ref am_to, .ref am_way, .ref am_depth, .ref am_above, .ref am_pile, .ref am_next, .ref am_leader, .ref am_turned, .ref am_piece, .ref am_numbers, .ref am_row]))] H := hP
    have hD : va_D A [(am_xs, .inl (km_xs, 10, .inl zm_xs)), (am_ys, .inl (km_ys, 10, .inl zm_ys)), (am, .inr (5, [.int wm_thrown_24, .ref am_there, .ref am_ones, .ref am_others, .ref am_xs, .ref am_ys, .int zm_many, .ref am_a, .ref am_b, .ref am_from, .ref am_to, .ref am_way, .ref am_depth, .ref am_above, .ref am_pile, .ref am_next, .ref am_leader, .ref am_turned, .ref am_piece, .ref am_numbers, .ref am_row]))] := hD
    refine lv_if_eq (tgt := 32) hx hb d_Mod_at_27 rfl (fun hc_27 => ?_) (fun hc_27 => ?_)
    · skip
      have hI := hI.trans (if_pos hc_27)
      refine lv_iload_n hx hb d_Mod_at_32 rfl (lv_at hl 2 rfl) ?_
      refine lv_if_ne (tgt := 45) hx hb d_Mod_at_33 rfl (fun hc_33 => ?_) (fun hc_33 => ?_)
      · skip
        have hI := hI.trans (if_neg hc_33)
        refine lv_aload_n hx hb d_Mod_at_45 rfl (lv_at hl 0 rfl) ?_
        refine va_get (D := (dC, dI)) (ci := 5) (v := .ref am_ys) (C := R_Mod) (T := F_Mod) (N := 21) hx hb hts (fun w h => List.mem_cons_of_mem _ (in_Mod w h)) hown hK hP 2 rfl rfl 5 (by decide) (hts _ (List.mem_cons_of_mem _ mw_3_161)) (fun _ h9 => h9) rfl d_Mod_at_46 ?_
        refine lv_iload_n hx hb d_Mod_at_49 rfl (lv_at hl 1 rfl) ?_
        have hi_50 := ob_in hI
        have hI := ob_th hI
        refine va_iald (D := (dC, dI)) hx hb hK hP 1 1 rfl rfl hi_50 d_Mod_at_50 ?_
        have hP := hP.sub (ws' := [(am, .inr (5, [.int wm_thrown_24, .ref am_there, .ref am_ones, .ref am_others, .ref am_xs, .ref am_ys, .int zm_many, .ref am_a, .ref am_b, .ref am_from, .ref am_to, .ref am_way, .ref am_depth, .ref am_above, .ref am_pile, .ref am_next, .ref am_leader, .ref am_turned, .ref am_piece, .ref am_numbers, .ref am_row])), (am_xs, .inl (km_xs, 10, .inl zm_xs)), (am_ys, .inl (km_ys, 10, .inl zm_ys))]) [2, 0, 1] rfl
        have hD := hD.sub (ws' := [(am, .inr (5, [.int wm_thrown_24, .ref am_there, .ref am_ones, .ref am_others, .ref am_xs, .ref am_ys, .int zm_many, .ref am_a, .ref am_b, .ref am_from, .ref am_to, .ref am_way, .ref am_depth, .ref am_above, .ref am_pile, .ref am_next, .ref am_leader, .ref am_turned, .ref am_piece, .ref am_numbers, .ref am_row])), (am_xs, .inl (km_xs, 10, .inl zm_xs)), (am_ys, .inl (km_ys, 10, .inl zm_ys))]) [2, 0, 1] (by decide) rfl
        exact W.iret (v := zm_ys (Int32.toNatClampNeg v1)) hx hb hr (fun t ht hW => ⟨⟨zm_ys (Int32.toNatClampNeg v1), (wm_thrown_24), rfl, (Option.some.inj hI).symm, by rw [ht]; exact hP, va_K.moved hW.alike hK, hD⟩, hS.F ht⟩) hS.2.2 d_Mod_at_51
      · skip
        have hI := hI.trans (if_pos hc_33)
        refine lv_aload_n hx hb d_Mod_at_36 rfl (lv_at hl 0 rfl) ?_
        refine va_get (D := (dC, dI)) (ci := 5) (v := .ref am_xs) (C := R_Mod) (T := F_Mod) (N := 21) hx hb hts (fun w h => List.mem_cons_of_mem _ (in_Mod w h)) hown hK hP 2 rfl rfl 4 (by decide) (hts _ (List.mem_cons_of_mem _ mw_3_160)) (fun _ h9 => h9) rfl d_Mod_at_37 ?_
        refine lv_iload_n hx hb d_Mod_at_40 rfl (lv_at hl 1 rfl) ?_
        have hi_41 := ob_in hI
        have hI := ob_th hI
        refine va_iald (D := (dC, dI)) hx hb hK hP 0 0 rfl rfl hi_41 d_Mod_at_41 ?_
        refine lv_goto (tgt := 51) hx hb d_Mod_at_42 rfl ?_
        have hP := hP.sub (ws' := [(am, .inr (5, [.int wm_thrown_24, .ref am_there, .ref am_ones, .ref am_others, .ref am_xs, .ref am_ys, .int zm_many, .ref am_a, .ref am_b, .ref am_from, .ref am_to, .ref am_way, .ref am_depth, .ref am_above, .ref am_pile, .ref am_next, .ref am_leader, .ref am_turned, .ref am_piece, .ref am_numbers, .ref am_row])), (am_xs, .inl (km_xs, 10, .inl zm_xs)), (am_ys, .inl (km_ys, 10, .inl zm_ys))]) [2, 0, 1] rfl
        have hD := hD.sub (ws' := [(am, .inr (5, [.int wm_thrown_24, .ref am_there, .ref am_ones, .ref am_others, .ref am_xs, .ref am_ys, .int zm_many, .ref am_a, .ref am_b, .ref am_from, .ref am_to, .ref am_way, .ref am_depth, .ref am_above, .ref am_pile, .ref am_next, .ref am_leader, .ref am_turned, .ref am_piece, .ref am_numbers, .ref am_row])), (am_xs, .inl (km_xs, 10, .inl zm_xs)), (am_ys, .inl (km_ys, 10, .inl zm_ys))]) [2, 0, 1] (by decide) rfl
        exact W.iret (v := zm_xs (Int32.toNatClampNeg v1)) hx hb hr (fun t ht hW => ⟨⟨zm_xs (Int32.toNatClampNeg v1), (wm_thrown_24), rfl, (Option.some.inj hI).symm, by rw [ht]; exact hP, va_K.moved hW.alike hK, hD⟩, hS.F ht⟩) hS.2.2 d_Mod_at_51
    · skip
      have hI := hI.trans (if_neg hc_27)
      refine lv_iconst (v := 0) hx hb d_Mod_at_30 (by decide) ?_
      have hP := hP.sub (ws' := [(am, .inr (5, [.int wm_thrown_24, .ref am_there, .ref am_ones, .ref am_others, .ref am_xs, .ref am_ys, .int zm_many, .ref am_a, .ref am_b, .ref am_from, .ref am_to, .ref am_way, .ref am_depth, .ref am_above, .ref am_pile, .ref am_next, .ref am_leader, .ref am_turned, .ref am_piece, .ref am_numbers, .ref am_row])), (am_xs, .inl (km_xs, 10, .inl zm_xs)), (am_ys, .inl (km_ys, 10, .inl zm_ys))]) [2, 0, 1] rfl
      have hD := hD.sub (ws' := [(am, .inr (5, [.int wm_thrown_24, .ref am_there, .ref am_ones, .ref am_others, .ref am_xs, .ref am_ys, .int zm_many, .ref am_a, .ref am_b, .ref am_from, .ref am_to, .ref am_way, .ref am_depth, .ref am_above, .ref am_pile, .ref am_next, .ref am_leader, .ref am_turned, .ref am_piece, .ref am_numbers, .ref am_row])), (am_xs, .inl (km_xs, 10, .inl zm_xs)), (am_ys, .inl (km_ys, 10, .inl zm_ys))]) [2, 0, 1] (by decide) rfl
      exact W.iret (v := 0) hx hb hr (fun t ht hW => ⟨⟨0, (wm_thrown_24), rfl, (Option.some.inj hI).symm, by rw [ht]; exact hP, va_K.moved hW.alike hK, hD⟩, hS.F ht⟩) hS.2.2 d_Mod_at_31
  have hI : some R = (K_j22_5 (if (f_isNN v1) = 0 then ((1 : Int32)) else (if v2 < 0 then ((1 : Int32)) else (if v2 ≤ 1 then ((0 : Int32)) else ((1 : Int32)))))) := by rw [hK_j22_5]; exact hI
  refine lv_if_eq (tgt := 17) hx hb d_Mod_at_5 rfl (fun hc_5 => ?_) (fun hc_5 => ?_)
  · skip
    have hI := ob_ifC (C := fun y_ => K_j22_5 y_) hc_5 hI
    refine lv_iconst (v := 1) hx hb d_Mod_at_17 (by decide) ?_
    refine lv_goto (tgt := 22) hx hb d_Mod_at_18 rfl ?_
    have hl := lv_sub hl [0, 1, 2] rfl
    exact J_22_5 _ _ _ _ hI hP hD hS hl
  · skip
    have hI := ob_elC (C := fun y_ => K_j22_5 y_) hc_5 hI
    refine lv_iload_n hx hb d_Mod_at_8 rfl (lv_at hl 2 rfl) ?_
    refine lv_if_lt (tgt := 17) hx hb d_Mod_at_9 rfl (fun hc_9 => ?_) (fun hc_9 => ?_)
    · skip
      have hI := ob_ifC (C := fun y_ => K_j22_5 y_) hc_9 hI
      refine lv_iconst (v := 1) hx hb d_Mod_at_17 (by decide) ?_
      refine lv_goto (tgt := 22) hx hb d_Mod_at_18 rfl ?_
      have hl := lv_sub hl [0, 1, 2] rfl
      exact J_22_5 _ _ _ _ hI hP hD hS hl
    · skip
      have hI := ob_elC (C := fun y_ => K_j22_5 y_) hc_9 hI
      refine lv_iload_n hx hb d_Mod_at_12 rfl (lv_at hl 2 rfl) ?_
      refine lv_iconst (v := 1) hx hb d_Mod_at_13 (by decide) ?_
      refine lv_icmp_le (tgt := 21) hx hb d_Mod_at_14 rfl (fun hc_14 => ?_) (fun hc_14 => ?_)
      · skip
        have hI := ob_ifC (C := fun y_ => K_j22_5 y_) hc_14 hI
        refine lv_iconst (v := 0) hx hb d_Mod_at_21 (by decide) ?_
        have hl := lv_sub hl [0, 1, 2] rfl
        exact J_22_5 _ _ _ _ hI hP hD hS hl
      · skip
        have hI := ob_elC (C := fun y_ => K_j22_5 y_) hc_14 hI
        refine lv_iconst (v := 1) hx hb d_Mod_at_17 (by decide) ?_
        refine lv_goto (tgt := 22) hx hb d_Mod_at_18 rfl ?_
        have hl := lv_sub hl [0, 1, 2] rfl
        exact J_22_5 _ _ _ _ hI hP hD hS hl
set_option maxHeartbeats 4000000 in
set_option maxRecDepth 100000 in
theorem c_meetsM (l : Launch) (dC : Nat → ClassId) (dI : Nat → Nat → Nat) (sz : Nat) (am am_there am_ones am_others am_xs am_ys am_a am_b am_from am_to am_way am_depth am_above am_pile am_next am_leader am_turned am_piece am_numbers am_row : Nat) (km_ones km_others km_xs km_ys : ClassId) (zm_thrown : Int32) (zm_many : Int32) (zm_ones : Nat → Int32) (zm_others : Nat → Int32) (zm_xs : Nat → Int32) (zm_ys : Nat → Int32) (v1 v2 : Int32) (R : Int32 × Int32) (hR : F_meetsM zm_ones zm_others zm_xs zm_ys v1 v2 = some R) : Met l y_Mod_meets w_Mod_meets ({ frames := 3, cells := 0, slots := 0, locals := 75 }) (Pre_ dC dI sz [.ref am, .int v1, .int v2] [(am, .inr (5, [.int zm_thrown, .ref am_there, .ref am_ones, .ref am_others, .ref am_xs, .ref am_ys, .int zm_many, .ref am_a, .ref am_b, .ref am_from, .ref am_to, .ref am_way, .ref am_depth, .ref am_above, .ref am_pile, .ref am_next, .ref am_leader, .ref am_turned, .ref am_piece, .ref am_numbers, .ref am_row])), (am_ones, .inl (km_ones, 24, .inl zm_ones)), (am_others, .inl (km_others, 24, .inl zm_others)), (am_xs, .inl (km_xs, 10, .inl zm_xs)), (am_ys, .inl (km_ys, 10, .inl zm_ys))] [(km_ones, .int), (km_others, .int), (km_xs, .int), (km_ys, .int)]) (va_Qi (fun (r : Int32) (u : Int32) => ((r, u) = R) ∧ z01 r) (fun u t => End_ dC dI (va_A [(am, .inr (5, [.int zm_thrown, .ref am_there, .ref am_ones, .ref am_others, .ref am_xs, .ref am_ys, .int zm_many, .ref am_a, .ref am_b, .ref am_from, .ref am_to, .ref am_way, .ref am_depth, .ref am_above, .ref am_pile, .ref am_next, .ref am_leader, .ref am_turned, .ref am_piece, .ref am_numbers, .ref am_row])), (am_ones, .inl (km_ones, 24, .inl zm_ones)), (am_others, .inl (km_others, 24, .inl zm_others)), (am_xs, .inl (km_xs, 10, .inl zm_xs)), (am_ys, .inl (km_ys, 10, .inl zm_ys))] sz) [(km_ones, .int), (km_others, .int), (km_xs, .int), (km_ys, .int)] [(am, .inr (5, [.int u, .ref am_there, .ref am_ones, .ref am_others, .ref am_xs, .ref am_ys, .int zm_many, .ref am_a, .ref am_b, .ref am_from, .ref am_to, .ref am_way, .ref am_depth, .ref am_above, .ref am_pile, .ref am_next, .ref am_leader, .ref am_turned, .ref am_piece, .ref am_numbers, .ref am_row])), (am_ones, .inl (km_ones, 24, .inl zm_ones)), (am_others, .inl (km_others, 24, .inl zm_others)), (am_xs, .inl (km_xs, 10, .inl zm_xs)), (am_ys, .inl (km_ys, 10, .inl zm_ys))] t) (va_A [(am, .inr (5, [.int zm_thrown, .ref am_there, .ref am_ones, .ref am_others, .ref am_xs, .ref am_ys, .int zm_many, .ref am_a, .ref am_b, .ref am_from, .ref am_to, .ref am_way, .ref am_depth, .ref am_above, .ref am_pile, .ref am_next, .ref am_leader, .ref am_turned, .ref am_piece, .ref am_numbers, .ref am_row])), (am_ones, .inl (km_ones, 24, .inl zm_ones)), (am_others, .inl (km_others, 24, .inl zm_others)), (am_xs, .inl (km_xs, 10, .inl zm_xs)), (am_ys, .inl (km_ys, 10, .inl zm_ys))] sz)) 0 0 (va_A [(am, .inr (5, [.int zm_thrown, .ref am_there, .ref am_ones, .ref am_others, .ref am_xs, .ref am_ys, .int zm_many, .ref am_a, .ref am_b, .ref am_from, .ref am_to, .ref am_way, .ref am_depth, .ref am_above, .ref am_pile, .ref am_next, .ref am_leader, .ref am_turned, .ref am_piece, .ref am_numbers, .ref am_row])), (am_ones, .inl (km_ones, 24, .inl zm_ones)), (am_others, .inl (km_others, 24, .inl zm_others)), (am_xs, .inl (km_xs, 10, .inl zm_xs)), (am_ys, .inl (km_ys, 10, .inl zm_ys))] sz) := by
  refine Met.ofW (cc := b_Mod_meets) (maxL := 3) (ret := (some .boolean)) (by decide) rfl ?_
  intro p e s m args below meth c s₁ B hml hv
  obtain ⟨hargs, hsz, hP, hK, hD0, hN⟩ := hv
  have hx := B.exec
  have hb := B.bytes
  have hr := B.returns
  have hts := atoms_spec (ws := w_Mod_meets) B.pre
  have hown : s.vm.findClass R_Mod = some m.cls := findClass_of_methodNamed B.named
  have hlocks := B.notSynchronized
  subst hsz
  have hD := hD0.self (sz := s.heap.size)
  generalize hAe : va_A [(am, .inr (5, [.int zm_thrown, .ref am_there, .ref am_ones, .ref am_others, .ref am_xs, .ref am_ys, .int zm_many, .ref am_a, .ref am_b, .ref am_from, .ref am_to, .ref am_way, .ref am_depth, .ref am_above, .ref am_pile, .ref am_next, .ref am_leader, .ref am_turned, .ref am_piece, .ref am_numbers, .ref am_row])), (am_ones, .inl (km_ones, 24, .inl zm_ones)), (am_others, .inl (km_others, 24, .inl zm_others)), (am_xs, .inl (km_xs, 10, .inl zm_xs)), (am_ys, .inl (km_ys, 10, .inl zm_ys))] s.heap.size = A at hD ⊢
  have hA : ∀ q : Nat, s.heap.size ≤ q → A q := fun q h => by rw [← hAe]; exact Or.inr h
  have hS : va_S A s.heap s.heap [] := va_S.rf
  have hl := lv_entry ([.ref am, .int v1, .int v2]) (n := 3) (Nat.le_of_ble_eq_true rfl)
  refine W.eq (congrArg (fun a => entryFrame m a 3) hargs) ?_
  rw [lg_entry_eq]
  generalize (lg_sl ([.ref am, .int v1, .int v2]) ++ List.replicate (3 - (lg_sl ([.ref am, .int v1, .int v2])).length) Slot.unset).toArray = ls at hl ⊢
  have hl : lv_has ls 3 [(0, .ref am), (1, .int v1), (2, .int v2)] := hl
  generalize hH0 : ([] : List Loc) = locs at hS ⊢
  have hI := hR.symm
  rw [F_meetsM] at hI
  refine lv_aload_n hx hb d_Mod_meets_0 rfl (lv_at hl 0 rfl) ?_
  refine lv_aload_n hx hb d_Mod_meets_1 rfl (lv_at hl 0 rfl) ?_
  refine lv_iload_n hx hb d_Mod_meets_2 rfl (lv_at hl 1 rfl) ?_
  obtain ⟨p_3, hg_3, hI⟩ := ob_bd hI
  have hPc := hP.sub (ws' := [(am, .inr (5, [.int zm_thrown, .ref am_there, .ref am_ones, .ref am_others, .ref am_xs, .ref am_ys, .int zm_many, .ref am_a, .ref am_b, .ref am_from, .ref am_to, .ref am_way, .ref am_depth, .ref am_above, .ref am_pile, .ref am_next, .ref am_leader, .ref am_turned, .ref am_piece, .ref am_numbers, .ref am_row])), (am_ones, .inl (km_ones, 24, .inl zm_ones))]) [0, 1] rfl
  have hDc := hD.sub (ws' := [(am, .inr (5, [.int zm_thrown, .ref am_there, .ref am_ones, .ref am_others, .ref am_xs, .ref am_ys, .int zm_many, .ref am_a, .ref am_b, .ref am_from, .ref am_to, .ref am_way, .ref am_depth, .ref am_above, .ref am_pile, .ref am_next, .ref am_leader, .ref am_turned, .ref am_piece, .ref am_numbers, .ref am_row])), (am_ones, .inl (km_ones, 24, .inl zm_ones))]) [0, 1] (by decide) rfl
  have hKc := hK.sub (tys' := [(km_ones, .int)]) [0] rfl
  have hFc := va_free (wc := [(am, .inr (5, [.int zm_thrown, .ref am_there, .ref am_ones, .ref am_others, .ref am_xs, .ref am_ys, .int zm_many, .ref am_a, .ref am_b, .ref am_from, .ref am_to, .ref am_way, .ref am_depth, .ref am_above, .ref am_pile, .ref am_next, .ref am_leader, .ref am_turned, .ref am_piece, .ref am_numbers, .ref am_row])), (am_ones, .inl (km_ones, 24, .inl zm_ones))]) hD hS hA [0, 1] rfl
  refine va_calli (va_runV (As := [.int v1]) (rest := [.ref am]) ⟨hx, hb, hml, hown, hts⟩ (c_isLineM l dC dI s.heap.size am am_there am_ones am_others am_xs am_ys am_a am_b am_from am_to am_way am_depth am_above am_pile am_next am_leader am_turned am_piece am_numbers am_row km_ones zm_thrown zm_many zm_ones v1 p_3 hg_3) (cwV 1 hts (gi4 mw_4_20 mw_4_22 mw_p_35 mw_1_6 mw_4_23) rfl rfl rfl (by decide +kernel) ⟨Nat.le_of_ble_eq_true rfl, Nat.le_of_ble_eq_true rfl⟩) ⟨fb_, va_recv (q0 := 0) (ci := 5) hK hP rfl rfl, pre_ hPc hKc hDc hN⟩ rfl rfl hl.1 rfl (lv_room (Nat.le_of_ble_eq_true rfl)) d_Mod_meets_3 ⟨Nat.le_of_ble_eq_true rfl, Nat.le_of_ble_eq_true rfl⟩) hS (fun q _ h => hFc q h) hFc (fun r_3 u t H locs ht hvm hp_3 hB hz1 hk1 hS => ?_)
  obtain ⟨hP1, -, hD1⟩ := hB
  rw [ht] at hP1
  obtain ⟨hP, hD⟩ := va_join (wr := [(am_others, .inl (km_others, 24, .inl zm_others)), (am_xs, .inl (km_xs, 10, .inl zm_xs)), (am_ys, .inl (km_ys, 10, .inl zm_ys))]) (w1 := [(am, .inr (5, [.int zm_thrown, .ref am_there, .ref am_ones, .ref am_others, .ref am_xs, .ref am_ys, .int zm_many, .ref am_a, .ref am_b, .ref am_from, .ref am_to, .ref am_way, .ref am_depth, .ref am_above, .ref am_pile, .ref am_next, .ref am_leader, .ref am_turned, .ref am_piece, .ref am_numbers, .ref am_row])), (am_ones, .inl (km_ones, 24, .inl zm_ones))]) hP hD [0, 1] [2, 3, 4] rfl rfl (by decide) (by decide) hk1 hFc hP1 hD1
  obtain ⟨hp_3, hz_3⟩ := hp_3
  have hp_3 : (r_3) = p_3 := hp_3
  subst hp_3
  have hP : va_P (dC, dI) classes [(am_others, .inl (km_others, 24, .inl zm_others)), (am_xs, .inl (km_xs, 10, .inl zm_xs)), (am_ys, .inl (km_ys, 10, .inl zm_ys)), (am, .inr (5, [.int zm_thrown, .ref am_there, .ref am_ones, .ref am_others, .ref am_xs, .ref am_ys, .int zm_many, .ref am_a, .ref am_b, .ref am_from, .ref am_to, .ref am_way, .ref am_depth, .ref am_above, .ref am_pile, .ref am_next, .ref am_leader, .ref am_turned, .ref am_piece, .ref am_numbers, .ref am_row])), (am_ones, .inl (km_ones, 24, .inl zm_ones))] H := hP
  have hD : va_D A [(am_others, .inl (km_others, 24, .inl zm_others)), (am_xs, .inl (km_xs, 10, .inl zm_xs)), (am_ys, .inl (km_ys, 10, .inl zm_ys)), (am, .inr (5, [.int zm_thrown, .ref am_there, .ref am_ones, .ref am_others, .ref am_xs, .ref am_ys, .int zm_many, .ref am_a, .ref am_b, .ref am_from, .ref am_to, .ref am_way, .ref am_depth, .ref am_above, .ref am_pile, .ref am_next, .ref am_leader, .ref am_turned, .ref am_piece, .ref am_numbers, .ref am_row])), (am_ones, .inl (km_ones, 24, .inl zm_ones))] := hD
  have hP := hP.sub (ws' := [(am, .inr (5, [.int zm_thrown, .ref am_there, .ref am_ones, .ref am_others, .ref am_xs, .ref am_ys, .int zm_many, .ref am_a, .ref am_b, .ref am_from, .ref am_to, .ref am_way, .ref am_depth, .ref am_above, .ref am_pile, .ref am_next, .ref am_leader, .ref am_turned, .ref am_piece, .ref am_numbers, .ref am_row])), (am_ones, .inl (km_ones, 24, .inl zm_ones)), (am_others, .inl (km_others, 24, .inl zm_others)), (am_xs, .inl (km_xs, 10, .inl zm_xs)), (am_ys, .inl (km_ys, 10, .inl zm_ys))]) [3, 4, 0, 1, 2] rfl
  have hD := hD.sub (ws' := [(am, .inr (5, [.int zm_thrown, .ref am_there, .ref am_ones, .ref am_others, .ref am_xs, .ref am_ys, .int zm_many, .ref am_a, .ref am_b, .ref am_from, .ref am_to, .ref am_way, .ref am_depth, .ref am_above, .ref am_pile, .ref am_next, .ref am_leader, .ref am_turned, .ref am_piece, .ref am_numbers, .ref am_row])), (am_ones, .inl (km_ones, 24, .inl zm_ones)), (am_others, .inl (km_others, 24, .inl zm_others)), (am_xs, .inl (km_xs, 10, .inl zm_xs)), (am_ys, .inl (km_ys, 10, .inl zm_ys))]) [3, 4, 0, 1, 2] (by decide) rfl
  obtain ⟨K_j22_6, hK_j22_6⟩ : ∃ K : Int32 → Option (Int32 × Int32), K = (fun (j_22_6 : Int32) => ((fun (j_32_24 : Int32) => ((F_refusedM j_22_6 j_32_24 ((0 : Int32))).bind (fun p_33 => (if p_33.1 = 0 then ((F_meetNowM zm_ones zm_others zm_xs zm_ys v1 v2).bind (fun p_42 => (if p_42 = 0 then some ((0 : Int32), p_33.2) else some ((1 : Int32), p_33.2)))) else some ((0 : Int32), p_33.2))))) (if v1 = v2 then ((1 : Int32)) else ((0 : Int32))))) := ⟨_, rfl⟩
  have J_22_6 : ∀ (s0_22_6 : Int32) (H : Heap) (locs : List Loc) (ls : Array Slot), some R = (K_j22_6 s0_22_6) → va_P (dC, dI) classes [(am, .inr (5, [.int zm_thrown, .ref am_there, .ref am_ones, .ref am_others, .ref am_xs, .ref am_ys, .int zm_many, .ref am_a, .ref am_b, .ref am_from, .ref am_to, .ref am_way, .ref am_depth, .ref am_above, .ref am_pile, .ref am_next, .ref am_leader, .ref am_turned, .ref am_piece, .ref am_numbers, .ref am_row])), (am_ones, .inl (km_ones, 24, .inl zm_ones)), (am_others, .inl (km_others, 24, .inl zm_others)), (am_xs, .inl (km_xs, 10, .inl zm_xs)), (am_ys, .inl (km_ys, 10, .inl zm_ys))] H → va_D A [(am, .inr (5, [.int zm_thrown, .ref am_there, .ref am_ones, .ref am_others, .ref am_xs, .ref am_ys, .int zm_many, .ref am_a, .ref am_b, .ref am_from, .ref am_to, .ref am_way, .ref am_depth, .ref am_above, .ref am_pile, .ref am_next, .ref am_leader, .ref am_turned, .ref am_piece, .ref am_numbers, .ref am_row])), (am_ones, .inl (km_ones, 24, .inl zm_ones)), (am_others, .inl (km_others, 24, .inl zm_others)), (am_xs, .inl (km_xs, 10, .inl zm_xs)), (am_ys, .inl (km_ys, 10, .inl zm_ys))] → va_S A s.heap H locs → lv_has ls 3 [(0, .ref am), (1, .int v1), (2, .int v2)] → W p l e (headSpec w_Mod_meets ({ frames := 3, cells := 0, slots := 0, locals := 75 })).room s m args below meth c H locs 0 0 (MQ below (va_Qi (fun (r : Int32) (u : Int32) => ((r, u) = R) ∧ z01 r) (fun u t => End_ dC dI A [(km_ones, .int), (km_others, .int), (km_xs, .int), (km_ys, .int)] [(am, .inr (5, [.int u, .ref am_there, .ref am_ones, .ref am_others, .ref am_xs, .ref am_ys, .int zm_many, .ref am_a, .ref am_b, .ref am_from, .ref am_to, .ref am_way, .ref am_depth, .ref am_above, .ref am_pile, .ref am_next, .ref am_leader, .ref am_turned, .ref am_piece, .ref am_numbers, .ref am_row])), (am_ones, .inl (km_ones, 24, .inl zm_ones)), (am_others, .inl (km_others, 24, .inl zm_others)), (am_xs, .inl (km_xs, 10, .inl zm_xs)), (am_ys, .inl (km_ys, 10, .inl zm_ys))] t) A) args s 0 0 A) (F0 m 22 ls [.int s0_22_6, .ref am]) := by
    intro s0_22_6 H locs ls hI hP hD hS hl
    rw [hK_j22_6] at hI
    refine lv_iload_n hx hb d_Mod_meets_22 rfl (lv_at hl 1 rfl) ?_
    refine lv_iload_n hx hb d_Mod_meets_23 rfl (lv_at hl 2 rfl) ?_
    obtain ⟨K_j32_24, hK_j32_24⟩ : ∃ K : Int32 → Option (Int32 × Int32), K = (fun (j_32_24 : Int32) => ((F_refusedM s0_22_6 j_32_24 ((0 : Int32))).bind (fun p_33 => (if p_33.1 = 0 then ((F_meetNowM zm_ones zm_others zm_xs zm_ys v1 v2).bind (fun p_42 => (if p_42 = 0 then some ((0 : Int32), p_33.2) else some ((1 : Int32), p_33.2)))) else some ((0 : Int32), p_33.2))))) := ⟨_, rfl⟩
    have J_32_24 : ∀ (s0_32_24 : Int32) (H : Heap) (locs : List Loc) (ls : Array Slot), some R = (K_j32_24 s0_32_24) → va_P (dC, dI) classes [(am, .inr (5, [.int zm_thrown, .ref am_there, .ref am_ones, .ref am_others, .ref am_xs, .ref am_ys, .int zm_many, .ref am_a, .ref am_b, .ref am_from, .ref am_to, .ref am_way, .ref am_depth, .ref am_above, .ref am_pile, .ref am_next, .ref am_leader, .ref am_turned, .ref am_piece, .ref am_numbers, .ref am_row])), (am_ones, .inl (km_ones, 24, .inl zm_ones)), (am_others, .inl (km_others, 24, .inl zm_others)), (am_xs, .inl (km_xs, 10, .inl zm_xs)), (am_ys, .inl (km_ys, 10, .inl zm_ys))] H → va_D A [(am, .inr (5, [.int zm_thrown, .ref am_there, .ref am_ones, .ref am_others, .ref am_xs, .ref am_ys, .int zm_many, .ref am_a, .ref am_b, .ref am_from, .ref am_to, .ref am_way, .ref am_depth, .ref am_above, .ref am_pile, .ref am_next, .ref am_leader, .ref am_turned, .ref am_piece, .ref am_numbers, .ref am_row])), (am_ones, .inl (km_ones, 24, .inl zm_ones)), (am_others, .inl (km_others, 24, .inl zm_others)), (am_xs, .inl (km_xs, 10, .inl zm_xs)), (am_ys, .inl (km_ys, 10, .inl zm_ys))] → va_S A s.heap H locs → lv_has ls 3 [(0, .ref am), (1, .int v1), (2, .int v2)] → W p l e (headSpec w_Mod_meets ({ frames := 3, cells := 0, slots := 0, locals := 75 })).room s m args below meth c H locs 0 0 (MQ below (va_Qi (fun (r : Int32) (u : Int32) => ((r, u) = R) ∧ z01 r) (fun u t => End_ dC dI A [(km_ones, .int), (km_others, .int), (km_xs, .int), (km_ys, .int)] [(am, .inr (5, [.int u, .ref am_there, .ref am_ones, .ref am_others, .ref am_xs, .ref am_ys, .int zm_many, .ref am_a, .ref am_b, .ref am_from, .ref am_to, .ref am_way, .ref am_depth, .ref am_above, .ref am_pile, .ref am_next, .ref am_leader, .ref am_turned, .ref am_piece, .ref am_numbers, .ref am_row])), (am_ones, .inl (km_ones, 24, .inl zm_ones)), (am_others, .inl (km_others, 24, .inl zm_others)), (am_xs, .inl (km_xs, 10, .inl zm_xs)), (am_ys, .inl (km_ys, 10, .inl zm_ys))] t) A) args s 0 0 A) (F0 m 32 ls [.int s0_32_24, .int s0_22_6, .ref am]) := by
      intro s0_32_24 H locs ls hI hP hD hS hl
      rw [hK_j32_24] at hI
      refine lv_iconst (v := 0) hx hb d_Mod_meets_32 (by decide) ?_
      obtain ⟨p_33, hg_33, hI⟩ := ob_bd hI
      have hPc := hP.sub (ws' := [(am, .inr (5, [.int zm_thrown, .ref am_there, .ref am_ones, .ref am_others, .ref am_xs, .ref am_ys, .int zm_many, .ref am_a, .ref am_b, .ref am_from, .ref am_to, .ref am_way, .ref am_depth, .ref am_above, .ref am_pile, .ref am_next, .ref am_leader, .ref am_turned, .ref am_piece, .ref am_numbers, .ref am_row]))]) [0] rfl
      have hDc := hD.sub (ws' := [(am, .inr (5, [.int zm_thrown, .ref am_there, .ref am_ones, .ref am_others, .ref am_xs, .ref am_ys, .int zm_many, .ref am_a, .ref am_b, .ref am_from, .ref am_to, .ref am_way, .ref am_depth, .ref am_above, .ref am_pile, .ref am_next, .ref am_leader, .ref am_turned, .ref am_piece, .ref am_numbers, .ref am_row]))]) [0] (by decide) rfl
      have hKc := hK.sub (tys' := []) [] rfl
      have hFc := va_free (wc := [(am, .inr (5, [.int zm_thrown, .ref am_there, .ref am_ones, .ref am_others, .ref am_xs, .ref am_ys, .int zm_many, .ref am_a, .ref am_b, .ref am_from, .ref am_to, .ref am_way, .ref am_depth, .ref am_above, .ref am_pile, .ref am_next, .ref am_leader, .ref am_turned, .ref am_piece, .ref am_numbers, .ref am_row]))]) hD hS hA [0] rfl
      refine va_calli (va_runV (As := [.int s0_22_6, .int s0_32_24, .int 0]) (rest := []) ⟨hx, hb, hml, hown, hts⟩ (c_refusedM l dC dI H.size am am_there am_ones am_others am_xs am_ys am_a am_b am_from am_to am_way am_depth am_above am_pile am_next am_leader am_turned am_piece am_numbers am_row zm_thrown zm_many s0_22_6 s0_32_24 0 p_33 hg_33) (cwV 3 hts (gi4 mw_3_236 mw_3_238 mw_p_31 mw_1_6 mw_3_239) rfl rfl rfl (by decide +kernel) ⟨Nat.le_of_ble_eq_true rfl, Nat.le_of_ble_eq_true rfl⟩) ⟨fb_, va_recv (q0 := 0) (ci := 5) hK hP rfl rfl, pre_ hPc hKc hDc hN⟩ rfl rfl hl.1 rfl (lv_room (Nat.le_of_ble_eq_true rfl)) d_Mod_meets_33 ⟨Nat.le_of_ble_eq_true rfl, Nat.le_of_ble_eq_true rfl⟩) hS (fun q _ h => hFc q h) hFc (fun r_33 wm_thrown_33 t H locs ht hvm hp_33 hB hz1 hk1 hS => ?_)
      obtain ⟨hP1, -, hD1⟩ := hB
      rw [ht] at hP1
      obtain ⟨hP, hD⟩ := va_join (wr := [(am_ones, .inl (km_ones, 24, .inl zm_ones)), (am_others, .inl (km_others, 24, .inl zm_others)), (am_xs, .inl (km_xs, 10, .inl zm_xs)), (am_ys, .inl (km_ys, 10, .inl zm_ys))]) (w1 := [(am, .inr (5, [.int wm_thrown_33, .ref am_there, .ref am_ones, .ref am_others, .ref am_xs, .ref am_ys, .int zm_many, .ref am_a, .ref am_b, .ref am_from, .ref am_to, .ref am_way, .ref am_depth, .ref am_above, .ref am_pile, .ref am_next, .ref am_leader, .ref am_turned, .ref am_piece, .ref am_numbers, .ref am_row]))]) hP hD [0] [1, 2, 3, 4] rfl rfl (by decide) (by decide) hk1 hFc hP1 hD1
      obtain ⟨hp_33, hz_33⟩ := hp_33
      have hp_33 : (r_33, wm_thrown_33) = p_33 := hp_33
      subst hp_33
      have hP : va_P (dC, dI) classes [(am_ones, .inl (km_ones, 24, .inl zm_ones)), (am_others, .inl (km_others, 24, .inl zm_others)), (am_xs, .inl (km_xs, 10, .inl zm_xs)), (am_ys, .inl (km_ys, 10, .inl zm_ys)), (am, .inr (5, [.int wm_thrown_33, .ref am_there, .ref am_ones, .ref am_others, .ref am_xs, .ref am_ys, .int zm_many, .ref am_a, .ref am_b, .ref am_from, .ref am_to, .ref am_way, .ref am_depth, .ref am_above, .ref am_pile, .ref am_next, .ref am_leader, .ref am_turned, .ref am_piece, .ref am_numbers, .ref am_row]))] H := hP
      have hD : va_D A [(am_ones, .inl (km_ones, 24, .inl zm_ones)), (am_others, .inl (km_others, 24, .inl zm_others)), (am_xs, .inl (km_xs, 10, .inl zm_xs)), (am_ys, .inl (km_ys, 10, .inl zm_ys)), (am, .inr (5, [.int wm_thrown_33, .ref am_there, .ref am_ones, .ref am_others, .ref am_xs, .ref am_ys, .int zm_many, .ref am_a, .ref am_b, .ref am_from, .ref am_to, .ref am_way, .ref am_depth, .ref am_above, .ref am_pile, .ref am_next, .ref am_leader, .ref am_turned, .ref am_piece, .ref am_numbers, .ref am_row]))] := hD
      refine lv_if_ne (tgt := 52) hx hb d_Mod_meets_36 rfl (fun hc_36 => ?_) (fun hc_36 => ?_)
      · skip
        have hI := hI.trans (if_neg hc_36)
        refine lv_iconst (v := 0) hx hb d_Mod_meets_52 (by decide) ?_
        have hP := hP.sub (ws' := [(am, .inr (5, [.int wm_thrown_33, .ref am_there, .ref am_ones, .ref am_others, .ref am_xs, .ref am_ys, .int zm_many, .ref am_a, .ref am_b, .ref am_from, .ref am_to, .ref am_way, .ref am_depth, .ref am_above, .ref am_pile, .ref am_next, .ref am_leader, .ref am_turned, .ref am_piece, .ref am_numbers, .ref am_row])), (am_ones, .inl (km_ones, 24, .inl zm_ones)), (am_others, .inl (km_others, 24, .inl zm_others)), (am_xs, .inl (km_xs, 10, .inl zm_xs)), (am_ys, .inl (km_ys, 10, .inl zm_ys))]) [4, 0, 1, 2, 3] rfl
        have hD := hD.sub (ws' := [(am, .inr (5, [.int wm_thrown_33, .ref am_there, .ref am_ones, .ref am_others, .ref am_xs, .ref am_ys, .int zm_many, .ref am_a, .ref am_b, .ref am_from, .ref am_to, .ref am_way, .ref am_depth, .ref am_above, .ref am_pile, .ref am_next, .ref am_leader, .ref am_turned, .ref am_piece, .ref am_numbers, .ref am_row])), (am_ones, .inl (km_ones, 24, .inl zm_ones)), (am_others, .inl (km_others, 24, .inl zm_others)), (am_xs, .inl (km_xs, 10, .inl zm_xs)), (am_ys, .inl (km_ys, 10, .inl zm_ys))]) [4, 0, 1, 2, 3] (by decide) rfl
        exact W.zret (v := 0) (ty := .boolean) hx hb hr (nr01 (Or.inl rfl)) (fun t ht hW => ⟨⟨0, (wm_thrown_33), rfl, ⟨(Option.some.inj hI).symm, (Or.inl rfl)⟩, by rw [ht]; exact hP, va_K.moved hW.alike hK, hD⟩, hS.F ht⟩) hS.2.2 d_Mod_meets_53
      · skip
        have hI := hI.trans (if_pos hc_36)
        refine lv_aload_n hx hb d_Mod_meets_39 rfl (lv_at hl 0 rfl) ?_
        refine lv_iload_n hx hb d_Mod_meets_40 rfl (lv_at hl 1 rfl) ?_
        refine lv_iload_n hx hb d_Mod_meets_41 rfl (lv_at hl 2 rfl) ?_
        obtain ⟨p_42, hg_42, hI⟩ := ob_bd hI
        have hPc := hP.sub (ws' := [(am, .inr (5, [.int wm_thrown_33, .ref am_there, .ref am_ones, .ref am_others, .ref am_xs, .ref am_ys, .int zm_many, .ref am_a, .ref am_b, .ref am_from, .ref am_to, .ref am_way, .ref am_depth, .ref am_above, .ref am_pile, .ref am_next, .ref am_leader, .ref am_turned, .ref am_piece, .ref am_numbers, .ref am_row])), (am_ones, .inl (km_ones, 24, .inl zm_ones)), (am_others, .inl (km_others, 24, .inl zm_others)), (am_xs, .inl (km_xs, 10, .inl zm_xs)), (am_ys, .inl (km_ys, 10, .inl zm_ys))]) [4, 0, 1, 2, 3] rfl
        have hDc := hD.sub (ws' := [(am, .inr (5, [.int wm_thrown_33, .ref am_there, .ref am_ones, .ref am_others, .ref am_xs, .ref am_ys, .int zm_many, .ref am_a, .ref am_b, .ref am_from, .ref am_to, .ref am_way, .ref am_depth, .ref am_above, .ref am_pile, .ref am_next, .ref am_leader, .ref am_turned, .ref am_piece, .ref am_numbers, .ref am_row])), (am_ones, .inl (km_ones, 24, .inl zm_ones)), (am_others, .inl (km_others, 24, .inl zm_others)), (am_xs, .inl (km_xs, 10, .inl zm_xs)), (am_ys, .inl (km_ys, 10, .inl zm_ys))]) [4, 0, 1, 2, 3] (by decide) rfl
        have hKc := hK.sub (tys' := [(km_ones, .int), (km_others, .int), (km_xs, .int), (km_ys, .int)]) [0, 1, 2, 3] rfl
        have hFc := va_free (wc := [(am, .inr (5, [.int wm_thrown_33, .ref am_there, .ref am_ones, .ref am_others, .ref am_xs, .ref am_ys, .int zm_many, .ref am_a, .ref am_b, .ref am_from, .ref am_to, .ref am_way, .ref am_depth, .ref am_above, .ref am_pile, .ref am_next, .ref am_leader, .ref am_turned, .ref am_piece, .ref am_numbers, .ref am_row])), (am_ones, .inl (km_ones, 24, .inl zm_ones)), (am_others, .inl (km_others, 24, .inl zm_others)), (am_xs, .inl (km_xs, 10, .inl zm_xs)), (am_ys, .inl (km_ys, 10, .inl zm_ys))]) hD hS hA [4, 0, 1, 2, 3] rfl
        refine va_calli (va_runV (As := [.int v1, .int v2]) (rest := []) ⟨hx, hb, hml, hown, hts⟩ (c_meetNowM l dC dI H.size am am_there am_ones am_others am_xs am_ys am_a am_b am_from am_to am_way am_depth am_above am_pile am_next am_leader am_turned am_piece am_numbers am_row km_ones km_others km_xs km_ys wm_thrown_33 zm_many zm_ones zm_others zm_xs zm_ys v1 v2 p_42 hg_42) (cwV 2 hts (gi4 mw_4_208 mw_4_210 mw_p_63 mw_1_6 mw_4_211) rfl rfl rfl (by decide +kernel) ⟨Nat.le_of_ble_eq_true rfl, Nat.le_of_ble_eq_true rfl⟩) ⟨fb_, va_recv (q0 := 4) (ci := 5) hK hP rfl rfl, pre_ hPc hKc hDc hN⟩ rfl rfl hl.1 rfl (lv_room (Nat.le_of_ble_eq_true rfl)) d_Mod_meets_42 ⟨Nat.le_of_ble_eq_true rfl, Nat.le_of_ble_eq_true rfl⟩) hS (fun q _ h => hFc q h) hFc (fun r_42 u t H locs ht hvm hp_42 hB hz1 hk1 hS => ?_)
        obtain ⟨hP1, -, hD1⟩ := hB
        rw [ht] at hP1
        obtain ⟨hP, hD⟩ := va_join (wr := []) (w1 := [(am, .inr (5, [.int wm_thrown_33, .ref am_there, .ref am_ones, .ref am_others, .ref am_xs, .ref am_ys, .int zm_many, .ref am_a, .ref am_b, .ref am_from, .ref am_to, .ref am_way, .ref am_depth, .ref am_above, .ref am_pile, .ref am_next, .ref am_leader, .ref am_turned, .ref am_piece, .ref am_numbers, .ref am_row])), (am_ones, .inl (km_ones, 24, .inl zm_ones)), (am_others, .inl (km_others, 24, .inl zm_others)), (am_xs, .inl (km_xs, 10, .inl zm_xs)), (am_ys, .inl (km_ys, 10, .inl zm_ys))]) hP hD [4, 0, 1, 2, 3] [] rfl rfl (by decide) (by decide) hk1 hFc hP1 hD1
        obtain ⟨hp_42, hz_42⟩ := hp_42
        have hp_42 : (r_42) = p_42 := hp_42
        subst hp_42
        have hP : va_P (dC, dI) classes [(am, .inr (5, [.int wm_thrown_33, .ref am_there, .ref am_ones, .ref am_others, .ref am_xs, .ref am_ys, .int zm_many, .ref am_a, .ref am_b, .ref am_from, .ref am_to, .ref am_way, .ref am_depth, .ref am_above, .ref am_pile, .ref am_next, .ref am_leader, .ref am_turned, .ref am_piece, .ref am_numbers, .ref am_row])), (am_ones, .inl (km_ones, 24, .inl zm_ones)), (am_others, .inl (km_others, 24, .inl zm_others)), (am_xs, .inl (km_xs, 10, .inl zm_xs)), (am_ys, .inl (km_ys, 10, .inl zm_ys))] H := hP
        have hD : va_D A [(am, .inr (5, [.int wm_thrown_33, .ref am_there, .ref am_ones, .ref am_others, .ref am_xs, .ref am_ys, .int zm_many, .ref am_a, .ref am_b, .ref am_from, .ref am_to, .ref am_way, .ref am_depth, .ref am_above, .ref am_pile, .ref am_next, .ref am_leader, .ref am_turned, .ref am_piece, .ref am_numbers, .ref am_row])), (am_ones, .inl (km_ones, 24, .inl zm_ones)), (am_others, .inl (km_others, 24, .inl zm_others)), (am_xs, .inl (km_xs, 10, .inl zm_xs)), (am_ys, .inl (km_ys, 10, .inl zm_ys))] := hD
        refine lv_if_eq (tgt := 52) hx hb d_Mod_meets_45 rfl (fun hc_45 => ?_) (fun hc_45 => ?_)
        · skip
          have hI := hI.trans (if_pos hc_45)
          refine lv_iconst (v := 0) hx hb d_Mod_meets_52 (by decide) ?_
          exact W.zret (v := 0) (ty := .boolean) hx hb hr (nr01 (Or.inl rfl)) (fun t ht hW => ⟨⟨0, (wm_thrown_33), rfl, ⟨(Option.some.inj hI).symm, (Or.inl rfl)⟩, by rw [ht]; exact hP, va_K.moved hW.alike hK, hD⟩, hS.F ht⟩) hS.2.2 d_Mod_meets_53
        · skip
          have hI := hI.trans (if_neg hc_45)
          refine lv_iconst (v := 1) hx hb d_Mod_meets_48 (by decide) ?_
          refine lv_goto (tgt := 53) hx hb d_Mod_meets_49 rfl ?_
          exact W.zret (v := 1) (ty := .boolean) hx hb hr (nr01 (Or.inr rfl)) (fun t ht hW => ⟨⟨1, (wm_thrown_33), rfl, ⟨(Option.some.inj hI).symm, (Or.inr rfl)⟩, by rw [ht]; exact hP, va_K.moved hW.alike hK, hD⟩, hS.F ht⟩) hS.2.2 d_Mod_meets_53
    have hI : some R = (K_j32_24 (if v1 = v2 then ((1 : Int32)) else ((0 : Int32)))) := by rw [hK_j32_24]; exact hI
    refine lv_icmp_ne (tgt := 31) hx hb d_Mod_meets_24 rfl (fun hc_24 => ?_) (fun hc_24 => ?_)
    · skip
      have hI := ob_elC (C := fun y_ => K_j32_24 y_) hc_24 hI
      refine lv_iconst (v := 0) hx hb d_Mod_meets_31 (by decide) ?_
      have hl := lv_sub hl [0, 1, 2] rfl
      exact J_32_24 _ _ _ _ hI hP hD hS hl
    · skip
      have hI := ob_ifC (C := fun y_ => K_j32_24 y_) hc_24 hI
      refine lv_iconst (v := 1) hx hb d_Mod_meets_27 (by decide) ?_
      refine lv_goto (tgt := 32) hx hb d_Mod_meets_28 rfl ?_
      have hl := lv_sub hl [0, 1, 2] rfl
      exact J_32_24 _ _ _ _ hI hP hD hS hl
  have hI : some R = (Option.bind (if r_3 = 0 then (some ((1 : Int32))) else ((F_isLineM zm_ones v2).bind (fun p_11 => (if p_11 = 0 then (some ((1 : Int32))) else (some ((0 : Int32))))))) K_j22_6) := by rw [hK_j22_6]; exact hI
  refine lv_if_eq (tgt := 17) hx hb d_Mod_meets_6 rfl (fun hc_6 => ?_) (fun hc_6 => ?_)
  · skip
    have hI := ob_ifC (C := fun y_ => Option.bind y_ K_j22_6) hc_6 hI
    refine lv_iconst (v := 1) hx hb d_Mod_meets_17 (by decide) ?_
    refine lv_goto (tgt := 22) hx hb d_Mod_meets_18 rfl ?_
    have hl := lv_sub hl [0, 1, 2] rfl
    exact J_22_6 _ _ _ _ hI hP hD hS hl
  · skip
    have hI := ob_elC (C := fun y_ => Option.bind y_ K_j22_6) hc_6 hI
    refine lv_aload_n hx hb d_Mod_meets_9 rfl (lv_at hl 0 rfl) ?_
    refine lv_iload_n hx hb d_Mod_meets_10 rfl (lv_at hl 2 rfl) ?_
    obtain ⟨p_11, hg_11, hI⟩ := ob_bdC (C := fun y_ => Option.bind y_ K_j22_6) rfl hI
    have hPc := hP.sub (ws' := [(am, .inr (5, [.int zm_thrown, .ref am_there, .ref am_ones, .ref am_others, .ref am_xs, .ref am_ys, .int zm_many, .ref am_a, .ref am_b, .ref am_from, .ref am_to, .ref am_way, .ref am_depth, .ref am_above, .ref am_pile, .ref am_next, .ref am_leader, .ref am_turned, .ref am_piece, .ref am_numbers, .ref am_row])), (am_ones, .inl (km_ones, 24, .inl zm_ones))]) [0, 1] rfl
    have hDc := hD.sub (ws' := [(am, .inr (5, [.int zm_thrown, .ref am_there, .ref am_ones, .ref am_others, .ref am_xs, .ref am_ys, .int zm_many, .ref am_a, .ref am_b, .ref am_from, .ref am_to, .ref am_way, .ref am_depth, .ref am_above, .ref am_pile, .ref am_next, .ref am_leader, .ref am_turned, .ref am_piece, .ref am_numbers, .ref am_row])), (am_ones, .inl (km_ones, 24, .inl zm_ones))]) [0, 1] (by decide) rfl
    have hKc := hK.sub (tys' := [(km_ones, .int)]) [0] rfl
    have hFc := va_free (wc := [(am, .inr (5, [.int zm_thrown, .ref am_there, .ref am_ones, .ref am_others, .ref am_xs, .ref am_ys, .int zm_many, .ref am_a, .ref am_b, .ref am_from, .ref am_to, .ref am_way, .ref am_depth, .ref am_above, .ref am_pile, .ref am_next, .ref am_leader, .ref am_turned, .ref am_piece, .ref am_numbers, .ref am_row])), (am_ones, .inl (km_ones, 24, .inl zm_ones))]) hD hS hA [0, 1] rfl
    refine va_calli (va_runV (As := [.int v2]) (rest := [.ref am]) ⟨hx, hb, hml, hown, hts⟩ (c_isLineM l dC dI H.size am am_there am_ones am_others am_xs am_ys am_a am_b am_from am_to am_way am_depth am_above am_pile am_next am_leader am_turned am_piece am_numbers am_row km_ones zm_thrown zm_many zm_ones v2 p_11 hg_11) (cwV 1 hts (gi4 mw_4_20 mw_4_22 mw_p_35 mw_1_6 mw_4_23) rfl rfl rfl (by decide +kernel) ⟨Nat.le_of_ble_eq_true rfl, Nat.le_of_ble_eq_true rfl⟩) ⟨fb_, va_recv (q0 := 0) (ci := 5) hK hP rfl rfl, pre_ hPc hKc hDc hN⟩ rfl rfl hl.1 rfl (lv_room (Nat.le_of_ble_eq_true rfl)) d_Mod_meets_11 ⟨Nat.le_of_ble_eq_true rfl, Nat.le_of_ble_eq_true rfl⟩) hS (fun q _ h => hFc q h) hFc (fun r_11 u t H locs ht hvm hp_11 hB hz1 hk1 hS => ?_)
    obtain ⟨hP1, -, hD1⟩ := hB
    rw [ht] at hP1
    obtain ⟨hP, hD⟩ := va_join (wr := [(am_others, .inl (km_others, 24, .inl zm_others)), (am_xs, .inl (km_xs, 10, .inl zm_xs)), (am_ys, .inl (km_ys, 10, .inl zm_ys))]) (w1 := [(am, .inr (5, [.int zm_thrown, .ref am_there, .ref am_ones, .ref am_others, .ref am_xs, .ref am_ys, .int zm_many, .ref am_a, .ref am_b, .ref am_from, .ref am_to, .ref am_way, .ref am_depth, .ref am_above, .ref am_pile, .ref am_next, .ref am_leader, .ref am_turned, .ref am_piece, .ref am_numbers, .ref am_row])), (am_ones, .inl (km_ones, 24, .inl zm_ones))]) hP hD [0, 1] [2, 3, 4] rfl rfl (by decide) (by decide) hk1 hFc hP1 hD1
    obtain ⟨hp_11, hz_11⟩ := hp_11
    have hp_11 : (r_11) = p_11 := hp_11
    subst hp_11
    have hP : va_P (dC, dI) classes [(am_others, .inl (km_others, 24, .inl zm_others)), (am_xs, .inl (km_xs, 10, .inl zm_xs)), (am_ys, .inl (km_ys, 10, .inl zm_ys)), (am, .inr (5, [.int zm_thrown, .ref am_there, .ref am_ones, .ref am_others, .ref am_xs, .ref am_ys, .int zm_many, .ref am_a, .ref am_b, .ref am_from, .ref am_to, .ref am_way, .ref am_depth, .ref am_above, .ref am_pile, .ref am_next, .ref am_leader, .ref am_turned, .ref am_piece, .ref am_numbers, .ref am_row])), (am_ones, .inl (km_ones, 24, .inl zm_ones))] H := hP
    have hD : va_D A [(am_others, .inl (km_others, 24, .inl zm_others)), (am_xs, .inl (km_xs, 10, .inl zm_xs)), (am_ys, .inl (km_ys, 10, .inl zm_ys)), (am, .inr (5, [.int zm_thrown, .ref am_there, .ref am_ones, .ref am_others, .ref am_xs, .ref am_ys, .int zm_many, .ref am_a, .ref am_b, .ref am_from, .ref am_to, .ref am_way, .ref am_depth, .ref am_above, .ref am_pile, .ref am_next, .ref am_leader, .ref am_turned, .ref am_piece, .ref am_numbers, .ref am_row])), (am_ones, .inl (km_ones, 24, .inl zm_ones))] := hD
    refine lv_if_ne (tgt := 21) hx hb d_Mod_meets_14 rfl (fun hc_14 => ?_) (fun hc_14 => ?_)
    · skip
      have hI := ob_elC (C := fun y_ => Option.bind y_ K_j22_6) hc_14 hI
      refine lv_iconst (v := 0) hx hb d_Mod_meets_21 (by decide) ?_
      have hP := hP.sub (ws' := [(am, .inr (5, [.int zm_thrown, .ref am_there, .ref am_ones, .ref am_others, .ref am_xs, .ref am_ys, .int zm_many, .ref am_a, .ref am_b, .ref am_from, .ref am_to, .ref am_way, .ref am_depth, .ref am_above, .ref am_pile, .ref am_next, .ref am_leader, .ref am_turned, .ref am_piece, .ref am_numbers, .ref am_row])), (am_ones, .inl (km_ones, 24, .inl zm_ones)), (am_others, .inl (km_others, 24, .inl zm_others)), (am_xs, .inl (km_xs, 10, .inl zm_xs)), (am_ys, .inl (km_ys, 10, .inl zm_ys))]) [3, 4, 0, 1, 2] rfl
      have hD := hD.sub (ws' := [(am, .inr (5, [.int zm_thrown, .ref am_there, .ref am_ones, .ref am_others, .ref am_xs, .ref am_ys, .int zm_many, .ref am_a, .ref am_b, .ref am_from, .ref am_to, .ref am_way, .ref am_depth, .ref am_above, .ref am_pile, .ref am_next, .ref am_leader, .ref am_turned, .ref am_piece, .ref am_numbers, .ref am_row])), (am_ones, .inl (km_ones, 24, .inl zm_ones)), (am_others, .inl (km_others, 24, .inl zm_others)), (am_xs, .inl (km_xs, 10, .inl zm_xs)), (am_ys, .inl (km_ys, 10, .inl zm_ys))]) [3, 4, 0, 1, 2] (by decide) rfl
      have hl := lv_sub hl [0, 1, 2] rfl
      exact J_22_6 _ _ _ _ hI hP hD hS hl
    · skip
      have hI := ob_ifC (C := fun y_ => Option.bind y_ K_j22_6) hc_14 hI
      refine lv_iconst (v := 1) hx hb d_Mod_meets_17 (by decide) ?_
      refine lv_goto (tgt := 22) hx hb d_Mod_meets_18 rfl ?_
      have hP := hP.sub (ws' := [(am, .inr (5, [.int zm_thrown, .ref am_there, .ref am_ones, .ref am_others, .ref am_xs, .ref am_ys, .int zm_many, .ref am_a, .ref am_b, .ref am_from, .ref am_to, .ref am_way, .ref am_depth, .ref am_above, .ref am_pile, .ref am_next, .ref am_leader, .ref am_turned, .ref am_piece, .ref am_numbers, .ref am_row])), (am_ones, .inl (km_ones, 24, .inl zm_ones)), (am_others, .inl (km_others, 24, .inl zm_others)), (am_xs, .inl (km_xs, 10, .inl zm_xs)), (am_ys, .inl (km_ys, 10, .inl zm_ys))]) [3, 4, 0, 1, 2] rfl
      have hD := hD.sub (ws' := [(am, .inr (5, [.int zm_thrown, .ref am_there, .ref am_ones, .ref am_others, .ref am_xs, .ref am_ys, .int zm_many, .ref am_a, .ref am_b, .ref am_from, .ref am_to, .ref am_way, .ref am_depth, .ref am_above, .ref am_pile, .ref am_next, .ref am_leader, .ref am_turned, .ref am_piece, .ref am_numbers, .ref am_row])), (am_ones, .inl (km_ones, 24, .inl zm_ones)), (am_others, .inl (km_others, 24, .inl zm_others)), (am_xs, .inl (km_xs, 10, .inl zm_xs)), (am_ys, .inl (km_ys, 10, .inl zm_ys))]) [3, 4, 0, 1, 2] (by decide) rfl
      have hl := lv_sub hl [0, 1, 2] rfl
      exact J_22_6 _ _ _ _ hI hP hD hS hl
set_option maxHeartbeats 4000000 in
set_option maxRecDepth 100000 in
theorem c_liesWronglyM (l : Launch) (dC : Nat → ClassId) (dI : Nat → Nat → Nat) (sz : Nat) (am am_there am_ones am_others am_xs am_ys am_a am_b am_from am_to am_way am_depth am_above am_pile am_next am_leader am_turned am_piece am_numbers am_row : Nat) (km_there km_ones km_others km_xs km_ys : ClassId) (zm_thrown : Int32) (zm_many : Int32) (zm_there : Nat → Int32) (zm_ones : Nat → Int32) (zm_others : Nat → Int32) (zm_xs : Nat → Int32) (zm_ys : Nat → Int32) (v1 : Int32) (R : Int32) (hR : F_liesWronglyM zm_there zm_ones zm_others zm_xs zm_ys v1 = some R) : Met l y_Mod_liesWrongly w_Mod_liesWrongly ({ frames := 2, cells := 0, slots := 0, locals := 49 }) (Pre_ dC dI sz [.ref am, .int v1] [(am, .inr (5, [.int zm_thrown, .ref am_there, .ref am_ones, .ref am_others, .ref am_xs, .ref am_ys, .int zm_many, .ref am_a, .ref am_b, .ref am_from, .ref am_to, .ref am_way, .ref am_depth, .ref am_above, .ref am_pile, .ref am_next, .ref am_leader, .ref am_turned, .ref am_piece, .ref am_numbers, .ref am_row])), (am_there, .inl (km_there, 10, .inl zm_there)), (am_ones, .inl (km_ones, 24, .inl zm_ones)), (am_others, .inl (km_others, 24, .inl zm_others)), (am_xs, .inl (km_xs, 10, .inl zm_xs)), (am_ys, .inl (km_ys, 10, .inl zm_ys))] [(km_there, .boolean), (km_ones, .int), (km_others, .int), (km_xs, .int), (km_ys, .int)]) (va_Qi (fun (r : Int32) (u : Unit) => (r = R) ∧ z01 r) (fun u t => End_ dC dI (va_A [(am, .inr (5, [.int zm_thrown, .ref am_there, .ref am_ones, .ref am_others, .ref am_xs, .ref am_ys, .int zm_many, .ref am_a, .ref am_b, .ref am_from, .ref am_to, .ref am_way, .ref am_depth, .ref am_above, .ref am_pile, .ref am_next, .ref am_leader, .ref am_turned, .ref am_piece, .ref am_numbers, .ref am_row])), (am_there, .inl (km_there, 10, .inl zm_there)), (am_ones, .inl (km_ones, 24, .inl zm_ones)), (am_others, .inl (km_others, 24, .inl zm_others)), (am_xs, .inl (km_xs, 10, .inl zm_xs)), (am_ys, .inl (km_ys, 10, .inl zm_ys))] sz) [(km_there, .boolean), (km_ones, .int), (km_others, .int), (km_xs, .int), (km_ys, .int)] [(am, .inr (5, [.int zm_thrown, .ref am_there, .ref am_ones, .ref am_others, .ref am_xs, .ref am_ys, .int zm_many, .ref am_a, .ref am_b, .ref am_from, .ref am_to, .ref am_way, .ref am_depth, .ref am_above, .ref am_pile, .ref am_next, .ref am_leader, .ref am_turned, .ref am_piece, .ref am_numbers, .ref am_row])), (am_there, .inl (km_there, 10, .inl zm_there)), (am_ones, .inl (km_ones, 24, .inl zm_ones)), (am_others, .inl (km_others, 24, .inl zm_others)), (am_xs, .inl (km_xs, 10, .inl zm_xs)), (am_ys, .inl (km_ys, 10, .inl zm_ys))] t) (va_A [(am, .inr (5, [.int zm_thrown, .ref am_there, .ref am_ones, .ref am_others, .ref am_xs, .ref am_ys, .int zm_many, .ref am_a, .ref am_b, .ref am_from, .ref am_to, .ref am_way, .ref am_depth, .ref am_above, .ref am_pile, .ref am_next, .ref am_leader, .ref am_turned, .ref am_piece, .ref am_numbers, .ref am_row])), (am_there, .inl (km_there, 10, .inl zm_there)), (am_ones, .inl (km_ones, 24, .inl zm_ones)), (am_others, .inl (km_others, 24, .inl zm_others)), (am_xs, .inl (km_xs, 10, .inl zm_xs)), (am_ys, .inl (km_ys, 10, .inl zm_ys))] sz)) 0 0 (va_A [(am, .inr (5, [.int zm_thrown, .ref am_there, .ref am_ones, .ref am_others, .ref am_xs, .ref am_ys, .int zm_many, .ref am_a, .ref am_b, .ref am_from, .ref am_to, .ref am_way, .ref am_depth, .ref am_above, .ref am_pile, .ref am_next, .ref am_leader, .ref am_turned, .ref am_piece, .ref am_numbers, .ref am_row])), (am_there, .inl (km_there, 10, .inl zm_there)), (am_ones, .inl (km_ones, 24, .inl zm_ones)), (am_others, .inl (km_others, 24, .inl zm_others)), (am_xs, .inl (km_xs, 10, .inl zm_xs)), (am_ys, .inl (km_ys, 10, .inl zm_ys))] sz) := by
  refine Met.ofW (cc := b_Mod_liesWrongly) (maxL := 4) (ret := (some .boolean)) (by decide) rfl ?_
  intro p e s m args below meth c s₁ B hml hv
  obtain ⟨hargs, hsz, hP, hK, hD0, hN⟩ := hv
  have hx := B.exec
  have hb := B.bytes
  have hr := B.returns
  have hts := atoms_spec (ws := w_Mod_liesWrongly) B.pre
  have hown : s.vm.findClass R_Mod = some m.cls := findClass_of_methodNamed B.named
  have hlocks := B.notSynchronized
  subst hsz
  have hD := hD0.self (sz := s.heap.size)
  generalize hAe : va_A [(am, .inr (5, [.int zm_thrown, .ref am_there, .ref am_ones, .ref am_others, .ref am_xs, .ref am_ys, .int zm_many, .ref am_a, .ref am_b, .ref am_from, .ref am_to, .ref am_way, .ref am_depth, .ref am_above, .ref am_pile, .ref am_next, .ref am_leader, .ref am_turned, .ref am_piece, .ref am_numbers, .ref am_row])), (am_there, .inl (km_there, 10, .inl zm_there)), (am_ones, .inl (km_ones, 24, .inl zm_ones)), (am_others, .inl (km_others, 24, .inl zm_others)), (am_xs, .inl (km_xs, 10, .inl zm_xs)), (am_ys, .inl (km_ys, 10, .inl zm_ys))] s.heap.size = A at hD ⊢
  have hA : ∀ q : Nat, s.heap.size ≤ q → A q := fun q h => by rw [← hAe]; exact Or.inr h
  have hS : va_S A s.heap s.heap [] := va_S.rf
  have hl := lv_entry ([.ref am, .int v1]) (n := 4) (Nat.le_of_ble_eq_true rfl)
  refine W.eq (congrArg (fun a => entryFrame m a 4) hargs) ?_
  rw [lg_entry_eq]
  generalize (lg_sl ([.ref am, .int v1]) ++ List.replicate (4 - (lg_sl ([.ref am, .int v1])).length) Slot.unset).toArray = ls at hl ⊢
  have hl : lv_has ls 4 [(0, .ref am), (1, .int v1)] := hl
  generalize hH0 : ([] : List Loc) = locs at hS ⊢
  have hI := hR.symm
  rw [F_liesWronglyM] at hI
  refine lv_iconst (v := 0) hx hb d_Mod_liesWrongly_0 (by decide) ?_
  refine lv_istore_n (lv' := [(2, .int 0), (0, .ref am), (1, .int v1)]) hx hb d_Mod_liesWrongly_1 rfl hl (by decide) rfl (fun ls hl => ?_)
  refine lv_iconst (v := 0) hx hb d_Mod_liesWrongly_2 (by decide) ?_
  refine lv_istore_n (lv' := [(3, .int 0), (2, .int 0), (0, .ref am), (1, .int v1)]) hx hb d_Mod_liesWrongly_3 rfl hl (by decide) rfl (fun ls hl => ?_)
  obtain ⟨K_4, hK_4⟩ : ∃ K : Int32 → Option (Int32), K = (fun v2_4 => (F_liesWronglyM_L77 (fun v2_77 => (if is01 v2_77 = true then some (v2_77) else none)) zm_there zm_xs zm_ys v1 10 0 v2_4)) := ⟨_, rfl⟩
  have X_4 : ∀ (k_4 : Nat) (v2_4 : Int32) (H : Heap) (locs : List Loc) (ls : Array Slot), some R = K_4 v2_4 → va_P (dC, dI) classes [(am, .inr (5, [.int zm_thrown, .ref am_there, .ref am_ones, .ref am_others, .ref am_xs, .ref am_ys, .int zm_many, .ref am_a, .ref am_b, .ref am_from, .ref am_to, .ref am_way, .ref am_depth, .ref am_above, .ref am_pile, .ref am_next, .ref am_leader, .ref am_turned, .ref am_piece, .ref am_numbers, .ref am_row])), (am_there, .inl (km_there, 10, .inl zm_there)), (am_ones, .inl (km_ones, 24, .inl zm_ones)), (am_others, .inl (km_others, 24, .inl zm_others)), (am_xs, .inl (km_xs, 10, .inl zm_xs)), (am_ys, .inl (km_ys, 10, .inl zm_ys))] H → va_D A [(am, .inr (5, [.int zm_thrown, .ref am_there, .ref am_ones, .ref am_others, .ref am_xs, .ref am_ys, .int zm_many, .ref am_a, .ref am_b, .ref am_from, .ref am_to, .ref am_way, .ref am_depth, .ref am_above, .ref am_pile, .ref am_next, .ref am_leader, .ref am_turned, .ref am_piece, .ref am_numbers, .ref am_row])), (am_there, .inl (km_there, 10, .inl zm_there)), (am_ones, .inl (km_ones, 24, .inl zm_ones)), (am_others, .inl (km_others, 24, .inl zm_others)), (am_xs, .inl (km_xs, 10, .inl zm_xs)), (am_ys, .inl (km_ys, 10, .inl zm_ys))] → va_S A s.heap H locs → lv_has ls 4 [(0, .ref am), (1, .int v1), (2, .int v2_4), (3, .int (nI k_4))] → W p l e (headSpec w_Mod_liesWrongly ({ frames := 2, cells := 0, slots := 0, locals := 49 })).room s m args below meth c H locs 0 0 (MQ below (va_Qi (fun (r : Int32) (u : Unit) => (r = R) ∧ z01 r) (fun u t => End_ dC dI A [(km_there, .boolean), (km_ones, .int), (km_others, .int), (km_xs, .int), (km_ys, .int)] [(am, .inr (5, [.int zm_thrown, .ref am_there, .ref am_ones, .ref am_others, .ref am_xs, .ref am_ys, .int zm_many, .ref am_a, .ref am_b, .ref am_from, .ref am_to, .ref am_way, .ref am_depth, .ref am_above, .ref am_pile, .ref am_next, .ref am_leader, .ref am_turned, .ref am_piece, .ref am_numbers, .ref am_row])), (am_there, .inl (km_there, 10, .inl zm_there)), (am_ones, .inl (km_ones, 24, .inl zm_ones)), (am_others, .inl (km_others, 24, .inl zm_others)), (am_xs, .inl (km_xs, 10, .inl zm_xs)), (am_ys, .inl (km_ys, 10, .inl zm_ys))] t) A) args s 0 0 A) (F0 m 75 ls []) := by
    intro k_4 v2_4 H locs ls hI hP hD hS hl
    rw [hK_4] at hI
    refine lv_iconst (v := 0) hx hb d_Mod_liesWrongly_75 (by decide) ?_
    refine lv_istore_n (lv' := [(3, .int 0), (0, .ref am), (1, .int v1), (2, .int v2_4)]) hx hb d_Mod_liesWrongly_76 rfl hl (by decide) rfl (fun ls hl => ?_)
    obtain ⟨K_77, hK_77⟩ : ∃ K : Int32 → Option (Int32), K = (fun v2_77 => (if is01 v2_77 = true then some (v2_77) else none)) := ⟨_, rfl⟩
    have X_77 : ∀ (k_77 : Nat) (v2_77 : Int32) (H : Heap) (locs : List Loc) (ls : Array Slot), some R = K_77 v2_77 → va_P (dC, dI) classes [(am, .inr (5, [.int zm_thrown, .ref am_there, .ref am_ones, .ref am_others, .ref am_xs, .ref am_ys, .int zm_many, .ref am_a, .ref am_b, .ref am_from, .ref am_to, .ref am_way, .ref am_depth, .ref am_above, .ref am_pile, .ref am_next, .ref am_leader, .ref am_turned, .ref am_piece, .ref am_numbers, .ref am_row])), (am_there, .inl (km_there, 10, .inl zm_there)), (am_ones, .inl (km_ones, 24, .inl zm_ones)), (am_others, .inl (km_others, 24, .inl zm_others)), (am_xs, .inl (km_xs, 10, .inl zm_xs)), (am_ys, .inl (km_ys, 10, .inl zm_ys))] H → va_D A [(am, .inr (5, [.int zm_thrown, .ref am_there, .ref am_ones, .ref am_others, .ref am_xs, .ref am_ys, .int zm_many, .ref am_a, .ref am_b, .ref am_from, .ref am_to, .ref am_way, .ref am_depth, .ref am_above, .ref am_pile, .ref am_next, .ref am_leader, .ref am_turned, .ref am_piece, .ref am_numbers, .ref am_row])), (am_there, .inl (km_there, 10, .inl zm_there)), (am_ones, .inl (km_ones, 24, .inl zm_ones)), (am_others, .inl (km_others, 24, .inl zm_others)), (am_xs, .inl (km_xs, 10, .inl zm_xs)), (am_ys, .inl (km_ys, 10, .inl zm_ys))] → va_S A s.heap H locs → lv_has ls 4 [(0, .ref am), (1, .int v1), (2, .int v2_77), (3, .int (nI k_77))] → W p l e (headSpec w_Mod_liesWrongly ({ frames := 2, cells := 0, slots := 0, locals := 49 })).room s m args below meth c H locs 0 0 (MQ below (va_Qi (fun (r : Int32) (u : Unit) => (r = R) ∧ z01 r) (fun u t => End_ dC dI A [(km_there, .boolean), (km_ones, .int), (km_others, .int), (km_xs, .int), (km_ys, .int)] [(am, .inr (5, [.int zm_thrown, .ref am_there, .ref am_ones, .ref am_others, .ref am_xs, .ref am_ys, .int zm_many, .ref am_a, .ref am_b, .ref am_from, .ref am_to, .ref am_way, .ref am_depth, .ref am_above, .ref am_pile, .ref am_next, .ref am_leader, .ref am_turned, .ref am_piece, .ref am_numbers, .ref am_row])), (am_there, .inl (km_there, 10, .inl zm_there)), (am_ones, .inl (km_ones, 24, .inl zm_ones)), (am_others, .inl (km_others, 24, .inl zm_others)), (am_xs, .inl (km_xs, 10, .inl zm_xs)), (am_ys, .inl (km_ys, 10, .inl zm_ys))] t) A) args s 0 0 A) (F0 m 143 ls []) := by
      intro k_77 v2_77 H locs ls hI hP hD hS hl
      rw [hK_77] at hI
      refine lv_iload_n hx hb d_Mod_liesWrongly_143 rfl (lv_at hl 2 rfl) ?_
      have hz9_144 := ob_01 hI
      have hI := ob_th hI
      exact W.zret (v := v2_77) (ty := .boolean) hx hb hr (nr01 hz9_144) (fun t ht hW => ⟨⟨v2_77, (), rfl, ⟨(Option.some.inj hI).symm, hz9_144⟩, by rw [ht]; exact hP, va_K.moved hW.alike hK, hD⟩, hS.F ht⟩) hS.2.2 d_Mod_liesWrongly_144
    have L_77 : ∀ (n_77 k_77 : Nat) (v2_77 : Int32) (H : Heap) (locs : List Loc) (ls : Array Slot), k_77 + n_77 = 10 → some R = F_liesWronglyM_L77 K_77 zm_there zm_xs zm_ys v1 n_77 k_77 v2_77 → va_P (dC, dI) classes [(am, .inr (5, [.int zm_thrown, .ref am_there, .ref am_ones, .ref am_others, .ref am_xs, .ref am_ys, .int zm_many, .ref am_a, .ref am_b, .ref am_from, .ref am_to, .ref am_way, .ref am_depth, .ref am_above, .ref am_pile, .ref am_next, .ref am_leader, .ref am_turned, .ref am_piece, .ref am_numbers, .ref am_row])), (am_there, .inl (km_there, 10, .inl zm_there)), (am_ones, .inl (km_ones, 24, .inl zm_ones)), (am_others, .inl (km_others, 24, .inl zm_others)), (am_xs, .inl (km_xs, 10, .inl zm_xs)), (am_ys, .inl (km_ys, 10, .inl zm_ys))] H → va_D A [(am, .inr (5, [.int zm_thrown, .ref am_there, .ref am_ones, .ref am_others, .ref am_xs, .ref am_ys, .int zm_many, .ref am_a, .ref am_b, .ref am_from, .ref am_to, .ref am_way, .ref am_depth, .ref am_above, .ref am_pile, .ref am_next, .ref am_leader, .ref am_turned, .ref am_piece, .ref am_numbers, .ref am_row])), (am_there, .inl (km_there, 10, .inl zm_there)), (am_ones, .inl (km_ones, 24, .inl zm_ones)), (am_others, .inl (km_others, 24, .inl zm_others)), (am_xs, .inl (km_xs, 10, .inl zm_xs)), (am_ys, .inl (km_ys, 10, .inl zm_ys))] → va_S A s.heap H locs → lv_has ls 4 [(0, .ref am), (1, .int v1), (2, .int v2_77), (3, .int (nI k_77))] → W p l e (headSpec w_Mod_liesWrongly ({ frames := 2, cells := 0, slots := 0, locals := 49 })).room s m args below meth c H locs 0 0 (MQ below (va_Qi (fun (r : Int32) (u : Unit) => (r = R) ∧ z01 r) (fun u t => End_ dC dI A [(km_there, .boolean), (km_ones, .int), (km_others, .int), (km_xs, .int), (km_ys, .int)] [(am, .inr (5, [.int zm_thrown, .ref am_there, .ref am_ones, .ref am_others, .ref am_xs, .ref am_ys, .int zm_many, .ref am_a, .ref am_b, .ref am_from, .ref am_to, .ref am_way, .ref am_depth, .ref am_above, .ref am_pile, .ref am_next, .ref am_leader, .ref am_turned, .ref am_piece, .ref am_numbers, .ref am_row])), (am_there, .inl (km_there, 10, .inl zm_there)), (am_ones, .inl (km_ones, 24, .inl zm_ones)), (am_others, .inl (km_others, 24, .inl zm_others)), (am_xs, .inl (km_xs, 10, .inl zm_xs)), (am_ys, .inl (km_ys, 10, .inl zm_ys))] t) A) args s 0 0 A) (F0 m 77 ls []) := by
      intro n_77
      induction n_77 with
      | zero =>
        intro k_77 v2_77 H locs ls hkn_77 hI hP hD hS hl
        rw [F_liesWronglyM_L77] at hI
        refine lv_iload_n hx hb d_Mod_liesWrongly_77 rfl (lv_at hl 3 rfl) ?_
        refine lv_bipush (v := 10) hx hb d_Mod_liesWrongly_78 (by decide) ?_
        refine lv_icmp_ge (tgt := 143) hx hb d_Mod_liesWrongly_80 rfl (fun hc_80 => ?_) (fun hc_80 => absurd (z_exit rfl hkn_77) hc_80)
        have hl := lv_sub hl [0, 1, 2, 3] rfl
        exact X_77 _ _ _ _ _ hI hP hD hS hl
      | succ n_77 ih_77 =>
        intro k_77 v2_77 H locs ls hkn_77 hI hP hD hS hl
        rw [F_liesWronglyM_L77] at hI
        refine lv_iload_n hx hb d_Mod_liesWrongly_77 rfl (lv_at hl 3 rfl) ?_
        refine lv_bipush (v := 10) hx hb d_Mod_liesWrongly_78 (by decide) ?_
        refine lv_icmp_ge (tgt := 143) hx hb d_Mod_liesWrongly_80 rfl (fun hc_80 => absurd hc_80 (z_stay rfl hkn_77 (by decide))) (fun hc_80 => ?_)
        refine lv_iload_n hx hb d_Mod_liesWrongly_83 rfl (lv_at hl 2 rfl) ?_
        obtain ⟨K_j136_84, hK_j136_84⟩ : ∃ K : Int32 → Option (Int32), K = (fun (j_136_84 : Int32) => (F_liesWronglyM_L77 K_77 zm_there zm_xs zm_ys v1 n_77 (k_77 + 1) j_136_84)) := ⟨_, rfl⟩
        have J_136_84 : ∀ (s0_136_84 : Int32) (H : Heap) (locs : List Loc) (ls : Array Slot), some R = (K_j136_84 s0_136_84) → va_P (dC, dI) classes [(am, .inr (5, [.int zm_thrown, .ref am_there, .ref am_ones, .ref am_others, .ref am_xs, .ref am_ys, .int zm_many, .ref am_a, .ref am_b, .ref am_from, .ref am_to, .ref am_way, .ref am_depth, .ref am_above, .ref am_pile, .ref am_next, .ref am_leader, .ref am_turned, .ref am_piece, .ref am_numbers, .ref am_row])), (am_there, .inl (km_there, 10, .inl zm_there)), (am_ones, .inl (km_ones, 24, .inl zm_ones)), (am_others, .inl (km_others, 24, .inl zm_others)), (am_xs, .inl (km_xs, 10, .inl zm_xs)), (am_ys, .inl (km_ys, 10, .inl zm_ys))] H → va_D A [(am, .inr (5, [.int zm_thrown, .ref am_there, .ref am_ones, .ref am_others, .ref am_xs, .ref am_ys, .int zm_many, .ref am_a, .ref am_b, .ref am_from, .ref am_to, .ref am_way, .ref am_depth, .ref am_above, .ref am_pile, .ref am_next, .ref am_leader, .ref am_turned, .ref am_piece, .ref am_numbers, .ref am_row])), (am_there, .inl (km_there, 10, .inl zm_there)), (am_ones, .inl (km_ones, 24, .inl zm_ones)), (am_others, .inl (km_others, 24, .inl zm_others)), (am_xs, .inl (km_xs, 10, .inl zm_xs)), (am_ys, .inl (km_ys, 10, .inl zm_ys))] → va_S A s.heap H locs → lv_has ls 4 [(0, .ref am), (1, .int v1), (2, .int v2_77), (3, .int (nI k_77))] → W p l e (headSpec w_Mod_liesWrongly ({ frames := 2, cells := 0, slots := 0, locals := 49 })).room s m args below meth c H locs 0 0 (MQ below (va_Qi (fun (r : Int32) (u : Unit) => (r = R) ∧ z01 r) (fun u t => End_ dC dI A [(km_there, .boolean), (km_ones, .int), (km_others, .int), (km_xs, .int), (km_ys, .int)] [(am, .inr (5, [.int zm_thrown, .ref am_there, .ref am_ones, .ref am_others, .ref am_xs, .ref am_ys, .int zm_many, .ref am_a, .ref am_b, .ref am_from, .ref am_to, .ref am_way, .ref am_depth, .ref am_above, .ref am_pile, .ref am_next, .ref am_leader, .ref am_turned, .ref am_piece, .ref am_numbers, .ref am_row])), (am_there, .inl (km_there, 10, .inl zm_there)), (am_ones, .inl (km_ones, 24, .inl zm_ones)), (am_others, .inl (km_others, 24, .inl zm_others)), (am_xs, .inl (km_xs, 10, .inl zm_xs)), (am_ys, .inl (km_ys, 10, .inl zm_ys))] t) A) args s 0 0 A) (F0 m 136 ls [.int s0_136_84]) := by
          intro s0_136_84 H locs ls hI hP hD hS hl
          rw [hK_j136_84] at hI
          refine lv_istore_n (lv' := [(2, .int s0_136_84), (0, .ref am), (1, .int v1), (3, .int (nI k_77))]) hx hb d_Mod_liesWrongly_136 rfl hl (by decide) rfl (fun ls hl => ?_)
          refine lv_iinc (lv' := [(3, .int (nI (k_77 + 1))), (2, .int s0_136_84), (0, .ref am), (1, .int v1)]) (k := 3) hx hb d_Mod_liesWrongly_137 hl rfl (z_inc _) (by decide) rfl (fun ls hl => ?_)
          refine lv_goto (tgt := 77) hx hb d_Mod_liesWrongly_140 rfl ?_
          have hl := lv_sub hl [2, 3, 1, 0] rfl
          exact ih_77 _ _ _ _ _ (by omega) hI hP hD hS hl
        have hI : some R = (Option.bind (if v2_77 = 0 then (if (nI k_77) = v1 then (some ((0 : Int32))) else (if (zm_there k_77) = 0 then (some ((0 : Int32))) else (if inb v1 10 = true then (if (zm_xs k_77) = (zm_xs (Int32.toNatClampNeg v1)) then (if (zm_ys k_77) = (zm_ys (Int32.toNatClampNeg v1)) then (some ((1 : Int32))) else (some ((0 : Int32)))) else (some ((0 : Int32)))) else none))) else (some ((1 : Int32)))) K_j136_84) := by rw [hK_j136_84]; exact hI
        refine lv_if_ne (tgt := 131) hx hb d_Mod_liesWrongly_84 rfl (fun hc_84 => ?_) (fun hc_84 => ?_)
        · skip
          have hI := ob_elC (C := fun y_ => Option.bind y_ K_j136_84) hc_84 hI
          refine lv_iconst (v := 1) hx hb d_Mod_liesWrongly_131 (by decide) ?_
          refine lv_goto (tgt := 136) hx hb d_Mod_liesWrongly_132 rfl ?_
          have hl := lv_sub hl [0, 1, 2, 3] rfl
          exact J_136_84 _ _ _ _ hI hP hD hS hl
        · skip
          have hI := ob_ifC (C := fun y_ => Option.bind y_ K_j136_84) hc_84 hI
          refine lv_iload_n hx hb d_Mod_liesWrongly_87 rfl (lv_at hl 3 rfl) ?_
          refine lv_iload_n hx hb d_Mod_liesWrongly_88 rfl (lv_at hl 1 rfl) ?_
          refine lv_icmp_eq (tgt := 135) hx hb d_Mod_liesWrongly_89 rfl (fun hc_89 => ?_) (fun hc_89 => ?_)
          · skip
            have hI := ob_ifC (C := fun y_ => Option.bind y_ K_j136_84) hc_89 hI
            refine lv_iconst (v := 0) hx hb d_Mod_liesWrongly_135 (by decide) ?_
            have hl := lv_sub hl [0, 1, 2, 3] rfl
            exact J_136_84 _ _ _ _ hI hP hD hS hl
          · skip
            have hI := ob_elC (C := fun y_ => Option.bind y_ K_j136_84) hc_89 hI
            refine lv_aload_n hx hb d_Mod_liesWrongly_92 rfl (lv_at hl 0 rfl) ?_
            refine va_get (D := (dC, dI)) (ci := 5) (v := .ref am_there) (C := R_Mod) (T := F_Mod) (N := 21) hx hb hts (fun w h => List.mem_cons_of_mem _ (in_Mod w h)) hown hK hP 0 rfl rfl 1 (by decide) (hts _ (List.mem_cons_of_mem _ mw_3_157)) (fun _ h9 => h9) rfl d_Mod_liesWrongly_93 ?_
            refine lv_iload_n hx hb d_Mod_liesWrongly_96 rfl (lv_at hl 3 rfl) ?_
            refine va_zald (D := (dC, dI)) hx hb hK hP 1 0 rfl rfl (vp_in_nI (by omega) (by decide)) d_Mod_liesWrongly_97 ?_
            refine lv_topi (fun y_97 e_97 => ?_)
            obtain rfl : y_97 = zm_there k_77 := e_97.trans (by rw [nI_clamp (by omega)])
            refine lv_if_eq (tgt := 135) hx hb d_Mod_liesWrongly_98 rfl (fun hc_98 => ?_) (fun hc_98 => ?_)
            · skip
              have hI := ob_ifC (C := fun y_ => Option.bind y_ K_j136_84) hc_98 hI
              refine lv_iconst (v := 0) hx hb d_Mod_liesWrongly_135 (by decide) ?_
              have hl := lv_sub hl [0, 1, 2, 3] rfl
              exact J_136_84 _ _ _ _ hI hP hD hS hl
            · skip
              have hI := ob_elC (C := fun y_ => Option.bind y_ K_j136_84) hc_98 hI
              refine lv_aload_n hx hb d_Mod_liesWrongly_101 rfl (lv_at hl 0 rfl) ?_
              refine va_get (D := (dC, dI)) (ci := 5) (v := .ref am_xs) (C := R_Mod) (T := F_Mod) (N := 21) hx hb hts (fun w h => List.mem_cons_of_mem _ (in_Mod w h)) hown hK hP 0 rfl rfl 4 (by decide) (hts _ (List.mem_cons_of_mem _ mw_3_160)) (fun _ h9 => h9) rfl d_Mod_liesWrongly_102 ?_
              refine lv_iload_n hx hb d_Mod_liesWrongly_105 rfl (lv_at hl 3 rfl) ?_
              refine va_iald (D := (dC, dI)) hx hb hK hP 4 3 rfl rfl (vp_in_nI (by omega) (by decide)) d_Mod_liesWrongly_106 ?_
              refine lv_topi (fun y_106 e_106 => ?_)
              obtain rfl : y_106 = zm_xs k_77 := e_106.trans (by rw [nI_clamp (by omega)])
              refine lv_aload_n hx hb d_Mod_liesWrongly_107 rfl (lv_at hl 0 rfl) ?_
              refine va_get (D := (dC, dI)) (ci := 5) (v := .ref am_xs) (C := R_Mod) (T := F_Mod) (N := 21) hx hb hts (fun w h => List.mem_cons_of_mem _ (in_Mod w h)) hown hK hP 0 rfl rfl 4 (by decide) (hts _ (List.mem_cons_of_mem _ mw_3_160)) (fun _ h9 => h9) rfl d_Mod_liesWrongly_108 ?_
              refine lv_iload_n hx hb d_Mod_liesWrongly_111 rfl (lv_at hl 1 rfl) ?_
              obtain ⟨hi_112, hI⟩ := ob_inC (C := fun y_ => Option.bind y_ K_j136_84) rfl hI
              refine va_iald (D := (dC, dI)) hx hb hK hP 4 3 rfl rfl hi_112 d_Mod_liesWrongly_112 ?_
              refine lv_icmp_ne (tgt := 135) hx hb d_Mod_liesWrongly_113 rfl (fun hc_113 => ?_) (fun hc_113 => ?_)
              · skip
                have hI := ob_elC (C := fun y_ => Option.bind y_ K_j136_84) hc_113 hI
                refine lv_iconst (v := 0) hx hb d_Mod_liesWrongly_135 (by decide) ?_
                have hl := lv_sub hl [0, 1, 2, 3] rfl
                exact J_136_84 _ _ _ _ hI hP hD hS hl
              · skip
                have hI := ob_ifC (C := fun y_ => Option.bind y_ K_j136_84) hc_113 hI
                refine lv_aload_n hx hb d_Mod_liesWrongly_116 rfl (lv_at hl 0 rfl) ?_
                refine va_get (D := (dC, dI)) (ci := 5) (v := .ref am_ys) (C := R_Mod) (T := F_Mod) (N := 21) hx hb hts (fun w h => List.mem_cons_of_mem _ (in_Mod w h)) hown hK hP 0 rfl rfl 5 (by decide) (hts _ (List.mem_cons_of_mem _ mw_3_161)) (fun _ h9 => h9) rfl d_Mod_liesWrongly_117 ?_
                refine lv_iload_n hx hb d_Mod_liesWrongly_120 rfl (lv_at hl 3 rfl) ?_
                refine va_iald (D := (dC, dI)) hx hb hK hP 5 4 rfl rfl (vp_in_nI (by omega) (by decide)) d_Mod_liesWrongly_121 ?_
                refine lv_topi (fun y_121 e_121 => ?_)
                obtain rfl : y_121 = zm_ys k_77 := e_121.trans (by rw [nI_clamp (by omega)])
                refine lv_aload_n hx hb d_Mod_liesWrongly_122 rfl (lv_at hl 0 rfl) ?_
                refine va_get (D := (dC, dI)) (ci := 5) (v := .ref am_ys) (C := R_Mod) (T := F_Mod) (N := 21) hx hb hts (fun w h => List.mem_cons_of_mem _ (in_Mod w h)) hown hK hP 0 rfl rfl 5 (by decide) (hts _ (List.mem_cons_of_mem _ mw_3_161)) (fun _ h9 => h9) rfl d_Mod_liesWrongly_123 ?_
                refine lv_iload_n hx hb d_Mod_liesWrongly_126 rfl (lv_at hl 1 rfl) ?_
                refine va_iald (D := (dC, dI)) hx hb hK hP 5 4 rfl rfl hi_112 d_Mod_liesWrongly_127 ?_
                refine lv_icmp_ne (tgt := 135) hx hb d_Mod_liesWrongly_128 rfl (fun hc_128 => ?_) (fun hc_128 => ?_)
                · skip
                  have hI := ob_elC (C := fun y_ => Option.bind y_ K_j136_84) hc_128 hI
                  refine lv_iconst (v := 0) hx hb d_Mod_liesWrongly_135 (by decide) ?_
                  have hl := lv_sub hl [0, 1, 2, 3] rfl
                  exact J_136_84 _ _ _ _ hI hP hD hS hl
                · skip
                  have hI := ob_ifC (C := fun y_ => Option.bind y_ K_j136_84) hc_128 hI
                  refine lv_iconst (v := 1) hx hb d_Mod_liesWrongly_131 (by decide) ?_
                  refine lv_goto (tgt := 136) hx hb d_Mod_liesWrongly_132 rfl ?_
                  have hl := lv_sub hl [0, 1, 2, 3] rfl
                  exact J_136_84 _ _ _ _ hI hP hD hS hl
    have hl : lv_has ls 4 [(0, .ref am), (1, .int v1), (2, .int v2_4), (3, .int (nI 0))] := by first | exact lv_sub hl [1, 2, 3, 0] rfl | (rw [nI_succ]; exact lv_sub hl [1, 2, 3, 0] rfl)
    exact L_77 10 0 _ _ _ _ (by omega) (by rw [hK_77]; exact hI) hP hD hS hl
  have L_4 : ∀ (n_4 k_4 : Nat) (v2_4 : Int32) (H : Heap) (locs : List Loc) (ls : Array Slot), k_4 + n_4 = 24 → some R = F_liesWronglyM_L4 K_4 zm_ones zm_others zm_xs zm_ys v1 n_4 k_4 v2_4 → va_P (dC, dI) classes [(am, .inr (5, [.int zm_thrown, .ref am_there, .ref am_ones, .ref am_others, .ref am_xs, .ref am_ys, .int zm_many, .ref am_a, .ref am_b, .ref am_from, .ref am_to, .ref am_way, .ref am_depth, .ref am_above, .ref am_pile, .ref am_next, .ref am_leader, .ref am_turned, .ref am_piece, .ref am_numbers, .ref am_row])), (am_there, .inl (km_there, 10, .inl zm_there)), (am_ones, .inl (km_ones, 24, .inl zm_ones)), (am_others, .inl (km_others, 24, .inl zm_others)), (am_xs, .inl (km_xs, 10, .inl zm_xs)), (am_ys, .inl (km_ys, 10, .inl zm_ys))] H → va_D A [(am, .inr (5, [.int zm_thrown, .ref am_there, .ref am_ones, .ref am_others, .ref am_xs, .ref am_ys, .int zm_many, .ref am_a, .ref am_b, .ref am_from, .ref am_to, .ref am_way, .ref am_depth, .ref am_above, .ref am_pile, .ref am_next, .ref am_leader, .ref am_turned, .ref am_piece, .ref am_numbers, .ref am_row])), (am_there, .inl (km_there, 10, .inl zm_there)), (am_ones, .inl (km_ones, 24, .inl zm_ones)), (am_others, .inl (km_others, 24, .inl zm_others)), (am_xs, .inl (km_xs, 10, .inl zm_xs)), (am_ys, .inl (km_ys, 10, .inl zm_ys))] → va_S A s.heap H locs → lv_has ls 4 [(0, .ref am), (1, .int v1), (2, .int v2_4), (3, .int (nI k_4))] → W p l e (headSpec w_Mod_liesWrongly ({ frames := 2, cells := 0, slots := 0, locals := 49 })).room s m args below meth c H locs 0 0 (MQ below (va_Qi (fun (r : Int32) (u : Unit) => (r = R) ∧ z01 r) (fun u t => End_ dC dI A [(km_there, .boolean), (km_ones, .int), (km_others, .int), (km_xs, .int), (km_ys, .int)] [(am, .inr (5, [.int zm_thrown, .ref am_there, .ref am_ones, .ref am_others, .ref am_xs, .ref am_ys, .int zm_many, .ref am_a, .ref am_b, .ref am_from, .ref am_to, .ref am_way, .ref am_depth, .ref am_above, .ref am_pile, .ref am_next, .ref am_leader, .ref am_turned, .ref am_piece, .ref am_numbers, .ref am_row])), (am_there, .inl (km_there, 10, .inl zm_there)), (am_ones, .inl (km_ones, 24, .inl zm_ones)), (am_others, .inl (km_others, 24, .inl zm_others)), (am_xs, .inl (km_xs, 10, .inl zm_xs)), (am_ys, .inl (km_ys, 10, .inl zm_ys))] t) A) args s 0 0 A) (F0 m 4 ls []) := by
    intro n_4
    induction n_4 with
    | zero =>
      intro k_4 v2_4 H locs ls hkn_4 hI hP hD hS hl
      rw [F_liesWronglyM_L4] at hI
      refine lv_iload_n hx hb d_Mod_liesWrongly_4 rfl (lv_at hl 3 rfl) ?_
      refine lv_bipush (v := 24) hx hb d_Mod_liesWrongly_5 (by decide) ?_
      refine lv_icmp_ge (tgt := 75) hx hb d_Mod_liesWrongly_7 rfl (fun hc_7 => ?_) (fun hc_7 => absurd (z_exit rfl hkn_4) hc_7)
      have hl := lv_sub hl [0, 1, 2, 3] rfl
      exact X_4 _ _ _ _ _ hI hP hD hS hl
    | succ n_4 ih_4 =>
      intro k_4 v2_4 H locs ls hkn_4 hI hP hD hS hl
      rw [F_liesWronglyM_L4] at hI
      refine lv_iload_n hx hb d_Mod_liesWrongly_4 rfl (lv_at hl 3 rfl) ?_
      refine lv_bipush (v := 24) hx hb d_Mod_liesWrongly_5 (by decide) ?_
      refine lv_icmp_ge (tgt := 75) hx hb d_Mod_liesWrongly_7 rfl (fun hc_7 => absurd hc_7 (z_stay rfl hkn_4 (by decide))) (fun hc_7 => ?_)
      refine lv_iload_n hx hb d_Mod_liesWrongly_10 rfl (lv_at hl 2 rfl) ?_
      obtain ⟨K_j68_11, hK_j68_11⟩ : ∃ K : Int32 → Option (Int32), K = (fun (j_68_11 : Int32) => (F_liesWronglyM_L4 K_4 zm_ones zm_others zm_xs zm_ys v1 n_4 (k_4 + 1) j_68_11)) := ⟨_, rfl⟩
      have J_68_11 : ∀ (s0_68_11 : Int32) (H : Heap) (locs : List Loc) (ls : Array Slot), some R = (K_j68_11 s0_68_11) → va_P (dC, dI) classes [(am, .inr (5, [.int zm_thrown, .ref am_there, .ref am_ones, .ref am_others, .ref am_xs, .ref am_ys, .int zm_many, .ref am_a, .ref am_b, .ref am_from, .ref am_to, .ref am_way, .ref am_depth, .ref am_above, .ref am_pile, .ref am_next, .ref am_leader, .ref am_turned, .ref am_piece, .ref am_numbers, .ref am_row])), (am_there, .inl (km_there, 10, .inl zm_there)), (am_ones, .inl (km_ones, 24, .inl zm_ones)), (am_others, .inl (km_others, 24, .inl zm_others)), (am_xs, .inl (km_xs, 10, .inl zm_xs)), (am_ys, .inl (km_ys, 10, .inl zm_ys))] H → va_D A [(am, .inr (5, [.int zm_thrown, .ref am_there, .ref am_ones, .ref am_others, .ref am_xs, .ref am_ys, .int zm_many, .ref am_a, .ref am_b, .ref am_from, .ref am_to, .ref am_way, .ref am_depth, .ref am_above, .ref am_pile, .ref am_next, .ref am_leader, .ref am_turned, .ref am_piece, .ref am_numbers, .ref am_row])), (am_there, .inl (km_there, 10, .inl zm_there)), (am_ones, .inl (km_ones, 24, .inl zm_ones)), (am_others, .inl (km_others, 24, .inl zm_others)), (am_xs, .inl (km_xs, 10, .inl zm_xs)), (am_ys, .inl (km_ys, 10, .inl zm_ys))] → va_S A s.heap H locs → lv_has ls 4 [(0, .ref am), (1, .int v1), (2, .int v2_4), (3, .int (nI k_4))] → W p l e (headSpec w_Mod_liesWrongly ({ frames := 2, cells := 0, slots := 0, locals := 49 })).room s m args below meth c H locs 0 0 (MQ below (va_Qi (fun (r : Int32) (u : Unit) => (r = R) ∧ z01 r) (fun u t => End_ dC dI A [(km_there, .boolean), (km_ones, .int), (km_others, .int), (km_xs, .int), (km_ys, .int)] [(am, .inr (5, [.int zm_thrown, .ref am_there, .ref am_ones, .ref am_others, .ref am_xs, .ref am_ys, .int zm_many, .ref am_a, .ref am_b, .ref am_from, .ref am_to, .ref am_way, .ref am_depth, .ref am_above, .ref am_pile, .ref am_next, .ref am_leader, .ref am_turned, .ref am_piece, .ref am_numbers, .ref am_row])), (am_there, .inl (km_there, 10, .inl zm_there)), (am_ones, .inl (km_ones, 24, .inl zm_ones)), (am_others, .inl (km_others, 24, .inl zm_others)), (am_xs, .inl (km_xs, 10, .inl zm_xs)), (am_ys, .inl (km_ys, 10, .inl zm_ys))] t) A) args s 0 0 A) (F0 m 68 ls [.int s0_68_11]) := by
        intro s0_68_11 H locs ls hI hP hD hS hl
        rw [hK_j68_11] at hI
        refine lv_istore_n (lv' := [(2, .int s0_68_11), (0, .ref am), (1, .int v1), (3, .int (nI k_4))]) hx hb d_Mod_liesWrongly_68 rfl hl (by decide) rfl (fun ls hl => ?_)
        refine lv_iinc (lv' := [(3, .int (nI (k_4 + 1))), (2, .int s0_68_11), (0, .ref am), (1, .int v1)]) (k := 3) hx hb d_Mod_liesWrongly_69 hl rfl (z_inc _) (by decide) rfl (fun ls hl => ?_)
        refine lv_goto (tgt := 4) hx hb d_Mod_liesWrongly_72 rfl ?_
        have hl := lv_sub hl [2, 3, 1, 0] rfl
        exact ih_4 _ _ _ _ _ (by omega) hI hP hD hS hl
      have hI : some R = (Option.bind (if v2_4 = 0 then (if (zm_ones k_4) < 0 then (some ((0 : Int32))) else (if (zm_ones k_4) = v1 then (some ((0 : Int32))) else (if (zm_others k_4) = v1 then (some ((0 : Int32))) else ((F_isOnM zm_xs zm_ys (zm_ones k_4) (zm_others k_4) v1).bind (fun p_57 => (if p_57 = 0 then (some ((0 : Int32))) else (some ((1 : Int32))))))))) else (some ((1 : Int32)))) K_j68_11) := by rw [hK_j68_11]; exact hI
      refine lv_if_ne (tgt := 63) hx hb d_Mod_liesWrongly_11 rfl (fun hc_11 => ?_) (fun hc_11 => ?_)
      · skip
        have hI := ob_elC (C := fun y_ => Option.bind y_ K_j68_11) hc_11 hI
        refine lv_iconst (v := 1) hx hb d_Mod_liesWrongly_63 (by decide) ?_
        refine lv_goto (tgt := 68) hx hb d_Mod_liesWrongly_64 rfl ?_
        have hl := lv_sub hl [0, 1, 2, 3] rfl
        exact J_68_11 _ _ _ _ hI hP hD hS hl
      · skip
        have hI := ob_ifC (C := fun y_ => Option.bind y_ K_j68_11) hc_11 hI
        refine lv_aload_n hx hb d_Mod_liesWrongly_14 rfl (lv_at hl 0 rfl) ?_
        refine va_get (D := (dC, dI)) (ci := 5) (v := .ref am_ones) (C := R_Mod) (T := F_Mod) (N := 21) hx hb hts (fun w h => List.mem_cons_of_mem _ (in_Mod w h)) hown hK hP 0 rfl rfl 2 (by decide) (hts _ (List.mem_cons_of_mem _ mw_3_158)) (fun _ h9 => h9) rfl d_Mod_liesWrongly_15 ?_
        refine lv_iload_n hx hb d_Mod_liesWrongly_18 rfl (lv_at hl 3 rfl) ?_
        refine va_iald (D := (dC, dI)) hx hb hK hP 2 1 rfl rfl (vp_in_nI (by omega) (by decide)) d_Mod_liesWrongly_19 ?_
        refine lv_topi (fun y_19 e_19 => ?_)
        obtain rfl : y_19 = zm_ones k_4 := e_19.trans (by rw [nI_clamp (by omega)])
        refine lv_if_lt (tgt := 67) hx hb d_Mod_liesWrongly_20 rfl (fun hc_20 => ?_) (fun hc_20 => ?_)
        · skip
          have hI := ob_ifC (C := fun y_ => Option.bind y_ K_j68_11) hc_20 hI
          refine lv_iconst (v := 0) hx hb d_Mod_liesWrongly_67 (by decide) ?_
          have hl := lv_sub hl [0, 1, 2, 3] rfl
          exact J_68_11 _ _ _ _ hI hP hD hS hl
        · skip
          have hI := ob_elC (C := fun y_ => Option.bind y_ K_j68_11) hc_20 hI
          refine lv_aload_n hx hb d_Mod_liesWrongly_23 rfl (lv_at hl 0 rfl) ?_
          refine va_get (D := (dC, dI)) (ci := 5) (v := .ref am_ones) (C := R_Mod) (T := F_Mod) (N := 21) hx hb hts (fun w h => List.mem_cons_of_mem _ (in_Mod w h)) hown hK hP 0 rfl rfl 2 (by decide) (hts _ (List.mem_cons_of_mem _ mw_3_158)) (fun _ h9 => h9) rfl d_Mod_liesWrongly_24 ?_
          refine lv_iload_n hx hb d_Mod_liesWrongly_27 rfl (lv_at hl 3 rfl) ?_
          refine va_iald (D := (dC, dI)) hx hb hK hP 2 1 rfl rfl (vp_in_nI (by omega) (by decide)) d_Mod_liesWrongly_28 ?_
          refine lv_topi (fun y_28 e_28 => ?_)
          obtain rfl : y_28 = zm_ones k_4 := e_28.trans (by rw [nI_clamp (by omega)])
          refine lv_iload_n hx hb d_Mod_liesWrongly_29 rfl (lv_at hl 1 rfl) ?_
          refine lv_icmp_eq (tgt := 67) hx hb d_Mod_liesWrongly_30 rfl (fun hc_30 => ?_) (fun hc_30 => ?_)
          · skip
            have hI := ob_ifC (C := fun y_ => Option.bind y_ K_j68_11) hc_30 hI
            refine lv_iconst (v := 0) hx hb d_Mod_liesWrongly_67 (by decide) ?_
            have hl := lv_sub hl [0, 1, 2, 3] rfl
            exact J_68_11 _ _ _ _ hI hP hD hS hl
          · skip
            have hI := ob_elC (C := fun y_ => Option.bind y_ K_j68_11) hc_30 hI
            refine lv_aload_n hx hb d_Mod_liesWrongly_33 rfl (lv_at hl 0 rfl) ?_
            refine va_get (D := (dC, dI)) (ci := 5) (v := .ref am_others) (C := R_Mod) (T := F_Mod) (N := 21) hx hb hts (fun w h => List.mem_cons_of_mem _ (in_Mod w h)) hown hK hP 0 rfl rfl 3 (by decide) (hts _ (List.mem_cons_of_mem _ mw_3_159)) (fun _ h9 => h9) rfl d_Mod_liesWrongly_34 ?_
            refine lv_iload_n hx hb d_Mod_liesWrongly_37 rfl (lv_at hl 3 rfl) ?_
            refine va_iald (D := (dC, dI)) hx hb hK hP 3 2 rfl rfl (vp_in_nI (by omega) (by decide)) d_Mod_liesWrongly_38 ?_
            refine lv_topi (fun y_38 e_38 => ?_)
            obtain rfl : y_38 = zm_others k_4 := e_38.trans (by rw [nI_clamp (by omega)])
            refine lv_iload_n hx hb d_Mod_liesWrongly_39 rfl (lv_at hl 1 rfl) ?_
            refine lv_icmp_eq (tgt := 67) hx hb d_Mod_liesWrongly_40 rfl (fun hc_40 => ?_) (fun hc_40 => ?_)
            · skip
              have hI := ob_ifC (C := fun y_ => Option.bind y_ K_j68_11) hc_40 hI
              refine lv_iconst (v := 0) hx hb d_Mod_liesWrongly_67 (by decide) ?_
              have hl := lv_sub hl [0, 1, 2, 3] rfl
              exact J_68_11 _ _ _ _ hI hP hD hS hl
            · skip
              have hI := ob_elC (C := fun y_ => Option.bind y_ K_j68_11) hc_40 hI
              refine lv_aload_n hx hb d_Mod_liesWrongly_43 rfl (lv_at hl 0 rfl) ?_
              refine lv_aload_n hx hb d_Mod_liesWrongly_44 rfl (lv_at hl 0 rfl) ?_
              refine va_get (D := (dC, dI)) (ci := 5) (v := .ref am_ones) (C := R_Mod) (T := F_Mod) (N := 21) hx hb hts (fun w h => List.mem_cons_of_mem _ (in_Mod w h)) hown hK hP 0 rfl rfl 2 (by decide) (hts _ (List.mem_cons_of_mem _ mw_3_158)) (fun _ h9 => h9) rfl d_Mod_liesWrongly_45 ?_
              refine lv_iload_n hx hb d_Mod_liesWrongly_48 rfl (lv_at hl 3 rfl) ?_
              refine va_iald (D := (dC, dI)) hx hb hK hP 2 1 rfl rfl (vp_in_nI (by omega) (by decide)) d_Mod_liesWrongly_49 ?_
              refine lv_topi (fun y_49 e_49 => ?_)
              obtain rfl : y_49 = zm_ones k_4 := e_49.trans (by rw [nI_clamp (by omega)])
              refine lv_aload_n hx hb d_Mod_liesWrongly_50 rfl (lv_at hl 0 rfl) ?_
              refine va_get (D := (dC, dI)) (ci := 5) (v := .ref am_others) (C := R_Mod) (T := F_Mod) (N := 21) hx hb hts (fun w h => List.mem_cons_of_mem _ (in_Mod w h)) hown hK hP 0 rfl rfl 3 (by decide) (hts _ (List.mem_cons_of_mem _ mw_3_159)) (fun _ h9 => h9) rfl d_Mod_liesWrongly_51 ?_
              refine lv_iload_n hx hb d_Mod_liesWrongly_54 rfl (lv_at hl 3 rfl) ?_
              refine va_iald (D := (dC, dI)) hx hb hK hP 3 2 rfl rfl (vp_in_nI (by omega) (by decide)) d_Mod_liesWrongly_55 ?_
              refine lv_topi (fun y_55 e_55 => ?_)
              obtain rfl : y_55 = zm_others k_4 := e_55.trans (by rw [nI_clamp (by omega)])
              refine lv_iload_n hx hb d_Mod_liesWrongly_56 rfl (lv_at hl 1 rfl) ?_
              obtain ⟨p_57, hg_57, hI⟩ := ob_bdC (C := fun y_ => Option.bind y_ K_j68_11) rfl hI
              have hPc := hP.sub (ws' := [(am, .inr (5, [.int zm_thrown, .ref am_there, .ref am_ones, .ref am_others, .ref am_xs, .ref am_ys, .int zm_many, .ref am_a, .ref am_b, .ref am_from, .ref am_to, .ref am_way, .ref am_depth, .ref am_above, .ref am_pile, .ref am_next, .ref am_leader, .ref am_turned, .ref am_piece, .ref am_numbers, .ref am_row])), (am_xs, .inl (km_xs, 10, .inl zm_xs)), (am_ys, .inl (km_ys, 10, .inl zm_ys))]) [0, 4, 5] rfl
              have hDc := hD.sub (ws' := [(am, .inr (5, [.int zm_thrown, .ref am_there, .ref am_ones, .ref am_others, .ref am_xs, .ref am_ys, .int zm_many, .ref am_a, .ref am_b, .ref am_from, .ref am_to, .ref am_way, .ref am_depth, .ref am_above, .ref am_pile, .ref am_next, .ref am_leader, .ref am_turned, .ref am_piece, .ref am_numbers, .ref am_row])), (am_xs, .inl (km_xs, 10, .inl zm_xs)), (am_ys, .inl (km_ys, 10, .inl zm_ys))]) [0, 4, 5] (by decide) rfl
              have hKc := hK.sub (tys' := [(km_xs, .int), (km_ys, .int)]) [3, 4] rfl
              have hFc := va_free (wc := [(am, .inr (5, [.int zm_thrown, .ref am_there, .ref am_ones, .ref am_others, .ref am_xs, .ref am_ys, .int zm_many, .ref am_a, .ref am_b, .ref am_from, .ref am_to, .ref am_way, .ref am_depth, .ref am_above, .ref am_pile, .ref am_next, .ref am_leader, .ref am_turned, .ref am_piece, .ref am_numbers, .ref am_row])), (am_xs, .inl (km_xs, 10, .inl zm_xs)), (am_ys, .inl (km_ys, 10, .inl zm_ys))]) hD hS hA [0, 4, 5] rfl
              refine va_calli (va_runV (As := [.int (zm_ones k_4), .int (zm_others k_4), .int v1]) (rest := []) ⟨hx, hb, hml, hown, hts⟩ (c_isOnM l dC dI H.size am am_there am_ones am_others am_xs am_ys am_a am_b am_from am_to am_way am_depth am_above am_pile am_next am_leader am_turned am_piece am_numbers am_row km_xs km_ys zm_thrown zm_many zm_xs zm_ys (zm_ones k_4) (zm_others k_4) v1 p_57 hg_57) (cwV 3 hts (gi4 mw_4_220 mw_4_222 mw_p_66 mw_1_6 mw_4_223) rfl rfl rfl (by decide +kernel) ⟨Nat.le_of_ble_eq_true rfl, Nat.le_of_ble_eq_true rfl⟩) ⟨fb_, va_recv (q0 := 0) (ci := 5) hK hP rfl rfl, pre_ hPc hKc hDc hN⟩ rfl rfl hl.1 rfl (lv_room (Nat.le_of_ble_eq_true rfl)) d_Mod_liesWrongly_57 ⟨Nat.le_of_ble_eq_true rfl, Nat.le_of_ble_eq_true rfl⟩) hS (fun q _ h => hFc q h) hFc (fun r_57 u t H locs ht hvm hp_57 hB hz1 hk1 hS => ?_)
              obtain ⟨hP1, -, hD1⟩ := hB
              rw [ht] at hP1
              obtain ⟨hP, hD⟩ := va_join (wr := [(am_there, .inl (km_there, 10, .inl zm_there)), (am_ones, .inl (km_ones, 24, .inl zm_ones)), (am_others, .inl (km_others, 24, .inl zm_others))]) (w1 := [(am, .inr (5, [.int zm_thrown, .ref am_there, .ref am_ones, .ref am_others, .ref am_xs, .ref am_ys, .int zm_many, .ref am_a, .ref am_b, .ref am_from, .ref am_to, .ref am_way, .ref am_depth, .ref am_above, .ref am_pile, .ref am_next, .ref am_leader, .ref am_turned, .ref am_piece, .ref am_numbers, .ref am_row])), (am_xs, .inl (km_xs, 10, .inl zm_xs)), (am_ys, .inl (km_ys, 10, .inl zm_ys))]) hP hD [0, 4, 5] [1, 2, 3] rfl rfl (by decide) (by decide) hk1 hFc hP1 hD1
              obtain ⟨hp_57, hz_57⟩ := hp_57
              have hp_57 : (r_57) = p_57 := hp_57
              subst hp_57
              have hP : va_P (dC, dI) classes [(am_there, .inl (km_there, 10, .inl zm_there)), (am_ones, .inl (km_ones, 24, .inl zm_ones)), (am_others, .inl (km_others, 24, .inl zm_others)), (am, .inr (5, [.int zm_thrown, .ref am_there, .ref am_ones, .ref am_others, .ref am_xs, .ref am_ys, .int zm_many, .ref am_a, .ref am_b, .ref am_from, .ref am_to, .ref am_way, .ref am_depth, .ref am_above, .ref am_pile, .ref am_next, .ref am_leader, .ref am_turned, .ref am_piece, .ref am_numbers, .ref am_row])), (am_xs, .inl (km_xs, 10, .inl zm_xs)), (am_ys, .inl (km_ys, 10, .inl zm_ys))] H := hP
              have hD : va_D A [(am_there, .inl (km_there, 10, .inl zm_there)), (am_ones, .inl (km_ones, 24, .inl zm_ones)), (am_others, .inl (km_others, 24, .inl zm_others)), (am, .inr (5, [.int zm_thrown, .ref am_there, .ref am_ones, .ref am_others, .ref am_xs, .ref am_ys, .int zm_many, .ref am_a, .ref am_b, .ref am_from, .ref am_to, .ref am_way, .ref am_depth, .ref am_above, .ref am_pile, .ref am_next, .ref am_leader, .ref am_turned, .ref am_piece, .ref am_numbers, .ref am_row])), (am_xs, .inl (km_xs, 10, .inl zm_xs)), (am_ys, .inl (km_ys, 10, .inl zm_ys))] := hD
              refine lv_if_eq (tgt := 67) hx hb d_Mod_liesWrongly_60 rfl (fun hc_60 => ?_) (fun hc_60 => ?_)
              · skip
                have hI := ob_ifC (C := fun y_ => Option.bind y_ K_j68_11) hc_60 hI
                refine lv_iconst (v := 0) hx hb d_Mod_liesWrongly_67 (by decide) ?_
                have hP := hP.sub (ws' := [(am, .inr (5, [.int zm_thrown, .ref am_there, .ref am_ones, .ref am_others, .ref am_xs, .ref am_ys, .int zm_many, .ref am_a, .ref am_b, .ref am_from, .ref am_to, .ref am_way, .ref am_depth, .ref am_above, .ref am_pile, .ref am_next, .ref am_leader, .ref am_turned, .ref am_piece, .ref am_numbers, .ref am_row])), (am_there, .inl (km_there, 10, .inl zm_there)), (am_ones, .inl (km_ones, 24, .inl zm_ones)), (am_others, .inl (km_others, 24, .inl zm_others)), (am_xs, .inl (km_xs, 10, .inl zm_xs)), (am_ys, .inl (km_ys, 10, .inl zm_ys))]) [3, 0, 1, 2, 4, 5] rfl
                have hD := hD.sub (ws' := [(am, .inr (5, [.int zm_thrown, .ref am_there, .ref am_ones, .ref am_others, .ref am_xs, .ref am_ys, .int zm_many, .ref am_a, .ref am_b, .ref am_from, .ref am_to, .ref am_way, .ref am_depth, .ref am_above, .ref am_pile, .ref am_next, .ref am_leader, .ref am_turned, .ref am_piece, .ref am_numbers, .ref am_row])), (am_there, .inl (km_there, 10, .inl zm_there)), (am_ones, .inl (km_ones, 24, .inl zm_ones)), (am_others, .inl (km_others, 24, .inl zm_others)), (am_xs, .inl (km_xs, 10, .inl zm_xs)), (am_ys, .inl (km_ys, 10, .inl zm_ys))]) [3, 0, 1, 2, 4, 5] (by decide) rfl
                have hl := lv_sub hl [0, 1, 2, 3] rfl
                exact J_68_11 _ _ _ _ hI hP hD hS hl
              · skip
                have hI := ob_elC (C := fun y_ => Option.bind y_ K_j68_11) hc_60 hI
                refine lv_iconst (v := 1) hx hb d_Mod_liesWrongly_63 (by decide) ?_
                refine lv_goto (tgt := 68) hx hb d_Mod_liesWrongly_64 rfl ?_
                have hP := hP.sub (ws' := [(am, .inr (5, [.int zm_thrown, .ref am_there, .ref am_ones, .ref am_others, .ref am_xs, .ref am_ys, .int zm_many, .ref am_a, .ref am_b, .ref am_from, .ref am_to, .ref am_way, .ref am_depth, .ref am_above, .ref am_pile, .ref am_next, .ref am_leader, .ref am_turned, .ref am_piece, .ref am_numbers, .ref am_row])), (am_there, .inl (km_there, 10, .inl zm_there)), (am_ones, .inl (km_ones, 24, .inl zm_ones)), (am_others, .inl (km_others, 24, .inl zm_others)), (am_xs, .inl (km_xs, 10, .inl zm_xs)), (am_ys, .inl (km_ys, 10, .inl zm_ys))]) [3, 0, 1, 2, 4, 5] rfl
                have hD := hD.sub (ws' := [(am, .inr (5, [.int zm_thrown, .ref am_there, .ref am_ones, .ref am_others, .ref am_xs, .ref am_ys, .int zm_many, .ref am_a, .ref am_b, .ref am_from, .ref am_to, .ref am_way, .ref am_depth, .ref am_above, .ref am_pile, .ref am_next, .ref am_leader, .ref am_turned, .ref am_piece, .ref am_numbers, .ref am_row])), (am_there, .inl (km_there, 10, .inl zm_there)), (am_ones, .inl (km_ones, 24, .inl zm_ones)), (am_others, .inl (km_others, 24, .inl zm_others)), (am_xs, .inl (km_xs, 10, .inl zm_xs)), (am_ys, .inl (km_ys, 10, .inl zm_ys))]) [3, 0, 1, 2, 4, 5] (by decide) rfl
                have hl := lv_sub hl [0, 1, 2, 3] rfl
                exact J_68_11 _ _ _ _ hI hP hD hS hl
  have hl : lv_has ls 4 [(0, .ref am), (1, .int v1), (2, .int 0), (3, .int (nI 0))] := by first | exact lv_sub hl [2, 3, 1, 0] rfl | (rw [nI_succ]; exact lv_sub hl [2, 3, 1, 0] rfl)
  exact L_4 24 0 _ _ _ _ (by omega) (by rw [hK_4]; exact hI) hP hD hS hl
set_option maxHeartbeats 4000000 in
set_option maxRecDepth 100000 in
theorem c_wrongNodesM (l : Launch) (dC : Nat → ClassId) (dI : Nat → Nat → Nat) (sz : Nat) (am am_there am_ones am_others am_xs am_ys am_a am_b am_from am_to am_way am_depth am_above am_pile am_next am_leader am_turned am_piece am_numbers am_row : Nat) (km_there km_ones km_others km_xs km_ys : ClassId) (zm_thrown : Int32) (zm_many : Int32) (zm_there : Nat → Int32) (zm_ones : Nat → Int32) (zm_others : Nat → Int32) (zm_xs : Nat → Int32) (zm_ys : Nat → Int32) (R : Int32) (hR : F_wrongNodesM zm_there zm_ones zm_others zm_xs zm_ys = some R) : Met l y_Mod_wrongNodes w_Mod_wrongNodes ({ frames := 3, cells := 0, slots := 0, locals := 72 }) (Pre_ dC dI sz [.ref am] [(am, .inr (5, [.int zm_thrown, .ref am_there, .ref am_ones, .ref am_others, .ref am_xs, .ref am_ys, .int zm_many, .ref am_a, .ref am_b, .ref am_from, .ref am_to, .ref am_way, .ref am_depth, .ref am_above, .ref am_pile, .ref am_next, .ref am_leader, .ref am_turned, .ref am_piece, .ref am_numbers, .ref am_row])), (am_there, .inl (km_there, 10, .inl zm_there)), (am_ones, .inl (km_ones, 24, .inl zm_ones)), (am_others, .inl (km_others, 24, .inl zm_others)), (am_xs, .inl (km_xs, 10, .inl zm_xs)), (am_ys, .inl (km_ys, 10, .inl zm_ys))] [(km_there, .boolean), (km_ones, .int), (km_others, .int), (km_xs, .int), (km_ys, .int)]) (va_Qi (fun (r : Int32) (u : Unit) => r = R) (fun u t => End_ dC dI (va_A [(am, .inr (5, [.int zm_thrown, .ref am_there, .ref am_ones, .ref am_others, .ref am_xs, .ref am_ys, .int zm_many, .ref am_a, .ref am_b, .ref am_from, .ref am_to, .ref am_way, .ref am_depth, .ref am_above, .ref am_pile, .ref am_next, .ref am_leader, .ref am_turned, .ref am_piece, .ref am_numbers, .ref am_row])), (am_there, .inl (km_there, 10, .inl zm_there)), (am_ones, .inl (km_ones, 24, .inl zm_ones)), (am_others, .inl (km_others, 24, .inl zm_others)), (am_xs, .inl (km_xs, 10, .inl zm_xs)), (am_ys, .inl (km_ys, 10, .inl zm_ys))] sz) [(km_there, .boolean), (km_ones, .int), (km_others, .int), (km_xs, .int), (km_ys, .int)] [(am, .inr (5, [.int zm_thrown, .ref am_there, .ref am_ones, .ref am_others, .ref am_xs, .ref am_ys, .int zm_many, .ref am_a, .ref am_b, .ref am_from, .ref am_to, .ref am_way, .ref am_depth, .ref am_above, .ref am_pile, .ref am_next, .ref am_leader, .ref am_turned, .ref am_piece, .ref am_numbers, .ref am_row])), (am_there, .inl (km_there, 10, .inl zm_there)), (am_ones, .inl (km_ones, 24, .inl zm_ones)), (am_others, .inl (km_others, 24, .inl zm_others)), (am_xs, .inl (km_xs, 10, .inl zm_xs)), (am_ys, .inl (km_ys, 10, .inl zm_ys))] t) (va_A [(am, .inr (5, [.int zm_thrown, .ref am_there, .ref am_ones, .ref am_others, .ref am_xs, .ref am_ys, .int zm_many, .ref am_a, .ref am_b, .ref am_from, .ref am_to, .ref am_way, .ref am_depth, .ref am_above, .ref am_pile, .ref am_next, .ref am_leader, .ref am_turned, .ref am_piece, .ref am_numbers, .ref am_row])), (am_there, .inl (km_there, 10, .inl zm_there)), (am_ones, .inl (km_ones, 24, .inl zm_ones)), (am_others, .inl (km_others, 24, .inl zm_others)), (am_xs, .inl (km_xs, 10, .inl zm_xs)), (am_ys, .inl (km_ys, 10, .inl zm_ys))] sz)) 0 0 (va_A [(am, .inr (5, [.int zm_thrown, .ref am_there, .ref am_ones, .ref am_others, .ref am_xs, .ref am_ys, .int zm_many, .ref am_a, .ref am_b, .ref am_from, .ref am_to, .ref am_way, .ref am_depth, .ref am_above, .ref am_pile, .ref am_next, .ref am_leader, .ref am_turned, .ref am_piece, .ref am_numbers, .ref am_row])), (am_there, .inl (km_there, 10, .inl zm_there)), (am_ones, .inl (km_ones, 24, .inl zm_ones)), (am_others, .inl (km_others, 24, .inl zm_others)), (am_xs, .inl (km_xs, 10, .inl zm_xs)), (am_ys, .inl (km_ys, 10, .inl zm_ys))] sz) := by
  refine Met.ofW (cc := b_Mod_wrongNodes) (maxL := 3) (ret := (some .int)) (by decide) rfl ?_
  intro p e s m args below meth c s₁ B hml hv
  obtain ⟨hargs, hsz, hP, hK, hD0, hN⟩ := hv
  have hx := B.exec
  have hb := B.bytes
  have hr := B.returns
  have hts := atoms_spec (ws := w_Mod_wrongNodes) B.pre
  have hown : s.vm.findClass R_Mod = some m.cls := findClass_of_methodNamed B.named
  have hlocks := B.notSynchronized
  subst hsz
  have hD := hD0.self (sz := s.heap.size)
  generalize hAe : va_A [(am, .inr (5, [.int zm_thrown, .ref am_there, .ref am_ones, .ref am_others, .ref am_xs, .ref am_ys, .int zm_many, .ref am_a, .ref am_b, .ref am_from, .ref am_to, .ref am_way, .ref am_depth, .ref am_above, .ref am_pile, .ref am_next, .ref am_leader, .ref am_turned, .ref am_piece, .ref am_numbers, .ref am_row])), (am_there, .inl (km_there, 10, .inl zm_there)), (am_ones, .inl (km_ones, 24, .inl zm_ones)), (am_others, .inl (km_others, 24, .inl zm_others)), (am_xs, .inl (km_xs, 10, .inl zm_xs)), (am_ys, .inl (km_ys, 10, .inl zm_ys))] s.heap.size = A at hD ⊢
  have hA : ∀ q : Nat, s.heap.size ≤ q → A q := fun q h => by rw [← hAe]; exact Or.inr h
  have hS : va_S A s.heap s.heap [] := va_S.rf
  have hl := lv_entry ([.ref am]) (n := 3) (Nat.le_of_ble_eq_true rfl)
  refine W.eq (congrArg (fun a => entryFrame m a 3) hargs) ?_
  rw [lg_entry_eq]
  generalize (lg_sl ([.ref am]) ++ List.replicate (3 - (lg_sl ([.ref am])).length) Slot.unset).toArray = ls at hl ⊢
  have hl : lv_has ls 3 [(0, .ref am)] := hl
  generalize hH0 : ([] : List Loc) = locs at hS ⊢
  have hI := hR.symm
  rw [F_wrongNodesM] at hI
  refine lv_iconst (v := 0) hx hb d_Mod_wrongNodes_0 (by decide) ?_
  refine lv_istore_n (lv' := [(1, .int 0), (0, .ref am)]) hx hb d_Mod_wrongNodes_1 rfl hl (by decide) rfl (fun ls hl => ?_)
  refine lv_iconst (v := 0) hx hb d_Mod_wrongNodes_2 (by decide) ?_
  refine lv_istore_n (lv' := [(2, .int 0), (1, .int 0), (0, .ref am)]) hx hb d_Mod_wrongNodes_3 rfl hl (by decide) rfl (fun ls hl => ?_)
  obtain ⟨K_4, hK_4⟩ : ∃ K : Int32 → Option (Int32), K = (fun v1_4 => some (v1_4)) := ⟨_, rfl⟩
  have X_4 : ∀ (k_4 : Nat) (v1_4 : Int32) (H : Heap) (locs : List Loc) (ls : Array Slot), some R = K_4 v1_4 → va_P (dC, dI) classes [(am, .inr (5, [.int zm_thrown, .ref am_there, .ref am_ones, .ref am_others, .ref am_xs, .ref am_ys, .int zm_many, .ref am_a, .ref am_b, .ref am_from, .ref am_to, .ref am_way, .ref am_depth, .ref am_above, .ref am_pile, .ref am_next, .ref am_leader, .ref am_turned, .ref am_piece, .ref am_numbers, .ref am_row])), (am_there, .inl (km_there, 10, .inl zm_there)), (am_ones, .inl (km_ones, 24, .inl zm_ones)), (am_others, .inl (km_others, 24, .inl zm_others)), (am_xs, .inl (km_xs, 10, .inl zm_xs)), (am_ys, .inl (km_ys, 10, .inl zm_ys))] H → va_D A [(am, .inr (5, [.int zm_thrown, .ref am_there, .ref am_ones, .ref am_others, .ref am_xs, .ref am_ys, .int zm_many, .ref am_a, .ref am_b, .ref am_from, .ref am_to, .ref am_way, .ref am_depth, .ref am_above, .ref am_pile, .ref am_next, .ref am_leader, .ref am_turned, .ref am_piece, .ref am_numbers, .ref am_row])), (am_there, .inl (km_there, 10, .inl zm_there)), (am_ones, .inl (km_ones, 24, .inl zm_ones)), (am_others, .inl (km_others, 24, .inl zm_others)), (am_xs, .inl (km_xs, 10, .inl zm_xs)), (am_ys, .inl (km_ys, 10, .inl zm_ys))] → va_S A s.heap H locs → lv_has ls 3 [(0, .ref am), (1, .int v1_4), (2, .int (nI k_4))] → W p l e (headSpec w_Mod_wrongNodes ({ frames := 3, cells := 0, slots := 0, locals := 72 })).room s m args below meth c H locs 0 0 (MQ below (va_Qi (fun (r : Int32) (u : Unit) => r = R) (fun u t => End_ dC dI A [(km_there, .boolean), (km_ones, .int), (km_others, .int), (km_xs, .int), (km_ys, .int)] [(am, .inr (5, [.int zm_thrown, .ref am_there, .ref am_ones, .ref am_others, .ref am_xs, .ref am_ys, .int zm_many, .ref am_a, .ref am_b, .ref am_from, .ref am_to, .ref am_way, .ref am_depth, .ref am_above, .ref am_pile, .ref am_next, .ref am_leader, .ref am_turned, .ref am_piece, .ref am_numbers, .ref am_row])), (am_there, .inl (km_there, 10, .inl zm_there)), (am_ones, .inl (km_ones, 24, .inl zm_ones)), (am_others, .inl (km_others, 24, .inl zm_others)), (am_xs, .inl (km_xs, 10, .inl zm_xs)), (am_ys, .inl (km_ys, 10, .inl zm_ys))] t) A) args s 0 0 A) (F0 m 41 ls []) := by
    intro k_4 v1_4 H locs ls hI hP hD hS hl
    rw [hK_4] at hI
    refine lv_iload_n hx hb d_Mod_wrongNodes_41 rfl (lv_at hl 1 rfl) ?_
    exact W.iret (v := v1_4) hx hb hr (fun t ht hW => ⟨⟨v1_4, (), rfl, (Option.some.inj hI).symm, by rw [ht]; exact hP, va_K.moved hW.alike hK, hD⟩, hS.F ht⟩) hS.2.2 d_Mod_wrongNodes_42
  have L_4 : ∀ (n_4 k_4 : Nat) (v1_4 : Int32) (H : Heap) (locs : List Loc) (ls : Array Slot), k_4 + n_4 = 10 → some R = F_wrongNodesM_L4 K_4 zm_there zm_ones zm_others zm_xs zm_ys n_4 k_4 v1_4 → va_P (dC, dI) classes [(am, .inr (5, [.int zm_thrown, .ref am_there, .ref am_ones, .ref am_others, .ref am_xs, .ref am_ys, .int zm_many, .ref am_a, .ref am_b, .ref am_from, .ref am_to, .ref am_way, .ref am_depth, .ref am_above, .ref am_pile, .ref am_next, .ref am_leader, .ref am_turned, .ref am_piece, .ref am_numbers, .ref am_row])), (am_there, .inl (km_there, 10, .inl zm_there)), (am_ones, .inl (km_ones, 24, .inl zm_ones)), (am_others, .inl (km_others, 24, .inl zm_others)), (am_xs, .inl (km_xs, 10, .inl zm_xs)), (am_ys, .inl (km_ys, 10, .inl zm_ys))] H → va_D A [(am, .inr (5, [.int zm_thrown, .ref am_there, .ref am_ones, .ref am_others, .ref am_xs, .ref am_ys, .int zm_many, .ref am_a, .ref am_b, .ref am_from, .ref am_to, .ref am_way, .ref am_depth, .ref am_above, .ref am_pile, .ref am_next, .ref am_leader, .ref am_turned, .ref am_piece, .ref am_numbers, .ref am_row])), (am_there, .inl (km_there, 10, .inl zm_there)), (am_ones, .inl (km_ones, 24, .inl zm_ones)), (am_others, .inl (km_others, 24, .inl zm_others)), (am_xs, .inl (km_xs, 10, .inl zm_xs)), (am_ys, .inl (km_ys, 10, .inl zm_ys))] → va_S A s.heap H locs → lv_has ls 3 [(0, .ref am), (1, .int v1_4), (2, .int (nI k_4))] → W p l e (headSpec w_Mod_wrongNodes ({ frames := 3, cells := 0, slots := 0, locals := 72 })).room s m args below meth c H locs 0 0 (MQ below (va_Qi (fun (r : Int32) (u : Unit) => r = R) (fun u t => End_ dC dI A [(km_there, .boolean), (km_ones, .int), (km_others, .int), (km_xs, .int), (km_ys, .int)] [(am, .inr (5, [.int zm_thrown, .ref am_there, .ref am_ones, .ref am_others, .ref am_xs, .ref am_ys, .int zm_many, .ref am_a, .ref am_b, .ref am_from, .ref am_to, .ref am_way, .ref am_depth, .ref am_above, .ref am_pile, .ref am_next, .ref am_leader, .ref am_turned, .ref am_piece, .ref am_numbers, .ref am_row])), (am_there, .inl (km_there, 10, .inl zm_there)), (am_ones, .inl (km_ones, 24, .inl zm_ones)), (am_others, .inl (km_others, 24, .inl zm_others)), (am_xs, .inl (km_xs, 10, .inl zm_xs)), (am_ys, .inl (km_ys, 10, .inl zm_ys))] t) A) args s 0 0 A) (F0 m 4 ls []) := by
    intro n_4
    induction n_4 with
    | zero =>
      intro k_4 v1_4 H locs ls hkn_4 hI hP hD hS hl
      rw [F_wrongNodesM_L4] at hI
      refine lv_iload_n hx hb d_Mod_wrongNodes_4 rfl (lv_at hl 2 rfl) ?_
      refine lv_bipush (v := 10) hx hb d_Mod_wrongNodes_5 (by decide) ?_
      refine lv_icmp_ge (tgt := 41) hx hb d_Mod_wrongNodes_7 rfl (fun hc_7 => ?_) (fun hc_7 => absurd (z_exit rfl hkn_4) hc_7)
      have hl := lv_sub hl [0, 1, 2] rfl
      exact X_4 _ _ _ _ _ hI hP hD hS hl
    | succ n_4 ih_4 =>
      intro k_4 v1_4 H locs ls hkn_4 hI hP hD hS hl
      rw [F_wrongNodesM_L4] at hI
      refine lv_iload_n hx hb d_Mod_wrongNodes_4 rfl (lv_at hl 2 rfl) ?_
      refine lv_bipush (v := 10) hx hb d_Mod_wrongNodes_5 (by decide) ?_
      refine lv_icmp_ge (tgt := 41) hx hb d_Mod_wrongNodes_7 rfl (fun hc_7 => absurd hc_7 (z_stay rfl hkn_4 (by decide))) (fun hc_7 => ?_)
      refine lv_aload_n hx hb d_Mod_wrongNodes_10 rfl (lv_at hl 0 rfl) ?_
      refine va_get (D := (dC, dI)) (ci := 5) (v := .ref am_there) (C := R_Mod) (T := F_Mod) (N := 21) hx hb hts (fun w h => List.mem_cons_of_mem _ (in_Mod w h)) hown hK hP 0 rfl rfl 1 (by decide) (hts _ (List.mem_cons_of_mem _ mw_3_157)) (fun _ h9 => h9) rfl d_Mod_wrongNodes_11 ?_
      refine lv_iload_n hx hb d_Mod_wrongNodes_14 rfl (lv_at hl 2 rfl) ?_
      refine va_zald (D := (dC, dI)) hx hb hK hP 1 0 rfl rfl (vp_in_nI (by omega) (by decide)) d_Mod_wrongNodes_15 ?_
      refine lv_topi (fun y_15 e_15 => ?_)
      obtain rfl : y_15 = zm_there k_4 := e_15.trans (by rw [nI_clamp (by omega)])
      obtain ⟨K_j34_16, hK_j34_16⟩ : ∃ K : Int32 → Option (Int32), K = (fun (j_34_16 : Int32) => (F_wrongNodesM_L4 K_4 zm_there zm_ones zm_others zm_xs zm_ys n_4 (k_4 + 1) j_34_16)) := ⟨_, rfl⟩
      have J_34_16 : ∀ (s0_34_16 : Int32) (H : Heap) (locs : List Loc) (ls : Array Slot), some R = (K_j34_16 s0_34_16) → va_P (dC, dI) classes [(am, .inr (5, [.int zm_thrown, .ref am_there, .ref am_ones, .ref am_others, .ref am_xs, .ref am_ys, .int zm_many, .ref am_a, .ref am_b, .ref am_from, .ref am_to, .ref am_way, .ref am_depth, .ref am_above, .ref am_pile, .ref am_next, .ref am_leader, .ref am_turned, .ref am_piece, .ref am_numbers, .ref am_row])), (am_there, .inl (km_there, 10, .inl zm_there)), (am_ones, .inl (km_ones, 24, .inl zm_ones)), (am_others, .inl (km_others, 24, .inl zm_others)), (am_xs, .inl (km_xs, 10, .inl zm_xs)), (am_ys, .inl (km_ys, 10, .inl zm_ys))] H → va_D A [(am, .inr (5, [.int zm_thrown, .ref am_there, .ref am_ones, .ref am_others, .ref am_xs, .ref am_ys, .int zm_many, .ref am_a, .ref am_b, .ref am_from, .ref am_to, .ref am_way, .ref am_depth, .ref am_above, .ref am_pile, .ref am_next, .ref am_leader, .ref am_turned, .ref am_piece, .ref am_numbers, .ref am_row])), (am_there, .inl (km_there, 10, .inl zm_there)), (am_ones, .inl (km_ones, 24, .inl zm_ones)), (am_others, .inl (km_others, 24, .inl zm_others)), (am_xs, .inl (km_xs, 10, .inl zm_xs)), (am_ys, .inl (km_ys, 10, .inl zm_ys))] → va_S A s.heap H locs → lv_has ls 3 [(0, .ref am), (1, .int v1_4), (2, .int (nI k_4))] → W p l e (headSpec w_Mod_wrongNodes ({ frames := 3, cells := 0, slots := 0, locals := 72 })).room s m args below meth c H locs 0 0 (MQ below (va_Qi (fun (r : Int32) (u : Unit) => r = R) (fun u t => End_ dC dI A [(km_there, .boolean), (km_ones, .int), (km_others, .int), (km_xs, .int), (km_ys, .int)] [(am, .inr (5, [.int zm_thrown, .ref am_there, .ref am_ones, .ref am_others, .ref am_xs, .ref am_ys, .int zm_many, .ref am_a, .ref am_b, .ref am_from, .ref am_to, .ref am_way, .ref am_depth, .ref am_above, .ref am_pile, .ref am_next, .ref am_leader, .ref am_turned, .ref am_piece, .ref am_numbers, .ref am_row])), (am_there, .inl (km_there, 10, .inl zm_there)), (am_ones, .inl (km_ones, 24, .inl zm_ones)), (am_others, .inl (km_others, 24, .inl zm_others)), (am_xs, .inl (km_xs, 10, .inl zm_xs)), (am_ys, .inl (km_ys, 10, .inl zm_ys))] t) A) args s 0 0 A) (F0 m 34 ls [.int s0_34_16]) := by
        intro s0_34_16 H locs ls hI hP hD hS hl
        rw [hK_j34_16] at hI
        refine lv_istore_n (lv' := [(1, .int s0_34_16), (0, .ref am), (2, .int (nI k_4))]) hx hb d_Mod_wrongNodes_34 rfl hl (by decide) rfl (fun ls hl => ?_)
        refine lv_iinc (lv' := [(2, .int (nI (k_4 + 1))), (1, .int s0_34_16), (0, .ref am)]) (k := 2) hx hb d_Mod_wrongNodes_35 hl rfl (z_inc _) (by decide) rfl (fun ls hl => ?_)
        refine lv_goto (tgt := 4) hx hb d_Mod_wrongNodes_38 rfl ?_
        have hl := lv_sub hl [2, 1, 0] rfl
        exact ih_4 _ _ _ _ _ (by omega) hI hP hD hS hl
      have hI : some R = (Option.bind (if (zm_there k_4) = 0 then (some (v1_4)) else ((F_liesWronglyM zm_there zm_ones zm_others zm_xs zm_ys (nI k_4)).bind (fun p_21 => (if p_21 = 0 then (some (v1_4)) else (some (v1_4 + 1)))))) K_j34_16) := by rw [hK_j34_16]; exact hI
      refine lv_if_eq (tgt := 33) hx hb d_Mod_wrongNodes_16 rfl (fun hc_16 => ?_) (fun hc_16 => ?_)
      · skip
        have hI := ob_ifC (C := fun y_ => Option.bind y_ K_j34_16) hc_16 hI
        refine lv_iload_n hx hb d_Mod_wrongNodes_33 rfl (lv_at hl 1 rfl) ?_
        have hl := lv_sub hl [0, 1, 2] rfl
        exact J_34_16 _ _ _ _ hI hP hD hS hl
      · skip
        have hI := ob_elC (C := fun y_ => Option.bind y_ K_j34_16) hc_16 hI
        refine lv_aload_n hx hb d_Mod_wrongNodes_19 rfl (lv_at hl 0 rfl) ?_
        refine lv_iload_n hx hb d_Mod_wrongNodes_20 rfl (lv_at hl 2 rfl) ?_
        obtain ⟨p_21, hg_21, hI⟩ := ob_bdC (C := fun y_ => Option.bind y_ K_j34_16) rfl hI
        have hPc := hP.sub (ws' := [(am, .inr (5, [.int zm_thrown, .ref am_there, .ref am_ones, .ref am_others, .ref am_xs, .ref am_ys, .int zm_many, .ref am_a, .ref am_b, .ref am_from, .ref am_to, .ref am_way, .ref am_depth, .ref am_above, .ref am_pile, .ref am_next, .ref am_leader, .ref am_turned, .ref am_piece, .ref am_numbers, .ref am_row])), (am_there, .inl (km_there, 10, .inl zm_there)), (am_ones, .inl (km_ones, 24, .inl zm_ones)), (am_others, .inl (km_others, 24, .inl zm_others)), (am_xs, .inl (km_xs, 10, .inl zm_xs)), (am_ys, .inl (km_ys, 10, .inl zm_ys))]) [0, 1, 2, 3, 4, 5] rfl
        have hDc := hD.sub (ws' := [(am, .inr (5, [.int zm_thrown, .ref am_there, .ref am_ones, .ref am_others, .ref am_xs, .ref am_ys, .int zm_many, .ref am_a, .ref am_b, .ref am_from, .ref am_to, .ref am_way, .ref am_depth, .ref am_above, .ref am_pile, .ref am_next, .ref am_leader, .ref am_turned, .ref am_piece, .ref am_numbers, .ref am_row])), (am_there, .inl (km_there, 10, .inl zm_there)), (am_ones, .inl (km_ones, 24, .inl zm_ones)), (am_others, .inl (km_others, 24, .inl zm_others)), (am_xs, .inl (km_xs, 10, .inl zm_xs)), (am_ys, .inl (km_ys, 10, .inl zm_ys))]) [0, 1, 2, 3, 4, 5] (by decide) rfl
        have hKc := hK.sub (tys' := [(km_there, .boolean), (km_ones, .int), (km_others, .int), (km_xs, .int), (km_ys, .int)]) [0, 1, 2, 3, 4] rfl
        have hFc := va_free (wc := [(am, .inr (5, [.int zm_thrown, .ref am_there, .ref am_ones, .ref am_others, .ref am_xs, .ref am_ys, .int zm_many, .ref am_a, .ref am_b, .ref am_from, .ref am_to, .ref am_way, .ref am_depth, .ref am_above, .ref am_pile, .ref am_next, .ref am_leader, .ref am_turned, .ref am_piece, .ref am_numbers, .ref am_row])), (am_there, .inl (km_there, 10, .inl zm_there)), (am_ones, .inl (km_ones, 24, .inl zm_ones)), (am_others, .inl (km_others, 24, .inl zm_others)), (am_xs, .inl (km_xs, 10, .inl zm_xs)), (am_ys, .inl (km_ys, 10, .inl zm_ys))]) hD hS hA [0, 1, 2, 3, 4, 5] rfl
        refine va_calli (va_runV (As := [.int (nI k_4)]) (rest := []) ⟨hx, hb, hml, hown, hts⟩ (c_liesWronglyM l dC dI H.size am am_there am_ones am_others am_xs am_ys am_a am_b am_from am_to am_way am_depth am_above am_pile am_next am_leader am_turned am_piece am_numbers am_row km_there km_ones km_others km_xs km_ys zm_thrown zm_many zm_there zm_ones zm_others zm_xs zm_ys (nI k_4) p_21 hg_21) (cwV 1 hts (gi4 mw_5_0 mw_5_2 mw_p_68 mw_1_6 mw_5_3) rfl rfl rfl (by decide +kernel) ⟨Nat.le_of_ble_eq_true rfl, Nat.le_of_ble_eq_true rfl⟩) ⟨fb_, va_recv (q0 := 0) (ci := 5) hK hP rfl rfl, pre_ hPc hKc hDc hN⟩ rfl rfl hl.1 rfl (lv_room (Nat.le_of_ble_eq_true rfl)) d_Mod_wrongNodes_21 ⟨Nat.le_of_ble_eq_true rfl, Nat.le_of_ble_eq_true rfl⟩) hS (fun q _ h => hFc q h) hFc (fun r_21 u t H locs ht hvm hp_21 hB hz1 hk1 hS => ?_)
        obtain ⟨hP1, -, hD1⟩ := hB
        rw [ht] at hP1
        obtain ⟨hP, hD⟩ := va_join (wr := []) (w1 := [(am, .inr (5, [.int zm_thrown, .ref am_there, .ref am_ones, .ref am_others, .ref am_xs, .ref am_ys, .int zm_many, .ref am_a, .ref am_b, .ref am_from, .ref am_to, .ref am_way, .ref am_depth, .ref am_above, .ref am_pile, .ref am_next, .ref am_leader, .ref am_turned, .ref am_piece, .ref am_numbers, .ref am_row])), (am_there, .inl (km_there, 10, .inl zm_there)), (am_ones, .inl (km_ones, 24, .inl zm_ones)), (am_others, .inl (km_others, 24, .inl zm_others)), (am_xs, .inl (km_xs, 10, .inl zm_xs)), (am_ys, .inl (km_ys, 10, .inl zm_ys))]) hP hD [0, 1, 2, 3, 4, 5] [] rfl rfl (by decide) (by decide) hk1 hFc hP1 hD1
        obtain ⟨hp_21, hz_21⟩ := hp_21
        have hp_21 : (r_21) = p_21 := hp_21
        subst hp_21
        have hP : va_P (dC, dI) classes [(am, .inr (5, [.int zm_thrown, .ref am_there, .ref am_ones, .ref am_others, .ref am_xs, .ref am_ys, .int zm_many, .ref am_a, .ref am_b, .ref am_from, .ref am_to, .ref am_way, .ref am_depth, .ref am_above, .ref am_pile, .ref am_next, .ref am_leader, .ref am_turned, .ref am_piece, .ref am_numbers, .ref am_row])), (am_there, .inl (km_there, 10, .inl zm_there)), (am_ones, .inl (km_ones, 24, .inl zm_ones)), (am_others, .inl (km_others, 24, .inl zm_others)), (am_xs, .inl (km_xs, 10, .inl zm_xs)), (am_ys, .inl (km_ys, 10, .inl zm_ys))] H := hP
        have hD : va_D A [(am, .inr (5, [.int zm_thrown, .ref am_there, .ref am_ones, .ref am_others, .ref am_xs, .ref am_ys, .int zm_many, .ref am_a, .ref am_b, .ref am_from, .ref am_to, .ref am_way, .ref am_depth, .ref am_above, .ref am_pile, .ref am_next, .ref am_leader, .ref am_turned, .ref am_piece, .ref am_numbers, .ref am_row])), (am_there, .inl (km_there, 10, .inl zm_there)), (am_ones, .inl (km_ones, 24, .inl zm_ones)), (am_others, .inl (km_others, 24, .inl zm_others)), (am_xs, .inl (km_xs, 10, .inl zm_xs)), (am_ys, .inl (km_ys, 10, .inl zm_ys))] := hD
        refine lv_if_eq (tgt := 33) hx hb d_Mod_wrongNodes_24 rfl (fun hc_24 => ?_) (fun hc_24 => ?_)
        · skip
          have hI := ob_ifC (C := fun y_ => Option.bind y_ K_j34_16) hc_24 hI
          refine lv_iload_n hx hb d_Mod_wrongNodes_33 rfl (lv_at hl 1 rfl) ?_
          have hl := lv_sub hl [0, 1, 2] rfl
          exact J_34_16 _ _ _ _ hI hP hD hS hl
        · skip
          have hI := ob_elC (C := fun y_ => Option.bind y_ K_j34_16) hc_24 hI
          refine lv_iload_n hx hb d_Mod_wrongNodes_27 rfl (lv_at hl 1 rfl) ?_
          refine lv_iconst (v := 1) hx hb d_Mod_wrongNodes_28 (by decide) ?_
          refine lv_iadd hx hb d_Mod_wrongNodes_29 ?_
          refine lv_goto (tgt := 34) hx hb d_Mod_wrongNodes_30 rfl ?_
          have hl := lv_sub hl [0, 1, 2] rfl
          exact J_34_16 _ _ _ _ hI hP hD hS hl
  have hl : lv_has ls 3 [(0, .ref am), (1, .int 0), (2, .int (nI 0))] := by first | exact lv_sub hl [2, 1, 0] rfl | (rw [nI_succ]; exact lv_sub hl [2, 1, 0] rfl)
  exact L_4 10 0 _ _ _ _ (by omega) (by rw [hK_4]; exact hI) hP hD hS hl
set_option maxHeartbeats 4000000 in
set_option maxRecDepth 100000 in
theorem c_wrongM (l : Launch) (dC : Nat → ClassId) (dI : Nat → Nat → Nat) (sz : Nat) (am am_there am_ones am_others am_xs am_ys am_a am_b am_from am_to am_way am_depth am_above am_pile am_next am_leader am_turned am_piece am_numbers am_row : Nat) (km_there km_ones km_others km_xs km_ys : ClassId) (zm_thrown : Int32) (zm_many : Int32) (zm_there : Nat → Int32) (zm_ones : Nat → Int32) (zm_others : Nat → Int32) (zm_xs : Nat → Int32) (zm_ys : Nat → Int32) (R : Int32 × Int32) (hR : F_wrongM zm_there zm_ones zm_others zm_xs zm_ys = some R) : Met l y_Mod_wrong w_Mod_wrong ({ frames := 4, cells := 0, slots := 0, locals := 94 }) (Pre_ dC dI sz [.ref am] [(am, .inr (5, [.int zm_thrown, .ref am_there, .ref am_ones, .ref am_others, .ref am_xs, .ref am_ys, .int zm_many, .ref am_a, .ref am_b, .ref am_from, .ref am_to, .ref am_way, .ref am_depth, .ref am_above, .ref am_pile, .ref am_next, .ref am_leader, .ref am_turned, .ref am_piece, .ref am_numbers, .ref am_row])), (am_there, .inl (km_there, 10, .inl zm_there)), (am_ones, .inl (km_ones, 24, .inl zm_ones)), (am_others, .inl (km_others, 24, .inl zm_others)), (am_xs, .inl (km_xs, 10, .inl zm_xs)), (am_ys, .inl (km_ys, 10, .inl zm_ys))] [(km_there, .boolean), (km_ones, .int), (km_others, .int), (km_xs, .int), (km_ys, .int)]) (va_Qi (fun (r : Int32) (u : Int32) => (r, u) = R) (fun u t => End_ dC dI (va_A [(am, .inr (5, [.int zm_thrown, .ref am_there, .ref am_ones, .ref am_others, .ref am_xs, .ref am_ys, .int zm_many, .ref am_a, .ref am_b, .ref am_from, .ref am_to, .ref am_way, .ref am_depth, .ref am_above, .ref am_pile, .ref am_next, .ref am_leader, .ref am_turned, .ref am_piece, .ref am_numbers, .ref am_row])), (am_there, .inl (km_there, 10, .inl zm_there)), (am_ones, .inl (km_ones, 24, .inl zm_ones)), (am_others, .inl (km_others, 24, .inl zm_others)), (am_xs, .inl (km_xs, 10, .inl zm_xs)), (am_ys, .inl (km_ys, 10, .inl zm_ys))] sz) [(km_there, .boolean), (km_ones, .int), (km_others, .int), (km_xs, .int), (km_ys, .int)] [(am, .inr (5, [.int u, .ref am_there, .ref am_ones, .ref am_others, .ref am_xs, .ref am_ys, .int zm_many, .ref am_a, .ref am_b, .ref am_from, .ref am_to, .ref am_way, .ref am_depth, .ref am_above, .ref am_pile, .ref am_next, .ref am_leader, .ref am_turned, .ref am_piece, .ref am_numbers, .ref am_row])), (am_there, .inl (km_there, 10, .inl zm_there)), (am_ones, .inl (km_ones, 24, .inl zm_ones)), (am_others, .inl (km_others, 24, .inl zm_others)), (am_xs, .inl (km_xs, 10, .inl zm_xs)), (am_ys, .inl (km_ys, 10, .inl zm_ys))] t) (va_A [(am, .inr (5, [.int zm_thrown, .ref am_there, .ref am_ones, .ref am_others, .ref am_xs, .ref am_ys, .int zm_many, .ref am_a, .ref am_b, .ref am_from, .ref am_to, .ref am_way, .ref am_depth, .ref am_above, .ref am_pile, .ref am_next, .ref am_leader, .ref am_turned, .ref am_piece, .ref am_numbers, .ref am_row])), (am_there, .inl (km_there, 10, .inl zm_there)), (am_ones, .inl (km_ones, 24, .inl zm_ones)), (am_others, .inl (km_others, 24, .inl zm_others)), (am_xs, .inl (km_xs, 10, .inl zm_xs)), (am_ys, .inl (km_ys, 10, .inl zm_ys))] sz)) 0 0 (va_A [(am, .inr (5, [.int zm_thrown, .ref am_there, .ref am_ones, .ref am_others, .ref am_xs, .ref am_ys, .int zm_many, .ref am_a, .ref am_b, .ref am_from, .ref am_to, .ref am_way, .ref am_depth, .ref am_above, .ref am_pile, .ref am_next, .ref am_leader, .ref am_turned, .ref am_piece, .ref am_numbers, .ref am_row])), (am_there, .inl (km_there, 10, .inl zm_there)), (am_ones, .inl (km_ones, 24, .inl zm_ones)), (am_others, .inl (km_others, 24, .inl zm_others)), (am_xs, .inl (km_xs, 10, .inl zm_xs)), (am_ys, .inl (km_ys, 10, .inl zm_ys))] sz) := by
  refine Met.ofW (cc := b_Mod_wrong) (maxL := 1) (ret := (some .int)) (by decide) rfl ?_
  intro p e s m args below meth c s₁ B hml hv
  obtain ⟨hargs, hsz, hP, hK, hD0, hN⟩ := hv
  have hx := B.exec
  have hb := B.bytes
  have hr := B.returns
  have hts := atoms_spec (ws := w_Mod_wrong) B.pre
  have hown : s.vm.findClass R_Mod = some m.cls := findClass_of_methodNamed B.named
  have hlocks := B.notSynchronized
  subst hsz
  have hD := hD0.self (sz := s.heap.size)
  generalize hAe : va_A [(am, .inr (5, [.int zm_thrown, .ref am_there, .ref am_ones, .ref am_others, .ref am_xs, .ref am_ys, .int zm_many, .ref am_a, .ref am_b, .ref am_from, .ref am_to, .ref am_way, .ref am_depth, .ref am_above, .ref am_pile, .ref am_next, .ref am_leader, .ref am_turned, .ref am_piece, .ref am_numbers, .ref am_row])), (am_there, .inl (km_there, 10, .inl zm_there)), (am_ones, .inl (km_ones, 24, .inl zm_ones)), (am_others, .inl (km_others, 24, .inl zm_others)), (am_xs, .inl (km_xs, 10, .inl zm_xs)), (am_ys, .inl (km_ys, 10, .inl zm_ys))] s.heap.size = A at hD ⊢
  have hA : ∀ q : Nat, s.heap.size ≤ q → A q := fun q h => by rw [← hAe]; exact Or.inr h
  have hS : va_S A s.heap s.heap [] := va_S.rf
  have hl := lv_entry ([.ref am]) (n := 1) (Nat.le_of_ble_eq_true rfl)
  refine W.eq (congrArg (fun a => entryFrame m a 1) hargs) ?_
  rw [lg_entry_eq]
  generalize (lg_sl ([.ref am]) ++ List.replicate (1 - (lg_sl ([.ref am])).length) Slot.unset).toArray = ls at hl ⊢
  have hl : lv_has ls 1 [(0, .ref am)] := hl
  generalize hH0 : ([] : List Loc) = locs at hS ⊢
  have hI := hR.symm
  rw [F_wrongM] at hI
  refine lv_aload_n hx hb d_Mod_wrong_0 rfl (lv_at hl 0 rfl) ?_
  refine lv_iconst (v := 0) hx hb d_Mod_wrong_1 (by decide) ?_
  refine va_put (D := (dC, dI)) (ci := 5) (v := .int 0) (ty := .int) (C := R_Mod) (T := F_Mod) (N := 21) hx hb hts (fun w h => List.mem_cons_of_mem _ (in_Mod w h)) t_Mod t_Mod_ok n_Mod hown hK hP hD hS 0 rfl rfl 0 (by decide) (hts _ (List.mem_cons_of_mem _ mw_3_156)) (fun _ h9 => h9) rfl (by decide +kernel) rfl rfl (Nat.le_of_ble_eq_true rfl) d_Mod_wrong_2 (fun H locs hP hD hS => ?_)
  have hP : va_P (dC, dI) classes [(am, .inr (5, [.int 0, .ref am_there, .ref am_ones, .ref am_others, .ref am_xs, .ref am_ys, .int zm_many, .ref am_a, .ref am_b, .ref am_from, .ref am_to, .ref am_way, .ref am_depth, .ref am_above, .ref am_pile, .ref am_next, .ref am_leader, .ref am_turned, .ref am_piece, .ref am_numbers, .ref am_row])), (am_there, .inl (km_there, 10, .inl zm_there)), (am_ones, .inl (km_ones, 24, .inl zm_ones)), (am_others, .inl (km_others, 24, .inl zm_others)), (am_xs, .inl (km_xs, 10, .inl zm_xs)), (am_ys, .inl (km_ys, 10, .inl zm_ys))] H := hP
  have hD : va_D A [(am, .inr (5, [.int 0, .ref am_there, .ref am_ones, .ref am_others, .ref am_xs, .ref am_ys, .int zm_many, .ref am_a, .ref am_b, .ref am_from, .ref am_to, .ref am_way, .ref am_depth, .ref am_above, .ref am_pile, .ref am_next, .ref am_leader, .ref am_turned, .ref am_piece, .ref am_numbers, .ref am_row])), (am_there, .inl (km_there, 10, .inl zm_there)), (am_ones, .inl (km_ones, 24, .inl zm_ones)), (am_others, .inl (km_others, 24, .inl zm_others)), (am_xs, .inl (km_xs, 10, .inl zm_xs)), (am_ys, .inl (km_ys, 10, .inl zm_ys))] := hD
  refine lv_aload_n hx hb d_Mod_wrong_5 rfl (lv_at hl 0 rfl) ?_
  obtain ⟨p_6, hg_6, hI⟩ := ob_bd hI
  have hPc := hP.sub (ws' := [(am, .inr (5, [.int 0, .ref am_there, .ref am_ones, .ref am_others, .ref am_xs, .ref am_ys, .int zm_many, .ref am_a, .ref am_b, .ref am_from, .ref am_to, .ref am_way, .ref am_depth, .ref am_above, .ref am_pile, .ref am_next, .ref am_leader, .ref am_turned, .ref am_piece, .ref am_numbers, .ref am_row])), (am_there, .inl (km_there, 10, .inl zm_there)), (am_ones, .inl (km_ones, 24, .inl zm_ones)), (am_others, .inl (km_others, 24, .inl zm_others)), (am_xs, .inl (km_xs, 10, .inl zm_xs)), (am_ys, .inl (km_ys, 10, .inl zm_ys))]) [0, 1, 2, 3, 4, 5] rfl
  have hDc := hD.sub (ws' := [(am, .inr (5, [.int 0, .ref am_there, .ref am_ones, .ref am_others, .ref am_xs, .ref am_ys, .int zm_many, .ref am_a, .ref am_b, .ref am_from, .ref am_to, .ref am_way, .ref am_depth, .ref am_above, .ref am_pile, .ref am_next, .ref am_leader, .ref am_turned, .ref am_piece, .ref am_numbers, .ref am_row])), (am_there, .inl (km_there, 10, .inl zm_there)), (am_ones, .inl (km_ones, 24, .inl zm_ones)), (am_others, .inl (km_others, 24, .inl zm_others)), (am_xs, .inl (km_xs, 10, .inl zm_xs)), (am_ys, .inl (km_ys, 10, .inl zm_ys))]) [0, 1, 2, 3, 4, 5] (by decide) rfl
  have hKc := hK.sub (tys' := [(km_there, .boolean), (km_ones, .int), (km_others, .int), (km_xs, .int), (km_ys, .int)]) [0, 1, 2, 3, 4] rfl
  have hFc := va_free (wc := [(am, .inr (5, [.int 0, .ref am_there, .ref am_ones, .ref am_others, .ref am_xs, .ref am_ys, .int zm_many, .ref am_a, .ref am_b, .ref am_from, .ref am_to, .ref am_way, .ref am_depth, .ref am_above, .ref am_pile, .ref am_next, .ref am_leader, .ref am_turned, .ref am_piece, .ref am_numbers, .ref am_row])), (am_there, .inl (km_there, 10, .inl zm_there)), (am_ones, .inl (km_ones, 24, .inl zm_ones)), (am_others, .inl (km_others, 24, .inl zm_others)), (am_xs, .inl (km_xs, 10, .inl zm_xs)), (am_ys, .inl (km_ys, 10, .inl zm_ys))]) hD hS hA [0, 1, 2, 3, 4, 5] rfl
  refine va_calli (va_runV (As := []) (rest := []) ⟨hx, hb, hml, hown, hts⟩ (c_wrongNodesM l dC dI H.size am am_there am_ones am_others am_xs am_ys am_a am_b am_from am_to am_way am_depth am_above am_pile am_next am_leader am_turned am_piece am_numbers am_row km_there km_ones km_others km_xs km_ys 0 zm_many zm_there zm_ones zm_others zm_xs zm_ys p_6 hg_6) (cwV 0 hts (gi4 mw_4_236 mw_4_238 mw_p_67 mw_1_6 mw_4_239) rfl rfl rfl (by decide +kernel) ⟨Nat.le_of_ble_eq_true rfl, Nat.le_of_ble_eq_true rfl⟩) ⟨fb_, va_recv (q0 := 0) (ci := 5) hK hP rfl rfl, pre_ hPc hKc hDc hN⟩ rfl rfl hl.1 rfl (lv_room (Nat.le_of_ble_eq_true rfl)) d_Mod_wrong_6 ⟨Nat.le_of_ble_eq_true rfl, Nat.le_of_ble_eq_true rfl⟩) hS (fun q _ h => hFc q h) hFc (fun r_6 u t H locs ht hvm hp_6 hB hz1 hk1 hS => ?_)
  obtain ⟨hP1, -, hD1⟩ := hB
  rw [ht] at hP1
  obtain ⟨hP, hD⟩ := va_join (wr := []) (w1 := [(am, .inr (5, [.int 0, .ref am_there, .ref am_ones, .ref am_others, .ref am_xs, .ref am_ys, .int zm_many, .ref am_a, .ref am_b, .ref am_from, .ref am_to, .ref am_way, .ref am_depth, .ref am_above, .ref am_pile, .ref am_next, .ref am_leader, .ref am_turned, .ref am_piece, .ref am_numbers, .ref am_row])), (am_there, .inl (km_there, 10, .inl zm_there)), (am_ones, .inl (km_ones, 24, .inl zm_ones)), (am_others, .inl (km_others, 24, .inl zm_others)), (am_xs, .inl (km_xs, 10, .inl zm_xs)), (am_ys, .inl (km_ys, 10, .inl zm_ys))]) hP hD [0, 1, 2, 3, 4, 5] [] rfl rfl (by decide) (by decide) hk1 hFc hP1 hD1
  have hp_6 : (r_6) = p_6 := hp_6
  subst hp_6
  have hP : va_P (dC, dI) classes [(am, .inr (5, [.int 0, .ref am_there, .ref am_ones, .ref am_others, .ref am_xs, .ref am_ys, .int zm_many, .ref am_a, .ref am_b, .ref am_from, .ref am_to, .ref am_way, .ref am_depth, .ref am_above, .ref am_pile, .ref am_next, .ref am_leader, .ref am_turned, .ref am_piece, .ref am_numbers, .ref am_row])), (am_there, .inl (km_there, 10, .inl zm_there)), (am_ones, .inl (km_ones, 24, .inl zm_ones)), (am_others, .inl (km_others, 24, .inl zm_others)), (am_xs, .inl (km_xs, 10, .inl zm_xs)), (am_ys, .inl (km_ys, 10, .inl zm_ys))] H := hP
  have hD : va_D A [(am, .inr (5, [.int 0, .ref am_there, .ref am_ones, .ref am_others, .ref am_xs, .ref am_ys, .int zm_many, .ref am_a, .ref am_b, .ref am_from, .ref am_to, .ref am_way, .ref am_depth, .ref am_above, .ref am_pile, .ref am_next, .ref am_leader, .ref am_turned, .ref am_piece, .ref am_numbers, .ref am_row])), (am_there, .inl (km_there, 10, .inl zm_there)), (am_ones, .inl (km_ones, 24, .inl zm_ones)), (am_others, .inl (km_others, 24, .inl zm_others)), (am_xs, .inl (km_xs, 10, .inl zm_xs)), (am_ys, .inl (km_ys, 10, .inl zm_ys))] := hD
  exact W.iret (v := r_6) hx hb hr (fun t ht hW => ⟨⟨r_6, (0), rfl, (Option.some.inj hI).symm, by rw [ht]; exact hP, va_K.moved hW.alike hK, hD⟩, hS.F ht⟩) hS.2.2 d_Mod_wrong_9
set_option maxHeartbeats 4000000 in
set_option maxRecDepth 100000 in
theorem c_flatM (l : Launch) (dC : Nat → ClassId) (dI : Nat → Nat → Nat) (sz : Nat) (am am_there am_ones am_others am_xs am_ys am_a am_b am_from am_to am_way am_depth am_above am_pile am_next am_leader am_turned am_piece am_numbers am_row : Nat) (km_there km_ones km_others km_xs km_ys : ClassId) (zm_thrown : Int32) (zm_many : Int32) (zm_there : Nat → Int32) (zm_ones : Nat → Int32) (zm_others : Nat → Int32) (zm_xs : Nat → Int32) (zm_ys : Nat → Int32) (R : Int32 × Int32) (hR : F_flatM zm_there zm_ones zm_others zm_xs zm_ys = some R) : Met l y_Mod_flat w_Mod_flat ({ frames := 4, cells := 0, slots := 0, locals := 98 }) (Pre_ dC dI sz [.ref am] [(am, .inr (5, [.int zm_thrown, .ref am_there, .ref am_ones, .ref am_others, .ref am_xs, .ref am_ys, .int zm_many, .ref am_a, .ref am_b, .ref am_from, .ref am_to, .ref am_way, .ref am_depth, .ref am_above, .ref am_pile, .ref am_next, .ref am_leader, .ref am_turned, .ref am_piece, .ref am_numbers, .ref am_row])), (am_there, .inl (km_there, 10, .inl zm_there)), (am_ones, .inl (km_ones, 24, .inl zm_ones)), (am_others, .inl (km_others, 24, .inl zm_others)), (am_xs, .inl (km_xs, 10, .inl zm_xs)), (am_ys, .inl (km_ys, 10, .inl zm_ys))] [(km_there, .boolean), (km_ones, .int), (km_others, .int), (km_xs, .int), (km_ys, .int)]) (va_Qi (fun (r : Int32) (u : Int32) => ((r, u) = R) ∧ z01 r) (fun u t => End_ dC dI (va_A [(am, .inr (5, [.int zm_thrown, .ref am_there, .ref am_ones, .ref am_others, .ref am_xs, .ref am_ys, .int zm_many, .ref am_a, .ref am_b, .ref am_from, .ref am_to, .ref am_way, .ref am_depth, .ref am_above, .ref am_pile, .ref am_next, .ref am_leader, .ref am_turned, .ref am_piece, .ref am_numbers, .ref am_row])), (am_there, .inl (km_there, 10, .inl zm_there)), (am_ones, .inl (km_ones, 24, .inl zm_ones)), (am_others, .inl (km_others, 24, .inl zm_others)), (am_xs, .inl (km_xs, 10, .inl zm_xs)), (am_ys, .inl (km_ys, 10, .inl zm_ys))] sz) [(km_there, .boolean), (km_ones, .int), (km_others, .int), (km_xs, .int), (km_ys, .int)] [(am, .inr (5, [.int u, .ref am_there, .ref am_ones, .ref am_others, .ref am_xs, .ref am_ys, .int zm_many, .ref am_a, .ref am_b, .ref am_from, .ref am_to, .ref am_way, .ref am_depth, .ref am_above, .ref am_pile, .ref am_next, .ref am_leader, .ref am_turned, .ref am_piece, .ref am_numbers, .ref am_row])), (am_there, .inl (km_there, 10, .inl zm_there)), (am_ones, .inl (km_ones, 24, .inl zm_ones)), (am_others, .inl (km_others, 24, .inl zm_others)), (am_xs, .inl (km_xs, 10, .inl zm_xs)), (am_ys, .inl (km_ys, 10, .inl zm_ys))] t) (va_A [(am, .inr (5, [.int zm_thrown, .ref am_there, .ref am_ones, .ref am_others, .ref am_xs, .ref am_ys, .int zm_many, .ref am_a, .ref am_b, .ref am_from, .ref am_to, .ref am_way, .ref am_depth, .ref am_above, .ref am_pile, .ref am_next, .ref am_leader, .ref am_turned, .ref am_piece, .ref am_numbers, .ref am_row])), (am_there, .inl (km_there, 10, .inl zm_there)), (am_ones, .inl (km_ones, 24, .inl zm_ones)), (am_others, .inl (km_others, 24, .inl zm_others)), (am_xs, .inl (km_xs, 10, .inl zm_xs)), (am_ys, .inl (km_ys, 10, .inl zm_ys))] sz)) 0 0 (va_A [(am, .inr (5, [.int zm_thrown, .ref am_there, .ref am_ones, .ref am_others, .ref am_xs, .ref am_ys, .int zm_many, .ref am_a, .ref am_b, .ref am_from, .ref am_to, .ref am_way, .ref am_depth, .ref am_above, .ref am_pile, .ref am_next, .ref am_leader, .ref am_turned, .ref am_piece, .ref am_numbers, .ref am_row])), (am_there, .inl (km_there, 10, .inl zm_there)), (am_ones, .inl (km_ones, 24, .inl zm_ones)), (am_others, .inl (km_others, 24, .inl zm_others)), (am_xs, .inl (km_xs, 10, .inl zm_xs)), (am_ys, .inl (km_ys, 10, .inl zm_ys))] sz) := by
  refine Met.ofW (cc := b_Mod_flat) (maxL := 1) (ret := (some .boolean)) (by decide) rfl ?_
  intro p e s m args below meth c s₁ B hml hv
  obtain ⟨hargs, hsz, hP, hK, hD0, hN⟩ := hv
  have hx := B.exec
  have hb := B.bytes
  have hr := B.returns
  have hts := atoms_spec (ws := w_Mod_flat) B.pre
  have hown : s.vm.findClass R_Mod = some m.cls := findClass_of_methodNamed B.named
  have hlocks := B.notSynchronized
  subst hsz
  have hD := hD0.self (sz := s.heap.size)
  generalize hAe : va_A [(am, .inr (5, [.int zm_thrown, .ref am_there, .ref am_ones, .ref am_others, .ref am_xs, .ref am_ys, .int zm_many, .ref am_a, .ref am_b, .ref am_from, .ref am_to, .ref am_way, .ref am_depth, .ref am_above, .ref am_pile, .ref am_next, .ref am_leader, .ref am_turned, .ref am_piece, .ref am_numbers, .ref am_row])), (am_there, .inl (km_there, 10, .inl zm_there)), (am_ones, .inl (km_ones, 24, .inl zm_ones)), (am_others, .inl (km_others, 24, .inl zm_others)), (am_xs, .inl (km_xs, 10, .inl zm_xs)), (am_ys, .inl (km_ys, 10, .inl zm_ys))] s.heap.size = A at hD ⊢
  have hA : ∀ q : Nat, s.heap.size ≤ q → A q := fun q h => by rw [← hAe]; exact Or.inr h
  have hS : va_S A s.heap s.heap [] := va_S.rf
  have hl := lv_entry ([.ref am]) (n := 1) (Nat.le_of_ble_eq_true rfl)
  refine W.eq (congrArg (fun a => entryFrame m a 1) hargs) ?_
  rw [lg_entry_eq]
  generalize (lg_sl ([.ref am]) ++ List.replicate (1 - (lg_sl ([.ref am])).length) Slot.unset).toArray = ls at hl ⊢
  have hl : lv_has ls 1 [(0, .ref am)] := hl
  generalize hH0 : ([] : List Loc) = locs at hS ⊢
  have hI := hR.symm
  rw [F_flatM] at hI
  refine lv_aload_n hx hb d_Mod_flat_0 rfl (lv_at hl 0 rfl) ?_
  refine lv_iconst (v := 0) hx hb d_Mod_flat_1 (by decide) ?_
  refine va_put (D := (dC, dI)) (ci := 5) (v := .int 0) (ty := .int) (C := R_Mod) (T := F_Mod) (N := 21) hx hb hts (fun w h => List.mem_cons_of_mem _ (in_Mod w h)) t_Mod t_Mod_ok n_Mod hown hK hP hD hS 0 rfl rfl 0 (by decide) (hts _ (List.mem_cons_of_mem _ mw_3_156)) (fun _ h9 => h9) rfl (by decide +kernel) rfl rfl (Nat.le_of_ble_eq_true rfl) d_Mod_flat_2 (fun H locs hP hD hS => ?_)
  have hP : va_P (dC, dI) classes [(am, .inr (5, [.int 0, .ref am_there, .ref am_ones, .ref am_others, .ref am_xs, .ref am_ys, .int zm_many, .ref am_a, .ref am_b, .ref am_from, .ref am_to, .ref am_way, .ref am_depth, .ref am_above, .ref am_pile, .ref am_next, .ref am_leader, .ref am_turned, .ref am_piece, .ref am_numbers, .ref am_row])), (am_there, .inl (km_there, 10, .inl zm_there)), (am_ones, .inl (km_ones, 24, .inl zm_ones)), (am_others, .inl (km_others, 24, .inl zm_others)), (am_xs, .inl (km_xs, 10, .inl zm_xs)), (am_ys, .inl (km_ys, 10, .inl zm_ys))] H := hP
  have hD : va_D A [(am, .inr (5, [.int 0, .ref am_there, .ref am_ones, .ref am_others, .ref am_xs, .ref am_ys, .int zm_many, .ref am_a, .ref am_b, .ref am_from, .ref am_to, .ref am_way, .ref am_depth, .ref am_above, .ref am_pile, .ref am_next, .ref am_leader, .ref am_turned, .ref am_piece, .ref am_numbers, .ref am_row])), (am_there, .inl (km_there, 10, .inl zm_there)), (am_ones, .inl (km_ones, 24, .inl zm_ones)), (am_others, .inl (km_others, 24, .inl zm_others)), (am_xs, .inl (km_xs, 10, .inl zm_xs)), (am_ys, .inl (km_ys, 10, .inl zm_ys))] := hD
  refine lv_aload_n hx hb d_Mod_flat_5 rfl (lv_at hl 0 rfl) ?_
  obtain ⟨p_6, hg_6, hI⟩ := ob_bd hI
  have hPc := hP.sub (ws' := [(am, .inr (5, [.int 0, .ref am_there, .ref am_ones, .ref am_others, .ref am_xs, .ref am_ys, .int zm_many, .ref am_a, .ref am_b, .ref am_from, .ref am_to, .ref am_way, .ref am_depth, .ref am_above, .ref am_pile, .ref am_next, .ref am_leader, .ref am_turned, .ref am_piece, .ref am_numbers, .ref am_row])), (am_ones, .inl (km_ones, 24, .inl zm_ones)), (am_others, .inl (km_others, 24, .inl zm_others)), (am_xs, .inl (km_xs, 10, .inl zm_xs)), (am_ys, .inl (km_ys, 10, .inl zm_ys))]) [0, 2, 3, 4, 5] rfl
  have hDc := hD.sub (ws' := [(am, .inr (5, [.int 0, .ref am_there, .ref am_ones, .ref am_others, .ref am_xs, .ref am_ys, .int zm_many, .ref am_a, .ref am_b, .ref am_from, .ref am_to, .ref am_way, .ref am_depth, .ref am_above, .ref am_pile, .ref am_next, .ref am_leader, .ref am_turned, .ref am_piece, .ref am_numbers, .ref am_row])), (am_ones, .inl (km_ones, 24, .inl zm_ones)), (am_others, .inl (km_others, 24, .inl zm_others)), (am_xs, .inl (km_xs, 10, .inl zm_xs)), (am_ys, .inl (km_ys, 10, .inl zm_ys))]) [0, 2, 3, 4, 5] (by decide) rfl
  have hKc := hK.sub (tys' := [(km_ones, .int), (km_others, .int), (km_xs, .int), (km_ys, .int)]) [1, 2, 3, 4] rfl
  have hFc := va_free (wc := [(am, .inr (5, [.int 0, .ref am_there, .ref am_ones, .ref am_others, .ref am_xs, .ref am_ys, .int zm_many, .ref am_a, .ref am_b, .ref am_from, .ref am_to, .ref am_way, .ref am_depth, .ref am_above, .ref am_pile, .ref am_next, .ref am_leader, .ref am_turned, .ref am_piece, .ref am_numbers, .ref am_row])), (am_ones, .inl (km_ones, 24, .inl zm_ones)), (am_others, .inl (km_others, 24, .inl zm_others)), (am_xs, .inl (km_xs, 10, .inl zm_xs)), (am_ys, .inl (km_ys, 10, .inl zm_ys))]) hD hS hA [0, 2, 3, 4, 5] rfl
  refine va_calli (va_runV (As := []) (rest := []) ⟨hx, hb, hml, hown, hts⟩ (c_meetingsM l dC dI H.size am am_there am_ones am_others am_xs am_ys am_a am_b am_from am_to am_way am_depth am_above am_pile am_next am_leader am_turned am_piece am_numbers am_row km_ones km_others km_xs km_ys 0 zm_many zm_ones zm_others zm_xs zm_ys p_6 hg_6) (cwV 0 hts (gi4 mw_4_204 mw_4_206 mw_p_62 mw_1_6 mw_4_207) rfl rfl rfl (by decide +kernel) ⟨Nat.le_of_ble_eq_true rfl, Nat.le_of_ble_eq_true rfl⟩) ⟨fb_, va_recv (q0 := 0) (ci := 5) hK hP rfl rfl, pre_ hPc hKc hDc hN⟩ rfl rfl hl.1 rfl (lv_room (Nat.le_of_ble_eq_true rfl)) d_Mod_flat_6 ⟨Nat.le_of_ble_eq_true rfl, Nat.le_of_ble_eq_true rfl⟩) hS (fun q _ h => hFc q h) hFc (fun r_6 u t H locs ht hvm hp_6 hB hz1 hk1 hS => ?_)
  obtain ⟨hP1, -, hD1⟩ := hB
  rw [ht] at hP1
  obtain ⟨hP, hD⟩ := va_join (wr := [(am_there, .inl (km_there, 10, .inl zm_there))]) (w1 := [(am, .inr (5, [.int 0, .ref am_there, .ref am_ones, .ref am_others, .ref am_xs, .ref am_ys, .int zm_many, .ref am_a, .ref am_b, .ref am_from, .ref am_to, .ref am_way, .ref am_depth, .ref am_above, .ref am_pile, .ref am_next, .ref am_leader, .ref am_turned, .ref am_piece, .ref am_numbers, .ref am_row])), (am_ones, .inl (km_ones, 24, .inl zm_ones)), (am_others, .inl (km_others, 24, .inl zm_others)), (am_xs, .inl (km_xs, 10, .inl zm_xs)), (am_ys, .inl (km_ys, 10, .inl zm_ys))]) hP hD [0, 2, 3, 4, 5] [1] rfl rfl (by decide) (by decide) hk1 hFc hP1 hD1
  have hp_6 : (r_6) = p_6 := hp_6
  subst hp_6
  have hP : va_P (dC, dI) classes [(am_there, .inl (km_there, 10, .inl zm_there)), (am, .inr (5, [.int 0, .ref am_there, .ref am_ones, .ref am_others, .ref am_xs, .ref am_ys, .int zm_many, .ref am_a, .ref am_b, .ref am_from, .ref am_to, .ref am_way, .ref am_depth, .ref am_above, .ref am_pile, .ref am_next, .ref am_leader, .ref am_turned, .ref am_piece, .ref am_numbers, .ref am_row])), (am_ones, .inl (km_ones, 24, .inl zm_ones)), (am_others, .inl (km_others, 24, .inl zm_others)), (am_xs, .inl (km_xs, 10, .inl zm_xs)), (am_ys, .inl (km_ys, 10, .inl zm_ys))] H := hP
  have hD : va_D A [(am_there, .inl (km_there, 10, .inl zm_there)), (am, .inr (5, [.int 0, .ref am_there, .ref am_ones, .ref am_others, .ref am_xs, .ref am_ys, .int zm_many, .ref am_a, .ref am_b, .ref am_from, .ref am_to, .ref am_way, .ref am_depth, .ref am_above, .ref am_pile, .ref am_next, .ref am_leader, .ref am_turned, .ref am_piece, .ref am_numbers, .ref am_row])), (am_ones, .inl (km_ones, 24, .inl zm_ones)), (am_others, .inl (km_others, 24, .inl zm_others)), (am_xs, .inl (km_xs, 10, .inl zm_xs)), (am_ys, .inl (km_ys, 10, .inl zm_ys))] := hD
  refine lv_if_ne (tgt := 23) hx hb d_Mod_flat_9 rfl (fun hc_9 => ?_) (fun hc_9 => ?_)
  · skip
    have hI := hI.trans (if_neg hc_9)
    refine lv_iconst (v := 0) hx hb d_Mod_flat_23 (by decide) ?_
    have hP := hP.sub (ws' := [(am, .inr (5, [.int 0, .ref am_there, .ref am_ones, .ref am_others, .ref am_xs, .ref am_ys, .int zm_many, .ref am_a, .ref am_b, .ref am_from, .ref am_to, .ref am_way, .ref am_depth, .ref am_above, .ref am_pile, .ref am_next, .ref am_leader, .ref am_turned, .ref am_piece, .ref am_numbers, .ref am_row])), (am_there, .inl (km_there, 10, .inl zm_there)), (am_ones, .inl (km_ones, 24, .inl zm_ones)), (am_others, .inl (km_others, 24, .inl zm_others)), (am_xs, .inl (km_xs, 10, .inl zm_xs)), (am_ys, .inl (km_ys, 10, .inl zm_ys))]) [1, 0, 2, 3, 4, 5] rfl
    have hD := hD.sub (ws' := [(am, .inr (5, [.int 0, .ref am_there, .ref am_ones, .ref am_others, .ref am_xs, .ref am_ys, .int zm_many, .ref am_a, .ref am_b, .ref am_from, .ref am_to, .ref am_way, .ref am_depth, .ref am_above, .ref am_pile, .ref am_next, .ref am_leader, .ref am_turned, .ref am_piece, .ref am_numbers, .ref am_row])), (am_there, .inl (km_there, 10, .inl zm_there)), (am_ones, .inl (km_ones, 24, .inl zm_ones)), (am_others, .inl (km_others, 24, .inl zm_others)), (am_xs, .inl (km_xs, 10, .inl zm_xs)), (am_ys, .inl (km_ys, 10, .inl zm_ys))]) [1, 0, 2, 3, 4, 5] (by decide) rfl
    exact W.zret (v := 0) (ty := .boolean) hx hb hr (nr01 (Or.inl rfl)) (fun t ht hW => ⟨⟨0, (0), rfl, ⟨(Option.some.inj hI).symm, (Or.inl rfl)⟩, by rw [ht]; exact hP, va_K.moved hW.alike hK, hD⟩, hS.F ht⟩) hS.2.2 d_Mod_flat_24
  · skip
    have hI := hI.trans (if_pos hc_9)
    refine lv_aload_n hx hb d_Mod_flat_12 rfl (lv_at hl 0 rfl) ?_
    obtain ⟨p_13, hg_13, hI⟩ := ob_bd hI
    have hPc := hP.sub (ws' := [(am, .inr (5, [.int 0, .ref am_there, .ref am_ones, .ref am_others, .ref am_xs, .ref am_ys, .int zm_many, .ref am_a, .ref am_b, .ref am_from, .ref am_to, .ref am_way, .ref am_depth, .ref am_above, .ref am_pile, .ref am_next, .ref am_leader, .ref am_turned, .ref am_piece, .ref am_numbers, .ref am_row])), (am_there, .inl (km_there, 10, .inl zm_there)), (am_ones, .inl (km_ones, 24, .inl zm_ones)), (am_others, .inl (km_others, 24, .inl zm_others)), (am_xs, .inl (km_xs, 10, .inl zm_xs)), (am_ys, .inl (km_ys, 10, .inl zm_ys))]) [1, 0, 2, 3, 4, 5] rfl
    have hDc := hD.sub (ws' := [(am, .inr (5, [.int 0, .ref am_there, .ref am_ones, .ref am_others, .ref am_xs, .ref am_ys, .int zm_many, .ref am_a, .ref am_b, .ref am_from, .ref am_to, .ref am_way, .ref am_depth, .ref am_above, .ref am_pile, .ref am_next, .ref am_leader, .ref am_turned, .ref am_piece, .ref am_numbers, .ref am_row])), (am_there, .inl (km_there, 10, .inl zm_there)), (am_ones, .inl (km_ones, 24, .inl zm_ones)), (am_others, .inl (km_others, 24, .inl zm_others)), (am_xs, .inl (km_xs, 10, .inl zm_xs)), (am_ys, .inl (km_ys, 10, .inl zm_ys))]) [1, 0, 2, 3, 4, 5] (by decide) rfl
    have hKc := hK.sub (tys' := [(km_there, .boolean), (km_ones, .int), (km_others, .int), (km_xs, .int), (km_ys, .int)]) [0, 1, 2, 3, 4] rfl
    have hFc := va_free (wc := [(am, .inr (5, [.int 0, .ref am_there, .ref am_ones, .ref am_others, .ref am_xs, .ref am_ys, .int zm_many, .ref am_a, .ref am_b, .ref am_from, .ref am_to, .ref am_way, .ref am_depth, .ref am_above, .ref am_pile, .ref am_next, .ref am_leader, .ref am_turned, .ref am_piece, .ref am_numbers, .ref am_row])), (am_there, .inl (km_there, 10, .inl zm_there)), (am_ones, .inl (km_ones, 24, .inl zm_ones)), (am_others, .inl (km_others, 24, .inl zm_others)), (am_xs, .inl (km_xs, 10, .inl zm_xs)), (am_ys, .inl (km_ys, 10, .inl zm_ys))]) hD hS hA [1, 0, 2, 3, 4, 5] rfl
    refine va_calli (va_runV (As := []) (rest := []) ⟨hx, hb, hml, hown, hts⟩ (c_wrongNodesM l dC dI H.size am am_there am_ones am_others am_xs am_ys am_a am_b am_from am_to am_way am_depth am_above am_pile am_next am_leader am_turned am_piece am_numbers am_row km_there km_ones km_others km_xs km_ys 0 zm_many zm_there zm_ones zm_others zm_xs zm_ys p_13 hg_13) (cwV 0 hts (gi4 mw_4_236 mw_4_238 mw_p_67 mw_1_6 mw_4_239) rfl rfl rfl (by decide +kernel) ⟨Nat.le_of_ble_eq_true rfl, Nat.le_of_ble_eq_true rfl⟩) ⟨fb_, va_recv (q0 := 1) (ci := 5) hK hP rfl rfl, pre_ hPc hKc hDc hN⟩ rfl rfl hl.1 rfl (lv_room (Nat.le_of_ble_eq_true rfl)) d_Mod_flat_13 ⟨Nat.le_of_ble_eq_true rfl, Nat.le_of_ble_eq_true rfl⟩) hS (fun q _ h => hFc q h) hFc (fun r_13 u t H locs ht hvm hp_13 hB hz1 hk1 hS => ?_)
    obtain ⟨hP1, -, hD1⟩ := hB
    rw [ht] at hP1
    obtain ⟨hP, hD⟩ := va_join (wr := []) (w1 := [(am, .inr (5, [.int 0, .ref am_there, .ref am_ones, .ref am_others, .ref am_xs, .ref am_ys, .int zm_many, .ref am_a, .ref am_b, .ref am_from, .ref am_to, .ref am_way, .ref am_depth, .ref am_above, .ref am_pile, .ref am_next, .ref am_leader, .ref am_turned, .ref am_piece, .ref am_numbers, .ref am_row])), (am_there, .inl (km_there, 10, .inl zm_there)), (am_ones, .inl (km_ones, 24, .inl zm_ones)), (am_others, .inl (km_others, 24, .inl zm_others)), (am_xs, .inl (km_xs, 10, .inl zm_xs)), (am_ys, .inl (km_ys, 10, .inl zm_ys))]) hP hD [1, 0, 2, 3, 4, 5] [] rfl rfl (by decide) (by decide) hk1 hFc hP1 hD1
    have hp_13 : (r_13) = p_13 := hp_13
    subst hp_13
    have hP : va_P (dC, dI) classes [(am, .inr (5, [.int 0, .ref am_there, .ref am_ones, .ref am_others, .ref am_xs, .ref am_ys, .int zm_many, .ref am_a, .ref am_b, .ref am_from, .ref am_to, .ref am_way, .ref am_depth, .ref am_above, .ref am_pile, .ref am_next, .ref am_leader, .ref am_turned, .ref am_piece, .ref am_numbers, .ref am_row])), (am_there, .inl (km_there, 10, .inl zm_there)), (am_ones, .inl (km_ones, 24, .inl zm_ones)), (am_others, .inl (km_others, 24, .inl zm_others)), (am_xs, .inl (km_xs, 10, .inl zm_xs)), (am_ys, .inl (km_ys, 10, .inl zm_ys))] H := hP
    have hD : va_D A [(am, .inr (5, [.int 0, .ref am_there, .ref am_ones, .ref am_others, .ref am_xs, .ref am_ys, .int zm_many, .ref am_a, .ref am_b, .ref am_from, .ref am_to, .ref am_way, .ref am_depth, .ref am_above, .ref am_pile, .ref am_next, .ref am_leader, .ref am_turned, .ref am_piece, .ref am_numbers, .ref am_row])), (am_there, .inl (km_there, 10, .inl zm_there)), (am_ones, .inl (km_ones, 24, .inl zm_ones)), (am_others, .inl (km_others, 24, .inl zm_others)), (am_xs, .inl (km_xs, 10, .inl zm_xs)), (am_ys, .inl (km_ys, 10, .inl zm_ys))] := hD
    refine lv_if_ne (tgt := 23) hx hb d_Mod_flat_16 rfl (fun hc_16 => ?_) (fun hc_16 => ?_)
    · skip
      have hI := hI.trans (if_neg hc_16)
      refine lv_iconst (v := 0) hx hb d_Mod_flat_23 (by decide) ?_
      exact W.zret (v := 0) (ty := .boolean) hx hb hr (nr01 (Or.inl rfl)) (fun t ht hW => ⟨⟨0, (0), rfl, ⟨(Option.some.inj hI).symm, (Or.inl rfl)⟩, by rw [ht]; exact hP, va_K.moved hW.alike hK, hD⟩, hS.F ht⟩) hS.2.2 d_Mod_flat_24
    · skip
      have hI := hI.trans (if_pos hc_16)
      refine lv_iconst (v := 1) hx hb d_Mod_flat_19 (by decide) ?_
      refine lv_goto (tgt := 24) hx hb d_Mod_flat_20 rfl ?_
      exact W.zret (v := 1) (ty := .boolean) hx hb hr (nr01 (Or.inr rfl)) (fun t ht hW => ⟨⟨1, (0), rfl, ⟨(Option.some.inj hI).symm, (Or.inr rfl)⟩, by rw [ht]; exact hP, va_K.moved hW.alike hK, hD⟩, hS.F ht⟩) hS.2.2 d_Mod_flat_24
set_option maxHeartbeats 4000000 in
set_option maxRecDepth 100000 in
theorem c_boxM (l : Launch) (dC : Nat → ClassId) (dI : Nat → Nat → Nat) (sz : Nat) (am am_there am_ones am_others am_xs am_ys am_a am_b am_from am_to am_way am_depth am_above am_pile am_next am_leader am_turned am_piece am_numbers am_row : Nat) (km_there km_xs km_ys : ClassId) (zm_thrown : Int32) (zm_many : Int32) (zm_there : Nat → Int32) (zm_xs : Nat → Int32) (zm_ys : Nat → Int32) (R : Int32 × Int32) (hR : F_boxM zm_there zm_xs zm_ys = some R) : Met l y_Mod_box w_Mod_box ({ frames := 0, cells := 0, slots := 0, locals := 0 }) (Pre_ dC dI sz [.ref am] [(am, .inr (5, [.int zm_thrown, .ref am_there, .ref am_ones, .ref am_others, .ref am_xs, .ref am_ys, .int zm_many, .ref am_a, .ref am_b, .ref am_from, .ref am_to, .ref am_way, .ref am_depth, .ref am_above, .ref am_pile, .ref am_next, .ref am_leader, .ref am_turned, .ref am_piece, .ref am_numbers, .ref am_row])), (am_there, .inl (km_there, 10, .inl zm_there)), (am_xs, .inl (km_xs, 10, .inl zm_xs)), (am_ys, .inl (km_ys, 10, .inl zm_ys))] [(km_there, .boolean), (km_xs, .int), (km_ys, .int)]) (va_Qi (fun (r : Int32) (u : Int32) => (r, u) = R) (fun u t => End_ dC dI (va_A [(am, .inr (5, [.int zm_thrown, .ref am_there, .ref am_ones, .ref am_others, .ref am_xs, .ref am_ys, .int zm_many, .ref am_a, .ref am_b, .ref am_from, .ref am_to, .ref am_way, .ref am_depth, .ref am_above, .ref am_pile, .ref am_next, .ref am_leader, .ref am_turned, .ref am_piece, .ref am_numbers, .ref am_row])), (am_there, .inl (km_there, 10, .inl zm_there)), (am_xs, .inl (km_xs, 10, .inl zm_xs)), (am_ys, .inl (km_ys, 10, .inl zm_ys))] sz) [(km_there, .boolean), (km_xs, .int), (km_ys, .int)] [(am, .inr (5, [.int u, .ref am_there, .ref am_ones, .ref am_others, .ref am_xs, .ref am_ys, .int zm_many, .ref am_a, .ref am_b, .ref am_from, .ref am_to, .ref am_way, .ref am_depth, .ref am_above, .ref am_pile, .ref am_next, .ref am_leader, .ref am_turned, .ref am_piece, .ref am_numbers, .ref am_row])), (am_there, .inl (km_there, 10, .inl zm_there)), (am_xs, .inl (km_xs, 10, .inl zm_xs)), (am_ys, .inl (km_ys, 10, .inl zm_ys))] t) (va_A [(am, .inr (5, [.int zm_thrown, .ref am_there, .ref am_ones, .ref am_others, .ref am_xs, .ref am_ys, .int zm_many, .ref am_a, .ref am_b, .ref am_from, .ref am_to, .ref am_way, .ref am_depth, .ref am_above, .ref am_pile, .ref am_next, .ref am_leader, .ref am_turned, .ref am_piece, .ref am_numbers, .ref am_row])), (am_there, .inl (km_there, 10, .inl zm_there)), (am_xs, .inl (km_xs, 10, .inl zm_xs)), (am_ys, .inl (km_ys, 10, .inl zm_ys))] sz)) 0 0 (va_A [(am, .inr (5, [.int zm_thrown, .ref am_there, .ref am_ones, .ref am_others, .ref am_xs, .ref am_ys, .int zm_many, .ref am_a, .ref am_b, .ref am_from, .ref am_to, .ref am_way, .ref am_depth, .ref am_above, .ref am_pile, .ref am_next, .ref am_leader, .ref am_turned, .ref am_piece, .ref am_numbers, .ref am_row])), (am_there, .inl (km_there, 10, .inl zm_there)), (am_xs, .inl (km_xs, 10, .inl zm_xs)), (am_ys, .inl (km_ys, 10, .inl zm_ys))] sz) := by
  refine Met.ofW (cc := b_Mod_box) (maxL := 6) (ret := (some .int)) (by decide) rfl ?_
  intro p e s m args below meth c s₁ B hml hv
  obtain ⟨hargs, hsz, hP, hK, hD0, hN⟩ := hv
  have hx := B.exec
  have hb := B.bytes
  have hr := B.returns
  have hts := atoms_spec (ws := w_Mod_box) B.pre
  have hown : s.vm.findClass R_Mod = some m.cls := findClass_of_methodNamed B.named
  have hlocks := B.notSynchronized
  subst hsz
  have hD := hD0.self (sz := s.heap.size)
  generalize hAe : va_A [(am, .inr (5, [.int zm_thrown, .ref am_there, .ref am_ones, .ref am_others, .ref am_xs, .ref am_ys, .int zm_many, .ref am_a, .ref am_b, .ref am_from, .ref am_to, .ref am_way, .ref am_depth, .ref am_above, .ref am_pile, .ref am_next, .ref am_leader, .ref am_turned, .ref am_piece, .ref am_numbers, .ref am_row])), (am_there, .inl (km_there, 10, .inl zm_there)), (am_xs, .inl (km_xs, 10, .inl zm_xs)), (am_ys, .inl (km_ys, 10, .inl zm_ys))] s.heap.size = A at hD ⊢
  have hA : ∀ q : Nat, s.heap.size ≤ q → A q := fun q h => by rw [← hAe]; exact Or.inr h
  have hS : va_S A s.heap s.heap [] := va_S.rf
  have hl := lv_entry ([.ref am]) (n := 6) (Nat.le_of_ble_eq_true rfl)
  refine W.eq (congrArg (fun a => entryFrame m a 6) hargs) ?_
  rw [lg_entry_eq]
  generalize (lg_sl ([.ref am]) ++ List.replicate (6 - (lg_sl ([.ref am])).length) Slot.unset).toArray = ls at hl ⊢
  have hl : lv_has ls 6 [(0, .ref am)] := hl
  generalize hH0 : ([] : List Loc) = locs at hS ⊢
  have hI := hR.symm
  rw [F_boxM] at hI
  refine lv_aload_n hx hb d_Mod_box_0 rfl (lv_at hl 0 rfl) ?_
  refine lv_iconst (v := 0) hx hb d_Mod_box_1 (by decide) ?_
  refine va_put (D := (dC, dI)) (ci := 5) (v := .int 0) (ty := .int) (C := R_Mod) (T := F_Mod) (N := 21) hx hb hts (fun w h => List.mem_cons_of_mem _ (in_Mod w h)) t_Mod t_Mod_ok n_Mod hown hK hP hD hS 0 rfl rfl 0 (by decide) (hts _ (List.mem_cons_of_mem _ mw_3_156)) (fun _ h9 => h9) rfl (by decide +kernel) rfl rfl (Nat.le_of_ble_eq_true rfl) d_Mod_box_2 (fun H locs hP hD hS => ?_)
  have hP : va_P (dC, dI) classes [(am, .inr (5, [.int 0, .ref am_there, .ref am_ones, .ref am_others, .ref am_xs, .ref am_ys, .int zm_many, .ref am_a, .ref am_b, .ref am_from, .ref am_to, .ref am_way, .ref am_depth, .ref am_above, .ref am_pile, .ref am_next, .ref am_leader, .ref am_turned, .ref am_piece, .ref am_numbers, .ref am_row])), (am_there, .inl (km_there, 10, .inl zm_there)), (am_xs, .inl (km_xs, 10, .inl zm_xs)), (am_ys, .inl (km_ys, 10, .inl zm_ys))] H := hP
  have hD : va_D A [(am, .inr (5, [.int 0, .ref am_there, .ref am_ones, .ref am_others, .ref am_xs, .ref am_ys, .int zm_many, .ref am_a, .ref am_b, .ref am_from, .ref am_to, .ref am_way, .ref am_depth, .ref am_above, .ref am_pile, .ref am_next, .ref am_leader, .ref am_turned, .ref am_piece, .ref am_numbers, .ref am_row])), (am_there, .inl (km_there, 10, .inl zm_there)), (am_xs, .inl (km_xs, 10, .inl zm_xs)), (am_ys, .inl (km_ys, 10, .inl zm_ys))] := hD
  refine lv_bipush (v := 31) hx hb d_Mod_box_5 (by decide) ?_
  refine lv_istore_n (lv' := [(1, .int 31), (0, .ref am)]) hx hb d_Mod_box_7 rfl hl (by decide) rfl (fun ls hl => ?_)
  refine lv_iconst (v := -1) hx hb d_Mod_box_8 (by decide) ?_
  refine lv_istore_n (lv' := [(2, .int ((-1))), (1, .int 31), (0, .ref am)]) hx hb d_Mod_box_9 rfl hl (by decide) rfl (fun ls hl => ?_)
  refine lv_bipush (v := 31) hx hb d_Mod_box_10 (by decide) ?_
  refine lv_istore_n (lv' := [(3, .int 31), (2, .int ((-1))), (1, .int 31), (0, .ref am)]) hx hb d_Mod_box_12 rfl hl (by decide) rfl (fun ls hl => ?_)
  refine lv_iconst (v := -1) hx hb d_Mod_box_13 (by decide) ?_
  refine lv_istore (lv' := [(4, .int ((-1))), (3, .int 31), (2, .int ((-1))), (1, .int 31), (0, .ref am)]) hx hb d_Mod_box_14 hl (by decide) rfl (fun ls hl => ?_)
  refine lv_iconst (v := 0) hx hb d_Mod_box_16 (by decide) ?_
  refine lv_istore (lv' := [(5, .int 0), (4, .int ((-1))), (3, .int 31), (2, .int ((-1))), (1, .int 31), (0, .ref am)]) hx hb d_Mod_box_17 hl (by decide) rfl (fun ls hl => ?_)
  obtain ⟨K_19, hK_19⟩ : ∃ K : Int32 → Int32 → Int32 → Int32 → Option (Int32 × Int32), K = (fun v1_19 v2_19 v3_19 v4_19 => (if 0 ≤ v2_19 then some (((((2 : Int32)) * (v2_19 - v1_19)) * (v4_19 - v3_19)) + 1, 0) else some ((0 : Int32), 0))) := ⟨_, rfl⟩
  have X_19 : ∀ (k_19 : Nat) (v1_19 : Int32) (v2_19 : Int32) (v3_19 : Int32) (v4_19 : Int32) (H : Heap) (locs : List Loc) (ls : Array Slot), some R = K_19 v1_19 v2_19 v3_19 v4_19 → va_P (dC, dI) classes [(am, .inr (5, [.int 0, .ref am_there, .ref am_ones, .ref am_others, .ref am_xs, .ref am_ys, .int zm_many, .ref am_a, .ref am_b, .ref am_from, .ref am_to, .ref am_way, .ref am_depth, .ref am_above, .ref am_pile, .ref am_next, .ref am_leader, .ref am_turned, .ref am_piece, .ref am_numbers, .ref am_row])), (am_there, .inl (km_there, 10, .inl zm_there)), (am_xs, .inl (km_xs, 10, .inl zm_xs)), (am_ys, .inl (km_ys, 10, .inl zm_ys))] H → va_D A [(am, .inr (5, [.int 0, .ref am_there, .ref am_ones, .ref am_others, .ref am_xs, .ref am_ys, .int zm_many, .ref am_a, .ref am_b, .ref am_from, .ref am_to, .ref am_way, .ref am_depth, .ref am_above, .ref am_pile, .ref am_next, .ref am_leader, .ref am_turned, .ref am_piece, .ref am_numbers, .ref am_row])), (am_there, .inl (km_there, 10, .inl zm_there)), (am_xs, .inl (km_xs, 10, .inl zm_xs)), (am_ys, .inl (km_ys, 10, .inl zm_ys))] → va_S A s.heap H locs → lv_has ls 6 [(0, .ref am), (1, .int v1_19), (2, .int v2_19), (3, .int v3_19), (4, .int v4_19), (5, .int (nI k_19))] → W p l e (headSpec w_Mod_box ({ frames := 0, cells := 0, slots := 0, locals := 0 })).room s m args below meth c H locs 0 0 (MQ below (va_Qi (fun (r : Int32) (u : Int32) => (r, u) = R) (fun u t => End_ dC dI A [(km_there, .boolean), (km_xs, .int), (km_ys, .int)] [(am, .inr (5, [.int u, .ref am_there, .ref am_ones, .ref am_others, .ref am_xs, .ref am_ys, .int zm_many, .ref am_a, .ref am_b, .ref am_from, .ref am_to, .ref am_way, .ref am_depth, .ref am_above, .ref am_pile, .ref am_next, .ref am_leader, .ref am_turned, .ref am_piece, .ref am_numbers, .ref am_row])), (am_there, .inl (km_there, 10, .inl zm_there)), (am_xs, .inl (km_xs, 10, .inl zm_xs)), (am_ys, .inl (km_ys, 10, .inl zm_ys))] t) A) args s 0 0 A) (F0 m 167 ls []) := by
    intro k_19 v1_19 v2_19 v3_19 v4_19 H locs ls hI hP hD hS hl
    rw [hK_19] at hI
    refine lv_iload_n hx hb d_Mod_box_167 rfl (lv_at hl 2 rfl) ?_
    refine lv_if_ge (tgt := 175) hx hb d_Mod_box_168 rfl (fun hc_168 => ?_) (fun hc_168 => ?_)
    · skip
      have hI := hI.trans (if_pos hc_168)
      refine lv_iconst (v := 2) hx hb d_Mod_box_175 (by decide) ?_
      refine lv_iload_n hx hb d_Mod_box_176 rfl (lv_at hl 2 rfl) ?_
      refine lv_iload_n hx hb d_Mod_box_177 rfl (lv_at hl 1 rfl) ?_
      refine lv_isub hx hb d_Mod_box_178 ?_
      refine lv_imul hx hb d_Mod_box_179 ?_
      refine lv_iload hx hb d_Mod_box_180 (lv_at hl 4 rfl) ?_
      refine lv_iload_n hx hb d_Mod_box_182 rfl (lv_at hl 3 rfl) ?_
      refine lv_isub hx hb d_Mod_box_183 ?_
      refine lv_imul hx hb d_Mod_box_184 ?_
      refine lv_iconst (v := 1) hx hb d_Mod_box_185 (by decide) ?_
      refine lv_iadd hx hb d_Mod_box_186 ?_
      exact W.iret (v := ((((2 : Int32)) * (v2_19 - v1_19)) * (v4_19 - v3_19)) + 1) hx hb hr (fun t ht hW => ⟨⟨((((2 : Int32)) * (v2_19 - v1_19)) * (v4_19 - v3_19)) + 1, (0), rfl, (Option.some.inj hI).symm, by rw [ht]; exact hP, va_K.moved hW.alike hK, hD⟩, hS.F ht⟩) hS.2.2 d_Mod_box_187
    · skip
      have hI := hI.trans (if_neg hc_168)
      refine lv_iconst (v := 0) hx hb d_Mod_box_171 (by decide) ?_
      refine lv_goto (tgt := 187) hx hb d_Mod_box_172 rfl ?_
      exact W.iret (v := 0) hx hb hr (fun t ht hW => ⟨⟨0, (0), rfl, (Option.some.inj hI).symm, by rw [ht]; exact hP, va_K.moved hW.alike hK, hD⟩, hS.F ht⟩) hS.2.2 d_Mod_box_187
  have L_19 : ∀ (n_19 k_19 : Nat) (v1_19 : Int32) (v2_19 : Int32) (v3_19 : Int32) (v4_19 : Int32) (H : Heap) (locs : List Loc) (ls : Array Slot), k_19 + n_19 = 10 → some R = F_boxM_L19 K_19 zm_there zm_xs zm_ys n_19 k_19 v1_19 v2_19 v3_19 v4_19 → va_P (dC, dI) classes [(am, .inr (5, [.int 0, .ref am_there, .ref am_ones, .ref am_others, .ref am_xs, .ref am_ys, .int zm_many, .ref am_a, .ref am_b, .ref am_from, .ref am_to, .ref am_way, .ref am_depth, .ref am_above, .ref am_pile, .ref am_next, .ref am_leader, .ref am_turned, .ref am_piece, .ref am_numbers, .ref am_row])), (am_there, .inl (km_there, 10, .inl zm_there)), (am_xs, .inl (km_xs, 10, .inl zm_xs)), (am_ys, .inl (km_ys, 10, .inl zm_ys))] H → va_D A [(am, .inr (5, [.int 0, .ref am_there, .ref am_ones, .ref am_others, .ref am_xs, .ref am_ys, .int zm_many, .ref am_a, .ref am_b, .ref am_from, .ref am_to, .ref am_way, .ref am_depth, .ref am_above, .ref am_pile, .ref am_next, .ref am_leader, .ref am_turned, .ref am_piece, .ref am_numbers, .ref am_row])), (am_there, .inl (km_there, 10, .inl zm_there)), (am_xs, .inl (km_xs, 10, .inl zm_xs)), (am_ys, .inl (km_ys, 10, .inl zm_ys))] → va_S A s.heap H locs → lv_has ls 6 [(0, .ref am), (1, .int v1_19), (2, .int v2_19), (3, .int v3_19), (4, .int v4_19), (5, .int (nI k_19))] → W p l e (headSpec w_Mod_box ({ frames := 0, cells := 0, slots := 0, locals := 0 })).room s m args below meth c H locs 0 0 (MQ below (va_Qi (fun (r : Int32) (u : Int32) => (r, u) = R) (fun u t => End_ dC dI A [(km_there, .boolean), (km_xs, .int), (km_ys, .int)] [(am, .inr (5, [.int u, .ref am_there, .ref am_ones, .ref am_others, .ref am_xs, .ref am_ys, .int zm_many, .ref am_a, .ref am_b, .ref am_from, .ref am_to, .ref am_way, .ref am_depth, .ref am_above, .ref am_pile, .ref am_next, .ref am_leader, .ref am_turned, .ref am_piece, .ref am_numbers, .ref am_row])), (am_there, .inl (km_there, 10, .inl zm_there)), (am_xs, .inl (km_xs, 10, .inl zm_xs)), (am_ys, .inl (km_ys, 10, .inl zm_ys))] t) A) args s 0 0 A) (F0 m 19 ls []) := by
    intro n_19
    induction n_19 with
    | zero =>
      intro k_19 v1_19 v2_19 v3_19 v4_19 H locs ls hkn_19 hI hP hD hS hl
      rw [F_boxM_L19] at hI
      refine lv_iload hx hb d_Mod_box_19 (lv_at hl 5 rfl) ?_
      refine lv_bipush (v := 10) hx hb d_Mod_box_21 (by decide) ?_
      refine lv_icmp_ge (tgt := 167) hx hb d_Mod_box_23 rfl (fun hc_23 => ?_) (fun hc_23 => absurd (z_exit rfl hkn_19) hc_23)
      have hl := lv_sub hl [0, 1, 2, 3, 4, 5] rfl
      exact X_19 _ _ _ _ _ _ _ _ hI hP hD hS hl
    | succ n_19 ih_19 =>
      intro k_19 v1_19 v2_19 v3_19 v4_19 H locs ls hkn_19 hI hP hD hS hl
      rw [F_boxM_L19] at hI
      refine lv_iload hx hb d_Mod_box_19 (lv_at hl 5 rfl) ?_
      refine lv_bipush (v := 10) hx hb d_Mod_box_21 (by decide) ?_
      refine lv_icmp_ge (tgt := 167) hx hb d_Mod_box_23 rfl (fun hc_23 => absurd hc_23 (z_stay rfl hkn_19 (by decide))) (fun hc_23 => ?_)
      refine lv_aload_n hx hb d_Mod_box_26 rfl (lv_at hl 0 rfl) ?_
      refine va_get (D := (dC, dI)) (ci := 5) (v := .ref am_there) (C := R_Mod) (T := F_Mod) (N := 21) hx hb hts (fun w h => List.mem_cons_of_mem _ (in_Mod w h)) hown hK hP 0 rfl rfl 1 (by decide) (hts _ (List.mem_cons_of_mem _ mw_3_157)) (fun _ h9 => h9) rfl d_Mod_box_27 ?_
      refine lv_iload hx hb d_Mod_box_30 (lv_at hl 5 rfl) ?_
      refine va_zald (D := (dC, dI)) hx hb hK hP 1 0 rfl rfl (vp_in_nI (by omega) (by decide)) d_Mod_box_32 ?_
      refine lv_topi (fun y_32 e_32 => ?_)
      obtain rfl : y_32 = zm_there k_19 := e_32.trans (by rw [nI_clamp (by omega)])
      obtain ⟨K_j58_33, hK_j58_33⟩ : ∃ K : Int32 → Option (Int32 × Int32), K = (fun (j_58_33 : Int32) => ((fun (j_91_66 : Int32) => ((fun (j_124_99 : Int32) => ((fun (j_159_132 : Int32) => (F_boxM_L19 K_19 zm_there zm_xs zm_ys n_19 (k_19 + 1) j_58_33 j_91_66 j_124_99 j_159_132)) (if (zm_there k_19) = 0 then (v4_19) else (if (zm_ys k_19) ≤ v4_19 then (v4_19) else (zm_ys k_19))))) (if (zm_there k_19) = 0 then (v3_19) else (if v3_19 ≤ (zm_ys k_19) then (v3_19) else (zm_ys k_19))))) (if (zm_there k_19) = 0 then (v2_19) else (if (zm_xs k_19) ≤ v2_19 then (v2_19) else (zm_xs k_19))))) := ⟨_, rfl⟩
      have J_58_33 : ∀ (s0_58_33 : Int32) (H : Heap) (locs : List Loc) (ls : Array Slot), some R = (K_j58_33 s0_58_33) → va_P (dC, dI) classes [(am, .inr (5, [.int 0, .ref am_there, .ref am_ones, .ref am_others, .ref am_xs, .ref am_ys, .int zm_many, .ref am_a, .ref am_b, .ref am_from, .ref am_to, .ref am_way, .ref am_depth, .ref am_above, .ref am_pile, .ref am_next, .ref am_leader, .ref am_turned, .ref am_piece, .ref am_numbers, .ref am_row])), (am_there, .inl (km_there, 10, .inl zm_there)), (am_xs, .inl (km_xs, 10, .inl zm_xs)), (am_ys, .inl (km_ys, 10, .inl zm_ys))] H → va_D A [(am, .inr (5, [.int 0, .ref am_there, .ref am_ones, .ref am_others, .ref am_xs, .ref am_ys, .int zm_many, .ref am_a, .ref am_b, .ref am_from, .ref am_to, .ref am_way, .ref am_depth, .ref am_above, .ref am_pile, .ref am_next, .ref am_leader, .ref am_turned, .ref am_piece, .ref am_numbers, .ref am_row])), (am_there, .inl (km_there, 10, .inl zm_there)), (am_xs, .inl (km_xs, 10, .inl zm_xs)), (am_ys, .inl (km_ys, 10, .inl zm_ys))] → va_S A s.heap H locs → lv_has ls 6 [(0, .ref am), (1, .int v1_19), (2, .int v2_19), (3, .int v3_19), (4, .int v4_19), (5, .int (nI k_19))] → W p l e (headSpec w_Mod_box ({ frames := 0, cells := 0, slots := 0, locals := 0 })).room s m args below meth c H locs 0 0 (MQ below (va_Qi (fun (r : Int32) (u : Int32) => (r, u) = R) (fun u t => End_ dC dI A [(km_there, .boolean), (km_xs, .int), (km_ys, .int)] [(am, .inr (5, [.int u, .ref am_there, .ref am_ones, .ref am_others, .ref am_xs, .ref am_ys, .int zm_many, .ref am_a, .ref am_b, .ref am_from, .ref am_to, .ref am_way, .ref am_depth, .ref am_above, .ref am_pile, .ref am_next, .ref am_leader, .ref am_turned, .ref am_piece, .ref am_numbers, .ref am_row])), (am_there, .inl (km_there, 10, .inl zm_there)), (am_xs, .inl (km_xs, 10, .inl zm_xs)), (am_ys, .inl (km_ys, 10, .inl zm_ys))] t) A) args s 0 0 A) (F0 m 58 ls [.int s0_58_33]) := by
        intro s0_58_33 H locs ls hI hP hD hS hl
        rw [hK_j58_33] at hI
        refine lv_istore_n (lv' := [(1, .int s0_58_33), (0, .ref am), (2, .int v2_19), (3, .int v3_19), (4, .int v4_19), (5, .int (nI k_19))]) hx hb d_Mod_box_58 rfl hl (by decide) rfl (fun ls hl => ?_)
        refine lv_aload_n hx hb d_Mod_box_59 rfl (lv_at hl 1 rfl) ?_
        refine va_get (D := (dC, dI)) (ci := 5) (v := .ref am_there) (C := R_Mod) (T := F_Mod) (N := 21) hx hb hts (fun w h => List.mem_cons_of_mem _ (in_Mod w h)) hown hK hP 0 rfl rfl 1 (by decide) (hts _ (List.mem_cons_of_mem _ mw_3_157)) (fun _ h9 => h9) rfl d_Mod_box_60 ?_
        refine lv_iload hx hb d_Mod_box_63 (lv_at hl 5 rfl) ?_
        refine va_zald (D := (dC, dI)) hx hb hK hP 1 0 rfl rfl (vp_in_nI (by omega) (by decide)) d_Mod_box_65 ?_
        refine lv_topi (fun y_65 e_65 => ?_)
        obtain rfl : y_65 = zm_there k_19 := e_65.trans (by rw [nI_clamp (by omega)])
        obtain ⟨K_j91_66, hK_j91_66⟩ : ∃ K : Int32 → Option (Int32 × Int32), K = (fun (j_91_66 : Int32) => ((fun (j_124_99 : Int32) => ((fun (j_159_132 : Int32) => (F_boxM_L19 K_19 zm_there zm_xs zm_ys n_19 (k_19 + 1) s0_58_33 j_91_66 j_124_99 j_159_132)) (if (zm_there k_19) = 0 then (v4_19) else (if (zm_ys k_19) ≤ v4_19 then (v4_19) else (zm_ys k_19))))) (if (zm_there k_19) = 0 then (v3_19) else (if v3_19 ≤ (zm_ys k_19) then (v3_19) else (zm_ys k_19))))) := ⟨_, rfl⟩
        have J_91_66 : ∀ (s0_91_66 : Int32) (H : Heap) (locs : List Loc) (ls : Array Slot), some R = (K_j91_66 s0_91_66) → va_P (dC, dI) classes [(am, .inr (5, [.int 0, .ref am_there, .ref am_ones, .ref am_others, .ref am_xs, .ref am_ys, .int zm_many, .ref am_a, .ref am_b, .ref am_from, .ref am_to, .ref am_way, .ref am_depth, .ref am_above, .ref am_pile, .ref am_next, .ref am_leader, .ref am_turned, .ref am_piece, .ref am_numbers, .ref am_row])), (am_there, .inl (km_there, 10, .inl zm_there)), (am_xs, .inl (km_xs, 10, .inl zm_xs)), (am_ys, .inl (km_ys, 10, .inl zm_ys))] H → va_D A [(am, .inr (5, [.int 0, .ref am_there, .ref am_ones, .ref am_others, .ref am_xs, .ref am_ys, .int zm_many, .ref am_a, .ref am_b, .ref am_from, .ref am_to, .ref am_way, .ref am_depth, .ref am_above, .ref am_pile, .ref am_next, .ref am_leader, .ref am_turned, .ref am_piece, .ref am_numbers, .ref am_row])), (am_there, .inl (km_there, 10, .inl zm_there)), (am_xs, .inl (km_xs, 10, .inl zm_xs)), (am_ys, .inl (km_ys, 10, .inl zm_ys))] → va_S A s.heap H locs → lv_has ls 6 [(0, .ref am), (1, .int s0_58_33), (2, .int v2_19), (3, .int v3_19), (4, .int v4_19), (5, .int (nI k_19))] → W p l e (headSpec w_Mod_box ({ frames := 0, cells := 0, slots := 0, locals := 0 })).room s m args below meth c H locs 0 0 (MQ below (va_Qi (fun (r : Int32) (u : Int32) => (r, u) = R) (fun u t => End_ dC dI A [(km_there, .boolean), (km_xs, .int), (km_ys, .int)] [(am, .inr (5, [.int u, .ref am_there, .ref am_ones, .ref am_others, .ref am_xs, .ref am_ys, .int zm_many, .ref am_a, .ref am_b, .ref am_from, .ref am_to, .ref am_way, .ref am_depth, .ref am_above, .ref am_pile, .ref am_next, .ref am_leader, .ref am_turned, .ref am_piece, .ref am_numbers, .ref am_row])), (am_there, .inl (km_there, 10, .inl zm_there)), (am_xs, .inl (km_xs, 10, .inl zm_xs)), (am_ys, .inl (km_ys, 10, .inl zm_ys))] t) A) args s 0 0 A) (F0 m 91 ls [.int s0_91_66]) := by
          intro s0_91_66 H locs ls hI hP hD hS hl
          rw [hK_j91_66] at hI
          refine lv_istore_n (lv' := [(2, .int s0_91_66), (0, .ref am), (1, .int s0_58_33), (3, .int v3_19), (4, .int v4_19), (5, .int (nI k_19))]) hx hb d_Mod_box_91 rfl hl (by decide) rfl (fun ls hl => ?_)
          refine lv_aload_n hx hb d_Mod_box_92 rfl (lv_at hl 1 rfl) ?_
          refine va_get (D := (dC, dI)) (ci := 5) (v := .ref am_there) (C := R_Mod) (T := F_Mod) (N := 21) hx hb hts (fun w h => List.mem_cons_of_mem _ (in_Mod w h)) hown hK hP 0 rfl rfl 1 (by decide) (hts _ (List.mem_cons_of_mem _ mw_3_157)) (fun _ h9 => h9) rfl d_Mod_box_93 ?_
          refine lv_iload hx hb d_Mod_box_96 (lv_at hl 5 rfl) ?_
          refine va_zald (D := (dC, dI)) hx hb hK hP 1 0 rfl rfl (vp_in_nI (by omega) (by decide)) d_Mod_box_98 ?_
          refine lv_topi (fun y_98 e_98 => ?_)
          obtain rfl : y_98 = zm_there k_19 := e_98.trans (by rw [nI_clamp (by omega)])
          obtain ⟨K_j124_99, hK_j124_99⟩ : ∃ K : Int32 → Option (Int32 × Int32), K = (fun (j_124_99 : Int32) => ((fun (j_159_132 : Int32) => (F_boxM_L19 K_19 zm_there zm_xs zm_ys n_19 (k_19 + 1) s0_58_33 s0_91_66 j_124_99 j_159_132)) (if (zm_there k_19) = 0 then (v4_19) else (if (zm_ys k_19) ≤ v4_19 then (v4_19) else (zm_ys k_19))))) := ⟨_, rfl⟩
          have J_124_99 : ∀ (s0_124_99 : Int32) (H : Heap) (locs : List Loc) (ls : Array Slot), some R = (K_j124_99 s0_124_99) → va_P (dC, dI) classes [(am, .inr (5, [.int 0, .ref am_there, .ref am_ones, .ref am_others, .ref am_xs, .ref am_ys, .int zm_many, .ref am_a, .ref am_b, .ref am_from, .ref am_to, .ref am_way, .ref am_depth, .ref am_above, .ref am_pile, .ref am_next, .ref am_leader, .ref am_turned, .ref am_piece, .ref am_numbers, .ref am_row])), (am_there, .inl (km_there, 10, .inl zm_there)), (am_xs, .inl (km_xs, 10, .inl zm_xs)), (am_ys, .inl (km_ys, 10, .inl zm_ys))] H → va_D A [(am, .inr (5, [.int 0, .ref am_there, .ref am_ones, .ref am_others, .ref am_xs, .ref am_ys, .int zm_many, .ref am_a, .ref am_b, .ref am_from, .ref am_to, .ref am_way, .ref am_depth, .ref am_above, .ref am_pile, .ref am_next, .ref am_leader, .ref am_turned, .ref am_piece, .ref am_numbers, .ref am_row])), (am_there, .inl (km_there, 10, .inl zm_there)), (am_xs, .inl (km_xs, 10, .inl zm_xs)), (am_ys, .inl (km_ys, 10, .inl zm_ys))] → va_S A s.heap H locs → lv_has ls 6 [(0, .ref am), (1, .int s0_58_33), (2, .int s0_91_66), (3, .int v3_19), (4, .int v4_19), (5, .int (nI k_19))] → W p l e (headSpec w_Mod_box ({ frames := 0, cells := 0, slots := 0, locals := 0 })).room s m args below meth c H locs 0 0 (MQ below (va_Qi (fun (r : Int32) (u : Int32) => (r, u) = R) (fun u t => End_ dC dI A [(km_there, .boolean), (km_xs, .int), (km_ys, .int)] [(am, .inr (5, [.int u, .ref am_there, .ref am_ones, .ref am_others, .ref am_xs, .ref am_ys, .int zm_many, .ref am_a, .ref am_b, .ref am_from, .ref am_to, .ref am_way, .ref am_depth, .ref am_above, .ref am_pile, .ref am_next, .ref am_leader, .ref am_turned, .ref am_piece, .ref am_numbers, .ref am_row])), (am_there, .inl (km_there, 10, .inl zm_there)), (am_xs, .inl (km_xs, 10, .inl zm_xs)), (am_ys, .inl (km_ys, 10, .inl zm_ys))] t) A) args s 0 0 A) (F0 m 124 ls [.int s0_124_99]) := by
            intro s0_124_99 H locs ls hI hP hD hS hl
            rw [hK_j124_99] at hI
            refine lv_istore_n (lv' := [(3, .int s0_124_99), (0, .ref am), (1, .int s0_58_33), (2, .int s0_91_66), (4, .int v4_19), (5, .int (nI k_19))]) hx hb d_Mod_box_124 rfl hl (by decide) rfl (fun ls hl => ?_)
            refine lv_aload_n hx hb d_Mod_box_125 rfl (lv_at hl 1 rfl) ?_
            refine va_get (D := (dC, dI)) (ci := 5) (v := .ref am_there) (C := R_Mod) (T := F_Mod) (N := 21) hx hb hts (fun w h => List.mem_cons_of_mem _ (in_Mod w h)) hown hK hP 0 rfl rfl 1 (by decide) (hts _ (List.mem_cons_of_mem _ mw_3_157)) (fun _ h9 => h9) rfl d_Mod_box_126 ?_
            refine lv_iload hx hb d_Mod_box_129 (lv_at hl 5 rfl) ?_
            refine va_zald (D := (dC, dI)) hx hb hK hP 1 0 rfl rfl (vp_in_nI (by omega) (by decide)) d_Mod_box_131 ?_
            refine lv_topi (fun y_131 e_131 => ?_)
            obtain rfl : y_131 = zm_there k_19 := e_131.trans (by rw [nI_clamp (by omega)])
            obtain ⟨K_j159_132, hK_j159_132⟩ : ∃ K : Int32 → Option (Int32 × Int32), K = (fun (j_159_132 : Int32) => (F_boxM_L19 K_19 zm_there zm_xs zm_ys n_19 (k_19 + 1) s0_58_33 s0_91_66 s0_124_99 j_159_132)) := ⟨_, rfl⟩
            have J_159_132 : ∀ (s0_159_132 : Int32) (H : Heap) (locs : List Loc) (ls : Array Slot), some R = (K_j159_132 s0_159_132) → va_P (dC, dI) classes [(am, .inr (5, [.int 0, .ref am_there, .ref am_ones, .ref am_others, .ref am_xs, .ref am_ys, .int zm_many, .ref am_a, .ref am_b, .ref am_from, .ref am_to, .ref am_way, .ref am_depth, .ref am_above, .ref am_pile, .ref am_next, .ref am_leader, .ref am_turned, .ref am_piece, .ref am_numbers, .ref am_row])), (am_there, .inl (km_there, 10, .inl zm_there)), (am_xs, .inl (km_xs, 10, .inl zm_xs)), (am_ys, .inl (km_ys, 10, .inl zm_ys))] H → va_D A [(am, .inr (5, [.int 0, .ref am_there, .ref am_ones, .ref am_others, .ref am_xs, .ref am_ys, .int zm_many, .ref am_a, .ref am_b, .ref am_from, .ref am_to, .ref am_way, .ref am_depth, .ref am_above, .ref am_pile, .ref am_next, .ref am_leader, .ref am_turned, .ref am_piece, .ref am_numbers, .ref am_row])), (am_there, .inl (km_there, 10, .inl zm_there)), (am_xs, .inl (km_xs, 10, .inl zm_xs)), (am_ys, .inl (km_ys, 10, .inl zm_ys))] → va_S A s.heap H locs → lv_has ls 6 [(0, .ref am), (1, .int s0_58_33), (2, .int s0_91_66), (3, .int s0_124_99), (4, .int v4_19), (5, .int (nI k_19))] → W p l e (headSpec w_Mod_box ({ frames := 0, cells := 0, slots := 0, locals := 0 })).room s m args below meth c H locs 0 0 (MQ below (va_Qi (fun (r : Int32) (u : Int32) => (r, u) = R) (fun u t => End_ dC dI A [(km_there, .boolean), (km_xs, .int), (km_ys, .int)] [(am, .inr (5, [.int u, .ref am_there, .ref am_ones, .ref am_others, .ref am_xs, .ref am_ys, .int zm_many, .ref am_a, .ref am_b, .ref am_from, .ref am_to, .ref am_way, .ref am_depth, .ref am_above, .ref am_pile, .ref am_next, .ref am_leader, .ref am_turned, .ref am_piece, .ref am_numbers, .ref am_row])), (am_there, .inl (km_there, 10, .inl zm_there)), (am_xs, .inl (km_xs, 10, .inl zm_xs)), (am_ys, .inl (km_ys, 10, .inl zm_ys))] t) A) args s 0 0 A) (F0 m 159 ls [.int s0_159_132]) := by
              intro s0_159_132 H locs ls hI hP hD hS hl
              rw [hK_j159_132] at hI
              refine lv_istore (lv' := [(4, .int s0_159_132), (0, .ref am), (1, .int s0_58_33), (2, .int s0_91_66), (3, .int s0_124_99), (5, .int (nI k_19))]) hx hb d_Mod_box_159 hl (by decide) rfl (fun ls hl => ?_)
              refine lv_iinc (lv' := [(5, .int (nI (k_19 + 1))), (4, .int s0_159_132), (0, .ref am), (1, .int s0_58_33), (2, .int s0_91_66), (3, .int s0_124_99)]) (k := 5) hx hb d_Mod_box_161 hl rfl (z_inc _) (by decide) rfl (fun ls hl => ?_)
              refine lv_goto (tgt := 19) hx hb d_Mod_box_164 rfl ?_
              have hl := lv_sub hl [2, 3, 4, 5, 1, 0] rfl
              exact ih_19 _ _ _ _ _ _ _ _ (by omega) hI hP hD hS hl
            have hI : some R = (K_j159_132 (if (zm_there k_19) = 0 then (v4_19) else (if (zm_ys k_19) ≤ v4_19 then (v4_19) else (zm_ys k_19)))) := by rw [hK_j159_132]; exact hI
            refine lv_if_eq (tgt := 157) hx hb d_Mod_box_132 rfl (fun hc_132 => ?_) (fun hc_132 => ?_)
            · skip
              have hI := ob_ifC (C := fun y_ => K_j159_132 y_) hc_132 hI
              refine lv_iload hx hb d_Mod_box_157 (lv_at hl 4 rfl) ?_
              have hl := lv_sub hl [1, 2, 3, 0, 4, 5] rfl
              exact J_159_132 _ _ _ _ hI hP hD hS hl
            · skip
              have hI := ob_elC (C := fun y_ => K_j159_132 y_) hc_132 hI
              refine lv_aload_n hx hb d_Mod_box_135 rfl (lv_at hl 1 rfl) ?_
              refine va_get (D := (dC, dI)) (ci := 5) (v := .ref am_ys) (C := R_Mod) (T := F_Mod) (N := 21) hx hb hts (fun w h => List.mem_cons_of_mem _ (in_Mod w h)) hown hK hP 0 rfl rfl 5 (by decide) (hts _ (List.mem_cons_of_mem _ mw_3_161)) (fun _ h9 => h9) rfl d_Mod_box_136 ?_
              refine lv_iload hx hb d_Mod_box_139 (lv_at hl 5 rfl) ?_
              refine va_iald (D := (dC, dI)) hx hb hK hP 3 2 rfl rfl (vp_in_nI (by omega) (by decide)) d_Mod_box_141 ?_
              refine lv_topi (fun y_141 e_141 => ?_)
              obtain rfl : y_141 = zm_ys k_19 := e_141.trans (by rw [nI_clamp (by omega)])
              refine lv_iload hx hb d_Mod_box_142 (lv_at hl 4 rfl) ?_
              refine lv_icmp_le (tgt := 157) hx hb d_Mod_box_144 rfl (fun hc_144 => ?_) (fun hc_144 => ?_)
              · skip
                have hI := ob_ifC (C := fun y_ => K_j159_132 y_) hc_144 hI
                refine lv_iload hx hb d_Mod_box_157 (lv_at hl 4 rfl) ?_
                have hl := lv_sub hl [1, 2, 3, 0, 4, 5] rfl
                exact J_159_132 _ _ _ _ hI hP hD hS hl
              · skip
                have hI := ob_elC (C := fun y_ => K_j159_132 y_) hc_144 hI
                refine lv_aload_n hx hb d_Mod_box_147 rfl (lv_at hl 1 rfl) ?_
                refine va_get (D := (dC, dI)) (ci := 5) (v := .ref am_ys) (C := R_Mod) (T := F_Mod) (N := 21) hx hb hts (fun w h => List.mem_cons_of_mem _ (in_Mod w h)) hown hK hP 0 rfl rfl 5 (by decide) (hts _ (List.mem_cons_of_mem _ mw_3_161)) (fun _ h9 => h9) rfl d_Mod_box_148 ?_
                refine lv_iload hx hb d_Mod_box_151 (lv_at hl 5 rfl) ?_
                refine va_iald (D := (dC, dI)) hx hb hK hP 3 2 rfl rfl (vp_in_nI (by omega) (by decide)) d_Mod_box_153 ?_
                refine lv_topi (fun y_153 e_153 => ?_)
                obtain rfl : y_153 = zm_ys k_19 := e_153.trans (by rw [nI_clamp (by omega)])
                refine lv_goto (tgt := 159) hx hb d_Mod_box_154 rfl ?_
                have hl := lv_sub hl [1, 2, 3, 0, 4, 5] rfl
                exact J_159_132 _ _ _ _ hI hP hD hS hl
          have hI : some R = (K_j124_99 (if (zm_there k_19) = 0 then (v3_19) else (if v3_19 ≤ (zm_ys k_19) then (v3_19) else (zm_ys k_19)))) := by rw [hK_j124_99]; exact hI
          refine lv_if_eq (tgt := 123) hx hb d_Mod_box_99 rfl (fun hc_99 => ?_) (fun hc_99 => ?_)
          · skip
            have hI := ob_ifC (C := fun y_ => K_j124_99 y_) hc_99 hI
            refine lv_iload_n hx hb d_Mod_box_123 rfl (lv_at hl 3 rfl) ?_
            have hl := lv_sub hl [1, 2, 0, 3, 4, 5] rfl
            exact J_124_99 _ _ _ _ hI hP hD hS hl
          · skip
            have hI := ob_elC (C := fun y_ => K_j124_99 y_) hc_99 hI
            refine lv_aload_n hx hb d_Mod_box_102 rfl (lv_at hl 1 rfl) ?_
            refine va_get (D := (dC, dI)) (ci := 5) (v := .ref am_ys) (C := R_Mod) (T := F_Mod) (N := 21) hx hb hts (fun w h => List.mem_cons_of_mem _ (in_Mod w h)) hown hK hP 0 rfl rfl 5 (by decide) (hts _ (List.mem_cons_of_mem _ mw_3_161)) (fun _ h9 => h9) rfl d_Mod_box_103 ?_
            refine lv_iload hx hb d_Mod_box_106 (lv_at hl 5 rfl) ?_
            refine va_iald (D := (dC, dI)) hx hb hK hP 3 2 rfl rfl (vp_in_nI (by omega) (by decide)) d_Mod_box_108 ?_
            refine lv_topi (fun y_108 e_108 => ?_)
            obtain rfl : y_108 = zm_ys k_19 := e_108.trans (by rw [nI_clamp (by omega)])
            refine lv_iload_n hx hb d_Mod_box_109 rfl (lv_at hl 3 rfl) ?_
            refine lv_icmp_ge (tgt := 123) hx hb d_Mod_box_110 rfl (fun hc_110 => ?_) (fun hc_110 => ?_)
            · skip
              have hI := ob_ifC (C := fun y_ => K_j124_99 y_) hc_110 hI
              refine lv_iload_n hx hb d_Mod_box_123 rfl (lv_at hl 3 rfl) ?_
              have hl := lv_sub hl [1, 2, 0, 3, 4, 5] rfl
              exact J_124_99 _ _ _ _ hI hP hD hS hl
            · skip
              have hI := ob_elC (C := fun y_ => K_j124_99 y_) hc_110 hI
              refine lv_aload_n hx hb d_Mod_box_113 rfl (lv_at hl 1 rfl) ?_
              refine va_get (D := (dC, dI)) (ci := 5) (v := .ref am_ys) (C := R_Mod) (T := F_Mod) (N := 21) hx hb hts (fun w h => List.mem_cons_of_mem _ (in_Mod w h)) hown hK hP 0 rfl rfl 5 (by decide) (hts _ (List.mem_cons_of_mem _ mw_3_161)) (fun _ h9 => h9) rfl d_Mod_box_114 ?_
              refine lv_iload hx hb d_Mod_box_117 (lv_at hl 5 rfl) ?_
              refine va_iald (D := (dC, dI)) hx hb hK hP 3 2 rfl rfl (vp_in_nI (by omega) (by decide)) d_Mod_box_119 ?_
              refine lv_topi (fun y_119 e_119 => ?_)
              obtain rfl : y_119 = zm_ys k_19 := e_119.trans (by rw [nI_clamp (by omega)])
              refine lv_goto (tgt := 124) hx hb d_Mod_box_120 rfl ?_
              have hl := lv_sub hl [1, 2, 0, 3, 4, 5] rfl
              exact J_124_99 _ _ _ _ hI hP hD hS hl
        have hI : some R = (K_j91_66 (if (zm_there k_19) = 0 then (v2_19) else (if (zm_xs k_19) ≤ v2_19 then (v2_19) else (zm_xs k_19)))) := by rw [hK_j91_66]; exact hI
        refine lv_if_eq (tgt := 90) hx hb d_Mod_box_66 rfl (fun hc_66 => ?_) (fun hc_66 => ?_)
        · skip
          have hI := ob_ifC (C := fun y_ => K_j91_66 y_) hc_66 hI
          refine lv_iload_n hx hb d_Mod_box_90 rfl (lv_at hl 2 rfl) ?_
          have hl := lv_sub hl [1, 0, 2, 3, 4, 5] rfl
          exact J_91_66 _ _ _ _ hI hP hD hS hl
        · skip
          have hI := ob_elC (C := fun y_ => K_j91_66 y_) hc_66 hI
          refine lv_aload_n hx hb d_Mod_box_69 rfl (lv_at hl 1 rfl) ?_
          refine va_get (D := (dC, dI)) (ci := 5) (v := .ref am_xs) (C := R_Mod) (T := F_Mod) (N := 21) hx hb hts (fun w h => List.mem_cons_of_mem _ (in_Mod w h)) hown hK hP 0 rfl rfl 4 (by decide) (hts _ (List.mem_cons_of_mem _ mw_3_160)) (fun _ h9 => h9) rfl d_Mod_box_70 ?_
          refine lv_iload hx hb d_Mod_box_73 (lv_at hl 5 rfl) ?_
          refine va_iald (D := (dC, dI)) hx hb hK hP 2 1 rfl rfl (vp_in_nI (by omega) (by decide)) d_Mod_box_75 ?_
          refine lv_topi (fun y_75 e_75 => ?_)
          obtain rfl : y_75 = zm_xs k_19 := e_75.trans (by rw [nI_clamp (by omega)])
          refine lv_iload_n hx hb d_Mod_box_76 rfl (lv_at hl 2 rfl) ?_
          refine lv_icmp_le (tgt := 90) hx hb d_Mod_box_77 rfl (fun hc_77 => ?_) (fun hc_77 => ?_)
          · skip
            have hI := ob_ifC (C := fun y_ => K_j91_66 y_) hc_77 hI
            refine lv_iload_n hx hb d_Mod_box_90 rfl (lv_at hl 2 rfl) ?_
            have hl := lv_sub hl [1, 0, 2, 3, 4, 5] rfl
            exact J_91_66 _ _ _ _ hI hP hD hS hl
          · skip
            have hI := ob_elC (C := fun y_ => K_j91_66 y_) hc_77 hI
            refine lv_aload_n hx hb d_Mod_box_80 rfl (lv_at hl 1 rfl) ?_
            refine va_get (D := (dC, dI)) (ci := 5) (v := .ref am_xs) (C := R_Mod) (T := F_Mod) (N := 21) hx hb hts (fun w h => List.mem_cons_of_mem _ (in_Mod w h)) hown hK hP 0 rfl rfl 4 (by decide) (hts _ (List.mem_cons_of_mem _ mw_3_160)) (fun _ h9 => h9) rfl d_Mod_box_81 ?_
            refine lv_iload hx hb d_Mod_box_84 (lv_at hl 5 rfl) ?_
            refine va_iald (D := (dC, dI)) hx hb hK hP 2 1 rfl rfl (vp_in_nI (by omega) (by decide)) d_Mod_box_86 ?_
            refine lv_topi (fun y_86 e_86 => ?_)
            obtain rfl : y_86 = zm_xs k_19 := e_86.trans (by rw [nI_clamp (by omega)])
            refine lv_goto (tgt := 91) hx hb d_Mod_box_87 rfl ?_
            have hl := lv_sub hl [1, 0, 2, 3, 4, 5] rfl
            exact J_91_66 _ _ _ _ hI hP hD hS hl
      have hI : some R = (K_j58_33 (if (zm_there k_19) = 0 then (v1_19) else (if v1_19 ≤ (zm_xs k_19) then (v1_19) else (zm_xs k_19)))) := by rw [hK_j58_33]; exact hI
      refine lv_if_eq (tgt := 57) hx hb d_Mod_box_33 rfl (fun hc_33 => ?_) (fun hc_33 => ?_)
      · skip
        have hI := ob_ifC (C := fun y_ => K_j58_33 y_) hc_33 hI
        refine lv_iload_n hx hb d_Mod_box_57 rfl (lv_at hl 1 rfl) ?_
        have hl := lv_sub hl [0, 1, 2, 3, 4, 5] rfl
        exact J_58_33 _ _ _ _ hI hP hD hS hl
      · skip
        have hI := ob_elC (C := fun y_ => K_j58_33 y_) hc_33 hI
        refine lv_aload_n hx hb d_Mod_box_36 rfl (lv_at hl 0 rfl) ?_
        refine va_get (D := (dC, dI)) (ci := 5) (v := .ref am_xs) (C := R_Mod) (T := F_Mod) (N := 21) hx hb hts (fun w h => List.mem_cons_of_mem _ (in_Mod w h)) hown hK hP 0 rfl rfl 4 (by decide) (hts _ (List.mem_cons_of_mem _ mw_3_160)) (fun _ h9 => h9) rfl d_Mod_box_37 ?_
        refine lv_iload hx hb d_Mod_box_40 (lv_at hl 5 rfl) ?_
        refine va_iald (D := (dC, dI)) hx hb hK hP 2 1 rfl rfl (vp_in_nI (by omega) (by decide)) d_Mod_box_42 ?_
        refine lv_topi (fun y_42 e_42 => ?_)
        obtain rfl : y_42 = zm_xs k_19 := e_42.trans (by rw [nI_clamp (by omega)])
        refine lv_iload_n hx hb d_Mod_box_43 rfl (lv_at hl 1 rfl) ?_
        refine lv_icmp_ge (tgt := 57) hx hb d_Mod_box_44 rfl (fun hc_44 => ?_) (fun hc_44 => ?_)
        · skip
          have hI := ob_ifC (C := fun y_ => K_j58_33 y_) hc_44 hI
          refine lv_iload_n hx hb d_Mod_box_57 rfl (lv_at hl 1 rfl) ?_
          have hl := lv_sub hl [0, 1, 2, 3, 4, 5] rfl
          exact J_58_33 _ _ _ _ hI hP hD hS hl
        · skip
          have hI := ob_elC (C := fun y_ => K_j58_33 y_) hc_44 hI
          refine lv_aload_n hx hb d_Mod_box_47 rfl (lv_at hl 0 rfl) ?_
          refine va_get (D := (dC, dI)) (ci := 5) (v := .ref am_xs) (C := R_Mod) (T := F_Mod) (N := 21) hx hb hts (fun w h => List.mem_cons_of_mem _ (in_Mod w h)) hown hK hP 0 rfl rfl 4 (by decide) (hts _ (List.mem_cons_of_mem _ mw_3_160)) (fun _ h9 => h9) rfl d_Mod_box_48 ?_
          refine lv_iload hx hb d_Mod_box_51 (lv_at hl 5 rfl) ?_
          refine va_iald (D := (dC, dI)) hx hb hK hP 2 1 rfl rfl (vp_in_nI (by omega) (by decide)) d_Mod_box_53 ?_
          refine lv_topi (fun y_53 e_53 => ?_)
          obtain rfl : y_53 = zm_xs k_19 := e_53.trans (by rw [nI_clamp (by omega)])
          refine lv_goto (tgt := 58) hx hb d_Mod_box_54 rfl ?_
          have hl := lv_sub hl [0, 1, 2, 3, 4, 5] rfl
          exact J_58_33 _ _ _ _ hI hP hD hS hl
  have hl : lv_has ls 6 [(0, .ref am), (1, .int 31), (2, .int ((-1))), (3, .int 31), (4, .int ((-1))), (5, .int (nI 0))] := by first | exact lv_sub hl [5, 4, 3, 2, 1, 0] rfl | (rw [nI_succ]; exact lv_sub hl [5, 4, 3, 2, 1, 0] rfl)
  exact L_19 10 0 _ _ _ _ _ _ _ (by omega) (by rw [hK_19]; exact hI) hP hD hS hl
