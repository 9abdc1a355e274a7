set_option maxHeartbeats 4000000 in
set_option maxRecDepth 100000 in
theorem c_clearG (l : Launch) (dC : Nat → ClassId) (dI : Nat → Nat → Nat) (sz : Nat) (aw aw_near : Nat) (kw_near : ClassId) (zw_near : Nat → Int32) (R : (Nat → Int32)) (hR : F_clearG zw_near = some R) : Met l y_Web_clear w_Web_clear ({ frames := 1, cells := 0, slots := 0, locals := 23 }) (Pre_ dC dI sz [.ref aw] [(aw, .inr (1, [.ref aw_near])), (aw_near, .inl (kw_near, 11, .inl zw_near))] [(kw_near, .int)]) (va_Qv (fun (u : (Nat → Int32)) => u = R) (fun u t => End_ dC dI (va_A [(aw, .inr (1, [.ref aw_near])), (aw_near, .inl (kw_near, 11, .inl zw_near))] sz) [(kw_near, .int)] [(aw, .inr (1, [.ref aw_near])), (aw_near, .inl (kw_near, 11, .inl u))] t) (va_A [(aw, .inr (1, [.ref aw_near])), (aw_near, .inl (kw_near, 11, .inl zw_near))] sz)) 0 0 (va_A [(aw, .inr (1, [.ref aw_near])), (aw_near, .inl (kw_near, 11, .inl zw_near))] sz) := by
  refine Met.ofW (cc := b_Web_clear) (maxL := 1) (ret := none) (by decide) rfl ?_
  intro p e s m args below meth c s₁ B hml hv
  obtain ⟨hargs, hsz, hP, hK, hD0, hN⟩ := hv
  have hx := B.exec
  have hb := B.bytes
  have hr := B.returns
  have hts := atoms_spec (ws := w_Web_clear) B.pre
  have hown : s.vm.findClass R_Web = some m.cls := findClass_of_methodNamed B.named
  have hlocks := B.notSynchronized
  subst hsz
  have hD := hD0.self (sz := s.heap.size)
  generalize hAe : va_A [(aw, .inr (1, [.ref aw_near])), (aw_near, .inl (kw_near, 11, .inl zw_near))] s.heap.size = A at hD ⊢
  have hA : ∀ q : Nat, s.heap.size ≤ q → A q := fun q h => by rw [← hAe]; exact Or.inr h
  have hS : va_S A s.heap s.heap [] := va_S.rf
  have hl := lv_entry ([.ref aw]) (n := 1) (Nat.le_of_ble_eq_true rfl)
  refine W.eq (congrArg (fun a => entryFrame m a 1) hargs) ?_
  rw [lg_entry_eq]
  generalize (lg_sl ([.ref aw]) ++ List.replicate (1 - (lg_sl ([.ref aw])).length) Slot.unset).toArray = ls at hl ⊢
  have hl : lv_has ls 1 [(0, .ref aw)] := hl
  generalize hH0 : ([] : List Loc) = locs at hS ⊢
  have hI := hR.symm
  rw [F_clearG] at hI
  refine lv_aload_n hx hb d_Web_clear_0 rfl (lv_at hl 0 rfl) ?_
  refine va_get (D := (dC, dI)) (ci := 1) (v := .ref aw_near) (C := R_Web) (T := F_Web) (N := 1) hx hb hts (fun w h => List.mem_cons_of_mem _ (in_Web w h)) hown hK hP 0 rfl rfl 0 (by decide) (hts _ (List.mem_cons_of_mem _ mw_1_31)) (fun _ h9 => h9) rfl d_Web_clear_1 ?_
  refine lv_iconst (v := 0) hx hb d_Web_clear_4 (by decide) ?_
  have hPc := hP.sub (ws' := [(aw_near, .inl (kw_near, 11, .inl zw_near))]) [1] rfl
  have hDc := hD.sub (ws' := [(aw_near, .inl (kw_near, 11, .inl zw_near))]) [1] (by decide) rfl
  have hKc := hK.sub (tys' := [(kw_near, .int)]) [0] rfl
  have hFc := va_free (wc := [(aw_near, .inl (kw_near, 11, .inl zw_near))]) hD hS hA [1] rfl
  refine va_callv (va_runS (As := [.ref aw_near, .int 0]) (rest := []) ⟨hx, hb, hml, hown, hts⟩ (c_fillP l dC dI s.heap.size aw_near kw_near zw_near 0) (va_cwS 2 hts (gi3 mw_1_145 mw_1_146 mw_1_16 mw_1_147) rfl rfl rfl (by decide +kernel) ⟨Nat.le_of_ble_eq_true rfl, Nat.le_of_ble_eq_true rfl⟩) ⟨fb_, pre_ hPc hKc hDc hN⟩ rfl rfl hl.1 rfl (lv_room (Nat.le_of_ble_eq_true rfl)) d_Web_clear_5 ⟨Nat.le_of_ble_eq_true rfl, Nat.le_of_ble_eq_true rfl⟩) hS (fun q _ h => hFc q h) hFc (fun ww_near_5 t H locs ht hvm hp_5 hB hz1 hk1 hS => ?_)
  obtain ⟨hP1, -, hD1⟩ := hB
  rw [ht] at hP1
  obtain ⟨hP, hD⟩ := va_join (wr := [(aw, .inr (1, [.ref aw_near]))]) (w1 := [(aw_near, .inl (kw_near, 11, .inl ww_near_5))]) hP hD [1] [0] rfl rfl (by decide) (by decide) hk1 hFc hP1 hD1
  have hp_5 : ww_near_5 = f_fill 11 ((0 : Int32)) zw_near := hp_5
  subst hp_5
  have hP : va_P (dC, dI) classes [(aw, .inr (1, [.ref aw_near])), (aw_near, .inl (kw_near, 11, .inl (f_fill 11 ((0 : Int32)) zw_near)))] H := hP
  have hD : va_D A [(aw, .inr (1, [.ref aw_near])), (aw_near, .inl (kw_near, 11, .inl (f_fill 11 ((0 : Int32)) zw_near)))] := hD
  exact W.vret hx hb hr (fun t ht hW => ⟨⟨(f_fill 11 ((0 : Int32)) zw_near), rfl, (Option.some.inj hI).symm, by rw [ht]; exact hP, va_K.moved hW.alike hK, hD⟩, hS.F ht⟩) hS.2.2 d_Web_clear_8
set_option maxHeartbeats 4000000 in
set_option maxRecDepth 100000 in
theorem c_joinG (l : Launch) (dC : Nat → ClassId) (dI : Nat → Nat → Nat) (sz : Nat) (aw aw_near : Nat) (kw_near : ClassId) (zw_near : Nat → Int32) (v1 v2 : Int32) (R : (Nat → Int32)) (hR : F_joinG zw_near v1 v2 = some R) : Met l y_Web_join w_Web_join ({ frames := 0, cells := 0, slots := 0, locals := 0 }) (Pre_ dC dI sz [.ref aw, .int v1, .int v2] [(aw, .inr (1, [.ref aw_near])), (aw_near, .inl (kw_near, 11, .inl zw_near))] [(kw_near, .int)]) (va_Qv (fun (u : (Nat → Int32)) => u = R) (fun u t => End_ dC dI (va_A [(aw, .inr (1, [.ref aw_near])), (aw_near, .inl (kw_near, 11, .inl zw_near))] sz) [(kw_near, .int)] [(aw, .inr (1, [.ref aw_near])), (aw_near, .inl (kw_near, 11, .inl u))] t) (va_A [(aw, .inr (1, [.ref aw_near])), (aw_near, .inl (kw_near, 11, .inl zw_near))] sz)) 0 0 (va_A [(aw, .inr (1, [.ref aw_near])), (aw_near, .inl (kw_near, 11, .inl zw_near))] sz) := by
  refine Met.ofW (cc := b_Web_join) (maxL := 3) (ret := none) (by decide) rfl ?_
  intro p e s m args below meth c s₁ B hml hv
  obtain ⟨hargs, hsz, hP, hK, hD0, hN⟩ := hv
  have hx := B.exec
  have hb := B.bytes
  have hr := B.returns
  have hts := atoms_spec (ws := w_Web_join) B.pre
  have hown : s.vm.findClass R_Web = some m.cls := findClass_of_methodNamed B.named
  have hlocks := B.notSynchronized
  subst hsz
  have hD := hD0.self (sz := s.heap.size)
  generalize hAe : va_A [(aw, .inr (1, [.ref aw_near])), (aw_near, .inl (kw_near, 11, .inl zw_near))] s.heap.size = A at hD ⊢
  have hA : ∀ q : Nat, s.heap.size ≤ q → A q := fun q h => by rw [← hAe]; exact Or.inr h
  have hS : va_S A s.heap s.heap [] := va_S.rf
  have hl := lv_entry ([.ref aw, .int v1, .int v2]) (n := 3) (Nat.le_of_ble_eq_true rfl)
  refine W.eq (congrArg (fun a => entryFrame m a 3) hargs) ?_
  rw [lg_entry_eq]
  generalize (lg_sl ([.ref aw, .int v1, .int v2]) ++ List.replicate (3 - (lg_sl ([.ref aw, .int v1, .int v2])).length) Slot.unset).toArray = ls at hl ⊢
  have hl : lv_has ls 3 [(0, .ref aw), (1, .int v1), (2, .int v2)] := hl
  generalize hH0 : ([] : List Loc) = locs at hS ⊢
  have hI := hR.symm
  rw [F_joinG] at hI
  refine lv_aload_n hx hb d_Web_join_0 rfl (lv_at hl 0 rfl) ?_
  refine va_get (D := (dC, dI)) (ci := 1) (v := .ref aw_near) (C := R_Web) (T := F_Web) (N := 1) hx hb hts (fun w h => List.mem_cons_of_mem _ (in_Web w h)) hown hK hP 0 rfl rfl 0 (by decide) (hts _ (List.mem_cons_of_mem _ mw_1_31)) (fun _ h9 => h9) rfl d_Web_join_1 ?_
  refine lv_iload_n hx hb d_Web_join_4 rfl (lv_at hl 1 rfl) ?_
  refine lv_dup2_11 hx hb d_Web_join_5 rfl rfl ?_
  have hi_6 := ob_in hI
  have hI := ob_th hI
  refine va_iald (D := (dC, dI)) hx hb hK hP 1 0 rfl rfl hi_6 d_Web_join_6 ?_
  refine lv_iconst (v := 1) hx hb d_Web_join_7 (by decide) ?_
  refine lv_iload_n hx hb d_Web_join_8 rfl (lv_at hl 2 rfl) ?_
  refine lv_ishl hx hb d_Web_join_9 ?_
  refine lv_ior hx hb d_Web_join_10 ?_
  refine va_iast (D := (dC, dI)) hx hb hK hP hD hS 1 0 rfl rfl hi_6 d_Web_join_11 (fun H locs hP hD hS => ?_)
  have hP : va_P (dC, dI) classes [(aw, .inr (1, [.ref aw_near])), (aw_near, .inl (kw_near, 11, .inl (upd zw_near (Int32.toNatClampNeg v1) ((zw_near (Int32.toNatClampNeg v1)) ||| (((1 : Int32)) <<< (v2 &&& 31))))))] H := hP
  have hD : va_D A [(aw, .inr (1, [.ref aw_near])), (aw_near, .inl (kw_near, 11, .inl (upd zw_near (Int32.toNatClampNeg v1) ((zw_near (Int32.toNatClampNeg v1)) ||| (((1 : Int32)) <<< (v2 &&& 31))))))] := hD
  refine lv_aload_n hx hb d_Web_join_12 rfl (lv_at hl 0 rfl) ?_
  refine va_get (D := (dC, dI)) (ci := 1) (v := .ref aw_near) (C := R_Web) (T := F_Web) (N := 1) hx hb hts (fun w h => List.mem_cons_of_mem _ (in_Web w h)) hown hK hP 0 rfl rfl 0 (by decide) (hts _ (List.mem_cons_of_mem _ mw_1_31)) (fun _ h9 => h9) rfl d_Web_join_13 ?_
  refine lv_iload_n hx hb d_Web_join_16 rfl (lv_at hl 2 rfl) ?_
  refine lv_dup2_11 hx hb d_Web_join_17 rfl rfl ?_
  have hi_18 := ob_in hI
  have hI := ob_th hI
  refine va_iald (D := (dC, dI)) hx hb hK hP 1 0 rfl rfl hi_18 d_Web_join_18 ?_
  refine lv_iconst (v := 1) hx hb d_Web_join_19 (by decide) ?_
  refine lv_iload_n hx hb d_Web_join_20 rfl (lv_at hl 1 rfl) ?_
  refine lv_ishl hx hb d_Web_join_21 ?_
  refine lv_ior hx hb d_Web_join_22 ?_
  refine va_iast (D := (dC, dI)) hx hb hK hP hD hS 1 0 rfl rfl hi_18 d_Web_join_23 (fun H locs hP hD hS => ?_)
  have hP : va_P (dC, dI) classes [(aw, .inr (1, [.ref aw_near])), (aw_near, .inl (kw_near, 11, .inl (upd (upd zw_near (Int32.toNatClampNeg v1) ((zw_near (Int32.toNatClampNeg v1)) ||| (((1 : Int32)) <<< (v2 &&& 31)))) (Int32.toNatClampNeg v2) (((upd zw_near (Int32.toNatClampNeg v1) ((zw_near (Int32.toNatClampNeg v1)) ||| (((1 : Int32)) <<< (v2 &&& 31)))) (Int32.toNatClampNeg v2)) ||| (((1 : Int32)) <<< (v1 &&& 31))))))] H := hP
  have hD : va_D A [(aw, .inr (1, [.ref aw_near])), (aw_near, .inl (kw_near, 11, .inl (upd (upd zw_near (Int32.toNatClampNeg v1) ((zw_near (Int32.toNatClampNeg v1)) ||| (((1 : Int32)) <<< (v2 &&& 31)))) (Int32.toNatClampNeg v2) (((upd zw_near (Int32.toNatClampNeg v1) ((zw_near (Int32.toNatClampNeg v1)) ||| (((1 : Int32)) <<< (v2 &&& 31)))) (Int32.toNatClampNeg v2)) ||| (((1 : Int32)) <<< (v1 &&& 31))))))] := hD
  exact W.vret hx hb hr (fun t ht hW => ⟨⟨(upd (upd zw_near (Int32.toNatClampNeg v1) ((zw_near (Int32.toNatClampNeg v1)) ||| (((1 : Int32)) <<< (v2 &&& 31)))) (Int32.toNatClampNeg v2) (((upd zw_near (Int32.toNatClampNeg v1) ((zw_near (Int32.toNatClampNeg v1)) ||| (((1 : Int32)) <<< (v2 &&& 31)))) (Int32.toNatClampNeg v2)) ||| (((1 : Int32)) <<< (v1 &&& 31)))), rfl, (Option.some.inj hI).symm, by rw [ht]; exact hP, va_K.moved hW.alike hK, hD⟩, hS.F ht⟩) hS.2.2 d_Web_join_24
set_option maxHeartbeats 4000000 in
set_option maxRecDepth 100000 in
theorem c_neighboursG (l : Launch) (dC : Nat → ClassId) (dI : Nat → Nat → Nat) (sz : Nat) (aw aw_near : Nat) (kw_near : ClassId) (zw_near : Nat → Int32) (v1 : Int32) (R : Int32) (hR : F_neighboursG zw_near v1 = some R) : Met l y_Web_neighbours w_Web_neighbours ({ frames := 0, cells := 0, slots := 0, locals := 0 }) (Pre_ dC dI sz [.ref aw, .int v1] [(aw, .inr (1, [.ref aw_near])), (aw_near, .inl (kw_near, 11, .inl zw_near))] [(kw_near, .int)]) (va_Qi (fun (r : Int32) (u : Unit) => r = R) (fun u t => End_ dC dI (va_A [(aw, .inr (1, [.ref aw_near])), (aw_near, .inl (kw_near, 11, .inl zw_near))] sz) [(kw_near, .int)] [(aw, .inr (1, [.ref aw_near])), (aw_near, .inl (kw_near, 11, .inl zw_near))] t) (va_A [(aw, .inr (1, [.ref aw_near])), (aw_near, .inl (kw_near, 11, .inl zw_near))] sz)) 0 0 (va_A [(aw, .inr (1, [.ref aw_near])), (aw_near, .inl (kw_near, 11, .inl zw_near))] sz) := by
  refine Met.ofW (cc := b_Web_neighbours) (maxL := 2) (ret := (some .int)) (by decide) rfl ?_
  intro p e s m args below meth c s₁ B hml hv
  obtain ⟨hargs, hsz, hP, hK, hD0, hN⟩ := hv
  have hx := B.exec
  have hb := B.bytes
  have hr := B.returns
  have hts := atoms_spec (ws := w_Web_neighbours) B.pre
  have hown : s.vm.findClass R_Web = some m.cls := findClass_of_methodNamed B.named
  have hlocks := B.notSynchronized
  subst hsz
  have hD := hD0.self (sz := s.heap.size)
  generalize hAe : va_A [(aw, .inr (1, [.ref aw_near])), (aw_near, .inl (kw_near, 11, .inl zw_near))] s.heap.size = A at hD ⊢
  have hA : ∀ q : Nat, s.heap.size ≤ q → A q := fun q h => by rw [← hAe]; exact Or.inr h
  have hS : va_S A s.heap s.heap [] := va_S.rf
  have hl := lv_entry ([.ref aw, .int v1]) (n := 2) (Nat.le_of_ble_eq_true rfl)
  refine W.eq (congrArg (fun a => entryFrame m a 2) hargs) ?_
  rw [lg_entry_eq]
  generalize (lg_sl ([.ref aw, .int v1]) ++ List.replicate (2 - (lg_sl ([.ref aw, .int v1])).length) Slot.unset).toArray = ls at hl ⊢
  have hl : lv_has ls 2 [(0, .ref aw), (1, .int v1)] := hl
  generalize hH0 : ([] : List Loc) = locs at hS ⊢
  have hI := hR.symm
  rw [F_neighboursG] at hI
  refine lv_aload_n hx hb d_Web_neighbours_0 rfl (lv_at hl 0 rfl) ?_
  refine va_get (D := (dC, dI)) (ci := 1) (v := .ref aw_near) (C := R_Web) (T := F_Web) (N := 1) hx hb hts (fun w h => List.mem_cons_of_mem _ (in_Web w h)) hown hK hP 0 rfl rfl 0 (by decide) (hts _ (List.mem_cons_of_mem _ mw_1_31)) (fun _ h9 => h9) rfl d_Web_neighbours_1 ?_
  refine lv_iload_n hx hb d_Web_neighbours_4 rfl (lv_at hl 1 rfl) ?_
  have hi_5 := ob_in hI
  have hI := ob_th hI
  refine va_iald (D := (dC, dI)) hx hb hK hP 1 0 rfl rfl hi_5 d_Web_neighbours_5 ?_
  exact W.iret (v := zw_near (Int32.toNatClampNeg v1)) hx hb hr (fun t ht hW => ⟨⟨zw_near (Int32.toNatClampNeg v1), (), rfl, (Option.some.inj hI).symm, by rw [ht]; exact hP, va_K.moved hW.alike hK, hD⟩, hS.F ht⟩) hS.2.2 d_Web_neighbours_6
set_option maxHeartbeats 4000000 in
set_option maxRecDepth 100000 in
theorem c_degreeG (l : Launch) (dC : Nat → ClassId) (dI : Nat → Nat → Nat) (sz : Nat) (aw aw_near : Nat) (kw_near : ClassId) (zw_near : Nat → Int32) (v1 : Int32) (R : Int32) (hR : F_degreeG zw_near v1 = some R) : Met l y_Web_degree w_Web_degree ({ frames := 1, cells := 0, slots := 0, locals := 20 }) (Pre_ dC dI sz [.ref aw, .int v1] [(aw, .inr (1, [.ref aw_near])), (aw_near, .inl (kw_near, 11, .inl zw_near))] [(kw_near, .int)]) (va_Qi (fun (r : Int32) (u : Unit) => r = R) (fun u t => End_ dC dI (va_A [(aw, .inr (1, [.ref aw_near])), (aw_near, .inl (kw_near, 11, .inl zw_near))] sz) [(kw_near, .int)] [(aw, .inr (1, [.ref aw_near])), (aw_near, .inl (kw_near, 11, .inl zw_near))] t) (va_A [(aw, .inr (1, [.ref aw_near])), (aw_near, .inl (kw_near, 11, .inl zw_near))] sz)) 0 0 (va_A [(aw, .inr (1, [.ref aw_near])), (aw_near, .inl (kw_near, 11, .inl zw_near))] sz) := by
  refine Met.ofW (cc := b_Web_degree) (maxL := 2) (ret := (some .int)) (by decide) rfl ?_
  intro p e s m args below meth c s₁ B hml hv
  obtain ⟨hargs, hsz, hP, hK, hD0, hN⟩ := hv
  have hx := B.exec
  have hb := B.bytes
  have hr := B.returns
  have hts := atoms_spec (ws := w_Web_degree) B.pre
  have hown : s.vm.findClass R_Web = some m.cls := findClass_of_methodNamed B.named
  have hlocks := B.notSynchronized
  subst hsz
  have hD := hD0.self (sz := s.heap.size)
  generalize hAe : va_A [(aw, .inr (1, [.ref aw_near])), (aw_near, .inl (kw_near, 11, .inl zw_near))] s.heap.size = A at hD ⊢
  have hA : ∀ q : Nat, s.heap.size ≤ q → A q := fun q h => by rw [← hAe]; exact Or.inr h
  have hS : va_S A s.heap s.heap [] := va_S.rf
  have hl := lv_entry ([.ref aw, .int v1]) (n := 2) (Nat.le_of_ble_eq_true rfl)
  refine W.eq (congrArg (fun a => entryFrame m a 2) hargs) ?_
  rw [lg_entry_eq]
  generalize (lg_sl ([.ref aw, .int v1]) ++ List.replicate (2 - (lg_sl ([.ref aw, .int v1])).length) Slot.unset).toArray = ls at hl ⊢
  have hl : lv_has ls 2 [(0, .ref aw), (1, .int v1)] := hl
  generalize hH0 : ([] : List Loc) = locs at hS ⊢
  have hI := hR.symm
  rw [F_degreeG] at hI
  refine lv_aload_n hx hb d_Web_degree_0 rfl (lv_at hl 0 rfl) ?_
  refine va_get (D := (dC, dI)) (ci := 1) (v := .ref aw_near) (C := R_Web) (T := F_Web) (N := 1) hx hb hts (fun w h => List.mem_cons_of_mem _ (in_Web w h)) hown hK hP 0 rfl rfl 0 (by decide) (hts _ (List.mem_cons_of_mem _ mw_1_31)) (fun _ h9 => h9) rfl d_Web_degree_1 ?_
  refine lv_iload_n hx hb d_Web_degree_4 rfl (lv_at hl 1 rfl) ?_
  have hi_5 := ob_in hI
  have hI := ob_th hI
  refine va_iald (D := (dC, dI)) hx hb hK hP 1 0 rfl rfl hi_5 d_Web_degree_5 ?_
  have hPc := hP.sub (ws' := []) [] rfl
  have hDc := hD.sub (ws' := []) [] (by decide) rfl
  have hKc := hK.sub (tys' := []) [] rfl
  have hFc := va_free (wc := []) hD hS hA [] rfl
  refine va_calli (va_runS (As := [.int (zw_near (Int32.toNatClampNeg v1))]) (rest := []) ⟨hx, hb, hml, hown, hts⟩ (c_bitCount l dC dI s.heap.size (zw_near (Int32.toNatClampNeg v1))) (va_cwS 1 hts (gi3 mw_1_163 mw_1_164 mw_1_12 mw_1_165) rfl rfl rfl (by decide +kernel) ⟨Nat.le_of_ble_eq_true rfl, Nat.le_of_ble_eq_true rfl⟩) ⟨fb_, pre_ hPc hKc hDc hN⟩ rfl rfl hl.1 rfl (lv_room (Nat.le_of_ble_eq_true rfl)) d_Web_degree_6 ⟨Nat.le_of_ble_eq_true rfl, Nat.le_of_ble_eq_true rfl⟩) hS (fun q _ h => hFc q h) hFc (fun r_6 u t H locs ht hvm hp_6 hB hz1 hk1 hS => ?_)
  obtain ⟨hP1, -, hD1⟩ := hB
  rw [ht] at hP1
  obtain ⟨hP, hD⟩ := va_join (wr := [(aw, .inr (1, [.ref aw_near])), (aw_near, .inl (kw_near, 11, .inl zw_near))]) (w1 := []) hP hD [] [0, 1] rfl rfl (by decide) (by decide) hk1 hFc hP1 hD1
  have hp_6 : r_6 = f_bc (zw_near (Int32.toNatClampNeg v1)) := hp_6
  subst hp_6
  have hP : va_P (dC, dI) classes [(aw, .inr (1, [.ref aw_near])), (aw_near, .inl (kw_near, 11, .inl zw_near))] H := hP
  have hD : va_D A [(aw, .inr (1, [.ref aw_near])), (aw_near, .inl (kw_near, 11, .inl zw_near))] := hD
  exact W.iret (v := f_bc (zw_near (Int32.toNatClampNeg v1))) hx hb hr (fun t ht hW => ⟨⟨f_bc (zw_near (Int32.toNatClampNeg v1)), (), rfl, (Option.some.inj hI).symm, by rw [ht]; exact hP, va_K.moved hW.alike hK, hD⟩, hS.F ht⟩) hS.2.2 d_Web_degree_9
set_option maxHeartbeats 4000000 in
set_option maxRecDepth 100000 in
theorem c_reachG (l : Launch) (dC : Nat → ClassId) (dI : Nat → Nat → Nat) (sz : Nat) (aw aw_near : Nat) (kw_near : ClassId) (zw_near : Nat → Int32) (v1 v2 : Int32) (R : Int32) (hR : F_reachG zw_near v1 v2 = some R) : Met l y_Web_reach w_Web_reach ({ frames := 1, cells := 0, slots := 0, locals := 21 }) (Pre_ dC dI sz [.ref aw, .int v1, .int v2] [(aw, .inr (1, [.ref aw_near])), (aw_near, .inl (kw_near, 11, .inl zw_near))] [(kw_near, .int)]) (va_Qi (fun (r : Int32) (u : Unit) => r = R) (fun u t => End_ dC dI (va_A [(aw, .inr (1, [.ref aw_near])), (aw_near, .inl (kw_near, 11, .inl zw_near))] sz) [(kw_near, .int)] [(aw, .inr (1, [.ref aw_near])), (aw_near, .inl (kw_near, 11, .inl zw_near))] t) (va_A [(aw, .inr (1, [.ref aw_near])), (aw_near, .inl (kw_near, 11, .inl zw_near))] sz)) 0 0 (va_A [(aw, .inr (1, [.ref aw_near])), (aw_near, .inl (kw_near, 11, .inl zw_near))] sz) := by
  refine Met.ofW (cc := b_Web_reach) (maxL := 8) (ret := (some .int)) (by decide) rfl ?_
  intro p e s m args below meth c s₁ B hml hv
  obtain ⟨hargs, hsz, hP, hK, hD0, hN⟩ := hv
  have hx := B.exec
  have hb := B.bytes
  have hr := B.returns
  have hts := atoms_spec (ws := w_Web_reach) B.pre
  have hown : s.vm.findClass R_Web = some m.cls := findClass_of_methodNamed B.named
  have hlocks := B.notSynchronized
  subst hsz
  have hD := hD0.self (sz := s.heap.size)
  generalize hAe : va_A [(aw, .inr (1, [.ref aw_near])), (aw_near, .inl (kw_near, 11, .inl zw_near))] s.heap.size = A at hD ⊢
  have hA : ∀ q : Nat, s.heap.size ≤ q → A q := fun q h => by rw [← hAe]; exact Or.inr h
  have hS : va_S A s.heap s.heap [] := va_S.rf
  have hl := lv_entry ([.ref aw, .int v1, .int v2]) (n := 8) (Nat.le_of_ble_eq_true rfl)
  refine W.eq (congrArg (fun a => entryFrame m a 8) hargs) ?_
  rw [lg_entry_eq]
  generalize (lg_sl ([.ref aw, .int v1, .int v2]) ++ List.replicate (8 - (lg_sl ([.ref aw, .int v1, .int v2])).length) Slot.unset).toArray = ls at hl ⊢
  have hl : lv_has ls 8 [(0, .ref aw), (1, .int v1), (2, .int v2)] := hl
  generalize hH0 : ([] : List Loc) = locs at hS ⊢
  have hI := hR.symm
  rw [F_reachG] at hI
  refine lv_iconst (v := 1) hx hb d_Web_reach_0 (by decide) ?_
  refine lv_iload_n hx hb d_Web_reach_1 rfl (lv_at hl 1 rfl) ?_
  refine lv_ishl hx hb d_Web_reach_2 ?_
  refine lv_istore_n (lv' := [(3, .int (((1 : Int32)) <<< (v1 &&& 31))), (0, .ref aw), (1, .int v1), (2, .int v2)]) hx hb d_Web_reach_3 rfl hl (by decide) rfl (fun ls hl => ?_)
  refine lv_iload_n hx hb d_Web_reach_4 rfl (lv_at hl 0 rfl) ?_
  refine lv_istore (lv' := [(4, .int (((1 : Int32)) <<< (v1 &&& 31))), (3, .int (((1 : Int32)) <<< (v1 &&& 31))), (0, .ref aw), (1, .int v1), (2, .int v2)]) hx hb d_Web_reach_5 hl (by decide) rfl (fun ls hl => ?_)
  refine lv_iconst (v := 0) hx hb d_Web_reach_7 (by decide) ?_
  refine lv_istore (lv' := [(5, .int 0), (4, .int (((1 : Int32)) <<< (v1 &&& 31))), (3, .int (((1 : Int32)) <<< (v1 &&& 31))), (0, .ref aw), (1, .int v1), (2, .int v2)]) hx hb d_Web_reach_8 hl (by decide) rfl (fun ls hl => ?_)
  obtain ⟨K_10, hK_10⟩ : ∃ K : Int32 → Int32 → Option (Int32), K = (fun v3_10 v4_10 => some (v3_10)) := ⟨_, rfl⟩
  have X_10 : ∀ (k_10 : Nat) (v3_10 : Int32) (v4_10 : Int32) (H : Heap) (locs : List Loc) (ls : Array Slot), some R = K_10 v3_10 v4_10 → va_P (dC, dI) classes [(aw, .inr (1, [.ref aw_near])), (aw_near, .inl (kw_near, 11, .inl zw_near))] H → va_D A [(aw, .inr (1, [.ref aw_near])), (aw_near, .inl (kw_near, 11, .inl zw_near))] → va_S A s.heap H locs → lv_has ls 8 [(0, .ref aw), (1, .int v1), (2, .int v2), (3, .int v3_10), (4, .int v4_10), (5, .int (nI k_10))] → W p l e (headSpec w_Web_reach ({ frames := 1, cells := 0, slots := 0, locals := 21 })).room s m args below meth c H locs 0 0 (MQ below (va_Qi (fun (r : Int32) (u : Unit) => r = R) (fun u t => End_ dC dI A [(kw_near, .int)] [(aw, .inr (1, [.ref aw_near])), (aw_near, .inl (kw_near, 11, .inl zw_near))] t) A) args s 0 0 A) (F0 m 88 ls []) := by
    intro k_10 v3_10 v4_10 H locs ls hI hP hD hS hl
    rw [hK_10] at hI
    refine lv_iload_n hx hb d_Web_reach_88 rfl (lv_at hl 3 rfl) ?_
    exact W.iret (v := v3_10) hx hb hr (fun t ht hW => ⟨⟨v3_10, (), rfl, (Option.some.inj hI).symm, by rw [ht]; exact hP, va_K.moved hW.alike hK, hD⟩, hS.F ht⟩) hS.2.2 d_Web_reach_89
  have L_10 : ∀ (n_10 k_10 : Nat) (v3_10 : Int32) (v4_10 : Int32) (H : Heap) (locs : List Loc) (ls : Array Slot), k_10 + n_10 = 11 → some R = F_reachG_L10 K_10 zw_near v2 n_10 k_10 v3_10 v4_10 → va_P (dC, dI) classes [(aw, .inr (1, [.ref aw_near])), (aw_near, .inl (kw_near, 11, .inl zw_near))] H → va_D A [(aw, .inr (1, [.ref aw_near])), (aw_near, .inl (kw_near, 11, .inl zw_near))] → va_S A s.heap H locs → lv_has ls 8 [(0, .ref aw), (1, .int v1), (2, .int v2), (3, .int v3_10), (4, .int v4_10), (5, .int (nI k_10))] → W p l e (headSpec w_Web_reach ({ frames := 1, cells := 0, slots := 0, locals := 21 })).room s m args below meth c H locs 0 0 (MQ below (va_Qi (fun (r : Int32) (u : Unit) => r = R) (fun u t => End_ dC dI A [(kw_near, .int)] [(aw, .inr (1, [.ref aw_near])), (aw_near, .inl (kw_near, 11, .inl zw_near))] t) A) args s 0 0 A) (F0 m 10 ls []) := by
    intro n_10
    induction n_10 with
    | zero =>
      intro k_10 v3_10 v4_10 H locs ls hkn_10 hI hP hD hS hl
      rw [F_reachG_L10] at hI
      refine lv_iload hx hb d_Web_reach_10 (lv_at hl 5 rfl) ?_
      refine lv_bipush (v := 11) hx hb d_Web_reach_12 (by decide) ?_
      refine lv_icmp_ge (tgt := 88) hx hb d_Web_reach_14 rfl (fun hc_14 => ?_) (fun hc_14 => absurd (z_exit rfl hkn_10) hc_14)
      have hl := lv_sub hl [0, 1, 2, 3, 4, 5] rfl
      exact X_10 _ _ _ _ _ _ hI hP hD hS hl
    | succ n_10 ih_10 =>
      intro k_10 v3_10 v4_10 H locs ls hkn_10 hI hP hD hS hl
      rw [F_reachG_L10] at hI
      refine lv_iload hx hb d_Web_reach_10 (lv_at hl 5 rfl) ?_
      refine lv_bipush (v := 11) hx hb d_Web_reach_12 (by decide) ?_
      refine lv_icmp_ge (tgt := 88) hx hb d_Web_reach_14 rfl (fun hc_14 => absurd hc_14 (z_stay rfl hkn_10 (by decide))) (fun hc_14 => ?_)
      refine lv_iload hx hb d_Web_reach_17 (lv_at hl 4 rfl) ?_
      refine lv_if_eq (tgt := 88) hx hb d_Web_reach_19 rfl (fun hc_19 => ?_) (fun hc_19 => ?_)
      · skip
        have hI := hI.trans (if_pos hc_19)
        have hl := lv_sub hl [0, 1, 2, 3, 4, 5] rfl
        exact X_10 _ _ _ _ _ _ hI hP hD hS hl
      · skip
        have hI := hI.trans (if_neg hc_19)
        refine lv_iconst (v := 0) hx hb d_Web_reach_22 (by decide) ?_
        refine lv_istore (lv' := [(6, .int 0), (0, .ref aw), (1, .int v1), (2, .int v2), (3, .int v3_10), (4, .int v4_10), (5, .int (nI k_10))]) hx hb d_Web_reach_23 hl (by decide) rfl (fun ls hl => ?_)
        refine lv_iconst (v := 0) hx hb d_Web_reach_25 (by decide) ?_
        refine lv_istore (lv' := [(7, .int 0), (6, .int 0), (0, .ref aw), (1, .int v1), (2, .int v2), (3, .int v3_10), (4, .int v4_10), (5, .int (nI k_10))]) hx hb d_Web_reach_26 hl (by decide) rfl (fun ls hl => ?_)
        obtain ⟨K_28, hK_28⟩ : ∃ K : Int32 → Option (Int32), K = (fun v6_28 => (F_reachG_L10 K_10 zw_near v2 n_10 (k_10 + 1) (v3_10 ||| (v6_28 &&& (v3_10 ^^^ ((-1))))) ((v6_28 &&& (v3_10 ^^^ ((-1)))) &&& v2))) := ⟨_, rfl⟩
        have X_28 : ∀ (k_28 : Nat) (v6_28 : Int32) (H : Heap) (locs : List Loc) (ls : Array Slot), some R = K_28 v6_28 → va_P (dC, dI) classes [(aw, .inr (1, [.ref aw_near])), (aw_near, .inl (kw_near, 11, .inl zw_near))] H → va_D A [(aw, .inr (1, [.ref aw_near])), (aw_near, .inl (kw_near, 11, .inl zw_near))] → va_S A s.heap H locs → lv_has ls 8 [(0, .ref aw), (1, .int v1), (2, .int v2), (3, .int v3_10), (4, .int v4_10), (5, .int (nI k_10)), (6, .int v6_28), (7, .int (nI k_28))] → W p l e (headSpec w_Web_reach ({ frames := 1, cells := 0, slots := 0, locals := 21 })).room s m args below meth c H locs 0 0 (MQ below (va_Qi (fun (r : Int32) (u : Unit) => r = R) (fun u t => End_ dC dI A [(kw_near, .int)] [(aw, .inr (1, [.ref aw_near])), (aw_near, .inl (kw_near, 11, .inl zw_near))] t) A) args s 0 0 A) (F0 m 63 ls []) := by
          intro k_28 v6_28 H locs ls hI hP hD hS hl
          rw [hK_28] at hI
          refine lv_iload hx hb d_Web_reach_63 (lv_at hl 6 rfl) ?_
          refine lv_iload_n hx hb d_Web_reach_65 rfl (lv_at hl 3 rfl) ?_
          refine lv_iconst (v := -1) hx hb d_Web_reach_66 (by decide) ?_
          refine lv_ixor hx hb d_Web_reach_67 ?_
          refine lv_iand hx hb d_Web_reach_68 ?_
          refine lv_istore (lv' := [(6, .int (v6_28 &&& (v3_10 ^^^ ((-1))))), (0, .ref aw), (1, .int v1), (2, .int v2), (3, .int v3_10), (4, .int v4_10), (5, .int (nI k_10)), (7, .int (nI k_28))]) hx hb d_Web_reach_69 hl (by decide) rfl (fun ls hl => ?_)
          refine lv_iload_n hx hb d_Web_reach_71 rfl (lv_at hl 4 rfl) ?_
          refine lv_iload hx hb d_Web_reach_72 (lv_at hl 0 rfl) ?_
          refine lv_ior hx hb d_Web_reach_74 ?_
          refine lv_istore_n (lv' := [(3, .int (v3_10 ||| (v6_28 &&& (v3_10 ^^^ ((-1)))))), (6, .int (v6_28 &&& (v3_10 ^^^ ((-1))))), (0, .ref aw), (1, .int v1), (2, .int v2), (4, .int v4_10), (5, .int (nI k_10)), (7, .int (nI k_28))]) hx hb d_Web_reach_75 rfl hl (by decide) rfl (fun ls hl => ?_)
          refine lv_iload hx hb d_Web_reach_76 (lv_at hl 1 rfl) ?_
          refine lv_iload_n hx hb d_Web_reach_78 rfl (lv_at hl 4 rfl) ?_
          refine lv_iand hx hb d_Web_reach_79 ?_
          refine lv_istore (lv' := [(4, .int ((v6_28 &&& (v3_10 ^^^ ((-1)))) &&& v2)), (3, .int (v3_10 ||| (v6_28 &&& (v3_10 ^^^ ((-1)))))), (6, .int (v6_28 &&& (v3_10 ^^^ ((-1))))), (0, .ref aw), (1, .int v1), (2, .int v2), (5, .int (nI k_10)), (7, .int (nI k_28))]) hx hb d_Web_reach_80 hl (by decide) rfl (fun ls hl => ?_)
          refine lv_iinc (lv' := [(5, .int (nI (k_10 + 1))), (4, .int ((v6_28 &&& (v3_10 ^^^ ((-1)))) &&& v2)), (3, .int (v3_10 ||| (v6_28 &&& (v3_10 ^^^ ((-1)))))), (6, .int (v6_28 &&& (v3_10 ^^^ ((-1))))), (0, .ref aw), (1, .int v1), (2, .int v2), (7, .int (nI k_28))]) (k := 6) hx hb d_Web_reach_82 hl rfl (z_inc _) (by decide) rfl (fun ls hl => ?_)
          refine lv_goto (tgt := 10) hx hb d_Web_reach_85 rfl ?_
          have hl := lv_sub hl [4, 5, 6, 2, 1, 0] rfl
          exact ih_10 _ _ _ _ _ _ (by omega) hI hP hD hS hl
        have L_28 : ∀ (n_28 k_28 : Nat) (v6_28 : Int32) (H : Heap) (locs : List Loc) (ls : Array Slot), k_28 + n_28 = 11 → some R = F_reachG_L28 K_28 zw_near v4_10 n_28 k_28 v6_28 → va_P (dC, dI) classes [(aw, .inr (1, [.ref aw_near])), (aw_near, .inl (kw_near, 11, .inl zw_near))] H → va_D A [(aw, .inr (1, [.ref aw_near])), (aw_near, .inl (kw_near, 11, .inl zw_near))] → va_S A s.heap H locs → lv_has ls 8 [(0, .ref aw), (1, .int v1), (2, .int v2), (3, .int v3_10), (4, .int v4_10), (5, .int (nI k_10)), (6, .int v6_28), (7, .int (nI k_28))] → W p l e (headSpec w_Web_reach ({ frames := 1, cells := 0, slots := 0, locals := 21 })).room s m args below meth c H locs 0 0 (MQ below (va_Qi (fun (r : Int32) (u : Unit) => r = R) (fun u t => End_ dC dI A [(kw_near, .int)] [(aw, .inr (1, [.ref aw_near])), (aw_near, .inl (kw_near, 11, .inl zw_near))] t) A) args s 0 0 A) (F0 m 28 ls []) := by
          intro n_28
          induction n_28 with
          | zero =>
            intro k_28 v6_28 H locs ls hkn_28 hI hP hD hS hl
            rw [F_reachG_L28] at hI
            refine lv_iload hx hb d_Web_reach_28 (lv_at hl 7 rfl) ?_
            refine lv_bipush (v := 11) hx hb d_Web_reach_30 (by decide) ?_
            refine lv_icmp_ge (tgt := 63) hx hb d_Web_reach_32 rfl (fun hc_32 => ?_) (fun hc_32 => absurd (z_exit rfl hkn_28) hc_32)
            have hl := lv_sub hl [0, 1, 2, 3, 4, 5, 6, 7] rfl
            exact X_28 _ _ _ _ _ hI hP hD hS hl
          | succ n_28 ih_28 =>
            intro k_28 v6_28 H locs ls hkn_28 hI hP hD hS hl
            rw [F_reachG_L28] at hI
            refine lv_iload hx hb d_Web_reach_28 (lv_at hl 7 rfl) ?_
            refine lv_bipush (v := 11) hx hb d_Web_reach_30 (by decide) ?_
            refine lv_icmp_ge (tgt := 63) hx hb d_Web_reach_32 rfl (fun hc_32 => absurd hc_32 (z_stay rfl hkn_28 (by decide))) (fun hc_32 => ?_)
            refine lv_iload hx hb d_Web_reach_35 (lv_at hl 4 rfl) ?_
            refine lv_iload hx hb d_Web_reach_37 (lv_at hl 7 rfl) ?_
            have hPc := hP.sub (ws' := []) [] rfl
            have hDc := hD.sub (ws' := []) [] (by decide) rfl
            have hKc := hK.sub (tys' := []) [] rfl
            have hFc := va_free (wc := []) hD hS hA [] rfl
            refine va_calli (va_runSN (As := [.int v4_10, .int (nI k_28)]) (rest := []) ⟨hx, hb, hml, hown, hts⟩ (c_has l dC dI H.size v4_10 (nI k_28)) (⟨va_cnB 2 hts (gi0 mw_1_150) rfl rfl rfl (hN (R_Web, 27, y_PS_has, R_PS) (by decide +kernel)) (hts _ (List.mem_cons_of_mem _ mw_1_1)) (by decide +kernel) ⟨Nat.le_of_ble_eq_true rfl, Nat.le_of_ble_eq_true rfl⟩, hts _ (List.mem_cons_of_mem _ mw_1_149), trivial⟩) ⟨fb_, pre_ hPc hKc hDc hN⟩ rfl rfl hl.1 rfl (lv_room (Nat.le_of_ble_eq_true rfl)) d_Web_reach_39 ⟨Nat.le_of_ble_eq_true rfl, Nat.le_of_ble_eq_true rfl⟩) hS (fun q _ h => hFc q h) hFc (fun r_39 u t H locs ht hvm hp_39 hB hz1 hk1 hS => ?_)
            obtain ⟨hP1, -, hD1⟩ := hB
            rw [ht] at hP1
            obtain ⟨hP, hD⟩ := va_join (wr := [(aw, .inr (1, [.ref aw_near])), (aw_near, .inl (kw_near, 11, .inl zw_near))]) (w1 := []) hP hD [] [0, 1] rfl rfl (by decide) (by decide) hk1 hFc hP1 hD1
            have hp_39 : r_39 = f_has v4_10 (nI k_28) := hp_39
            subst hp_39
            have hP : va_P (dC, dI) classes [(aw, .inr (1, [.ref aw_near])), (aw_near, .inl (kw_near, 11, .inl zw_near))] H := hP
            have hD : va_D A [(aw, .inr (1, [.ref aw_near])), (aw_near, .inl (kw_near, 11, .inl zw_near))] := hD
            refine lv_if_eq (tgt := 57) hx hb d_Web_reach_42 rfl (fun hc_42 => ?_) (fun hc_42 => ?_)
            · skip
              have hI := hI.trans (if_pos hc_42)
              refine lv_iinc (lv' := [(7, .int (nI (k_28 + 1))), (0, .ref aw), (1, .int v1), (2, .int v2), (3, .int v3_10), (4, .int v4_10), (5, .int (nI k_10)), (6, .int v6_28)]) (k := 7) hx hb d_Web_reach_57 hl rfl (z_inc _) (by decide) rfl (fun ls hl => ?_)
              refine lv_goto (tgt := 28) hx hb d_Web_reach_60 rfl ?_
              have hl := lv_sub hl [1, 2, 3, 4, 5, 6, 7, 0] rfl
              exact ih_28 _ _ _ _ _ (by omega) hI hP hD hS hl
            · skip
              have hI := hI.trans (if_neg hc_42)
              refine lv_iload hx hb d_Web_reach_45 (lv_at hl 6 rfl) ?_
              refine lv_aload_n hx hb d_Web_reach_47 rfl (lv_at hl 0 rfl) ?_
              refine va_get (D := (dC, dI)) (ci := 1) (v := .ref aw_near) (C := R_Web) (T := F_Web) (N := 1) hx hb hts (fun w h => List.mem_cons_of_mem _ (in_Web w h)) hown hK hP 0 rfl rfl 0 (by decide) (hts _ (List.mem_cons_of_mem _ mw_1_31)) (fun _ h9 => h9) rfl d_Web_reach_48 ?_
              refine lv_iload hx hb d_Web_reach_51 (lv_at hl 7 rfl) ?_
              refine va_iald (D := (dC, dI)) hx hb hK hP 1 0 rfl rfl (vp_in_nI (by omega) (by decide)) d_Web_reach_53 ?_
              refine lv_topi (fun y_53 e_53 => ?_)
              obtain rfl : y_53 = zw_near k_28 := e_53.trans (by rw [nI_clamp (by omega)])
              refine lv_ior hx hb d_Web_reach_54 ?_
              refine lv_istore (lv' := [(6, .int (v6_28 ||| (zw_near k_28))), (0, .ref aw), (1, .int v1), (2, .int v2), (3, .int v3_10), (4, .int v4_10), (5, .int (nI k_10)), (7, .int (nI k_28))]) hx hb d_Web_reach_55 hl (by decide) rfl (fun ls hl => ?_)
              refine lv_iinc (lv' := [(7, .int (nI (k_28 + 1))), (6, .int (v6_28 ||| (zw_near k_28))), (0, .ref aw), (1, .int v1), (2, .int v2), (3, .int v3_10), (4, .int v4_10), (5, .int (nI k_10))]) (k := 7) hx hb d_Web_reach_57 hl rfl (z_inc _) (by decide) rfl (fun ls hl => ?_)
              refine lv_goto (tgt := 28) hx hb d_Web_reach_60 rfl ?_
              have hl := lv_sub hl [2, 3, 4, 5, 6, 7, 1, 0] rfl
              exact ih_28 _ _ _ _ _ (by omega) hI hP hD hS hl
        have hl : lv_has ls 8 [(0, .ref aw), (1, .int v1), (2, .int v2), (3, .int v3_10), (4, .int v4_10), (5, .int (nI k_10)), (6, .int 0), (7, .int (nI 0))] := by first | exact lv_sub hl [2, 3, 4, 5, 6, 7, 1, 0] rfl | (rw [nI_succ]; exact lv_sub hl [2, 3, 4, 5, 6, 7, 1, 0] rfl)
        exact L_28 11 0 _ _ _ _ (by omega) (by rw [hK_28]; exact hI) hP hD hS hl
  have hl : lv_has ls 8 [(0, .ref aw), (1, .int v1), (2, .int v2), (3, .int (((1 : Int32)) <<< (v1 &&& 31))), (4, .int (((1 : Int32)) <<< (v1 &&& 31))), (5, .int (nI 0))] := by first | exact lv_sub hl [3, 4, 5, 2, 1, 0] rfl | (rw [nI_succ]; exact lv_sub hl [3, 4, 5, 2, 1, 0] rfl)
  exact L_10 11 0 _ _ _ _ _ (by omega) (by rw [hK_10]; exact hI) hP hD hS hl
