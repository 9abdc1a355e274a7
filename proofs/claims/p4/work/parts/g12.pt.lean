set_option maxHeartbeats 4000000 in
set_option maxRecDepth 100000 in
theorem c_forgetG (l : Launch) (dC : Nat → ClassId) (dI : Nat → Nat → Nat) (sz : Nat) (ao ao_depthOf ao_endingAt ao_returns ao_highest ao_alike ao_opposed : Nat) (ko_depthOf ko_endingAt : ClassId) (zo_backLines : Int32) (zo_clash : Int32) (zo_depthOf : Nat → Int32) (zo_endingAt : Nat → Int32) (R : Int32 × Int32 × (Nat → Int32) × (Nat → Int32)) (hR : F_forgetG zo_depthOf zo_endingAt = some R) : Met l y_PT_forgetTheLastWalk w_PT_forgetTheLastWalk ({ frames := 1, cells := 0, slots := 0, locals := 23 }) (Pre_ dC dI sz [.ref ao] [(ao, .inr (2, [.int zo_backLines, .int zo_clash, .ref ao_depthOf, .ref ao_endingAt, .ref ao_returns, .ref ao_highest, .ref ao_alike, .ref ao_opposed])), (ao_depthOf, .inl (ko_depthOf, 11, .inl zo_depthOf)), (ao_endingAt, .inl (ko_endingAt, 11, .inl zo_endingAt))] [(ko_depthOf, .int), (ko_endingAt, .int)]) (va_Qv (fun (u : Int32 × Int32 × (Nat → Int32) × (Nat → Int32)) => u = R) (fun u t => End_ dC dI (va_A [(ao, .inr (2, [.int zo_backLines, .int zo_clash, .ref ao_depthOf, .ref ao_endingAt, .ref ao_returns, .ref ao_highest, .ref ao_alike, .ref ao_opposed])), (ao_depthOf, .inl (ko_depthOf, 11, .inl zo_depthOf)), (ao_endingAt, .inl (ko_endingAt, 11, .inl zo_endingAt))] sz) [(ko_depthOf, .int), (ko_endingAt, .int)] [(ao, .inr (2, [.int u.1, .int u.2.1, .ref ao_depthOf, .ref ao_endingAt, .ref ao_returns, .ref ao_highest, .ref ao_alike, .ref ao_opposed])), (ao_depthOf, .inl (ko_depthOf, 11, .inl u.2.2.1)), (ao_endingAt, .inl (ko_endingAt, 11, .inl u.2.2.2))] t) (va_A [(ao, .inr (2, [.int zo_backLines, .int zo_clash, .ref ao_depthOf, .ref ao_endingAt, .ref ao_returns, .ref ao_highest, .ref ao_alike, .ref ao_opposed])), (ao_depthOf, .inl (ko_depthOf, 11, .inl zo_depthOf)), (ao_endingAt, .inl (ko_endingAt, 11, .inl zo_endingAt))] sz)) 0 0 (va_A [(ao, .inr (2, [.int zo_backLines, .int zo_clash, .ref ao_depthOf, .ref ao_endingAt, .ref ao_returns, .ref ao_highest, .ref ao_alike, .ref ao_opposed])), (ao_depthOf, .inl (ko_depthOf, 11, .inl zo_depthOf)), (ao_endingAt, .inl (ko_endingAt, 11, .inl zo_endingAt))] sz) := by
  refine Met.ofW (cc := b_PT_forgetTheLastWalk) (maxL := 1) (ret := none) (by decide) rfl ?_
  intro p e s m args below meth c s₁ B hml hv
  obtain ⟨hargs, hsz, hP, hK, hD0, hN⟩ := hv
  have hx := B.exec
  have hb := B.bytes
  have hr := B.returns
  have hts := atoms_spec (ws := w_PT_forgetTheLastWalk) B.pre
  have hown : s.vm.findClass R_PT = some m.cls := findClass_of_methodNamed B.named
  have hlocks := B.notSynchronized
  subst hsz
  have hD := hD0.self (sz := s.heap.size)
  generalize hAe : va_A [(ao, .inr (2, [.int zo_backLines, .int zo_clash, .ref ao_depthOf, .ref ao_endingAt, .ref ao_returns, .ref ao_highest, .ref ao_alike, .ref ao_opposed])), (ao_depthOf, .inl (ko_depthOf, 11, .inl zo_depthOf)), (ao_endingAt, .inl (ko_endingAt, 11, .inl zo_endingAt))] s.heap.size = A at hD ⊢
  have hA : ∀ q : Nat, s.heap.size ≤ q → A q := fun q h => by rw [← hAe]; exact Or.inr h
  have hS : va_S A s.heap s.heap [] := va_S.rf
  have hl := lv_entry ([.ref ao]) (n := 1) (Nat.le_of_ble_eq_true rfl)
  refine W.eq (congrArg (fun a => entryFrame m a 1) hargs) ?_
  rw [lg_entry_eq]
  generalize (lg_sl ([.ref ao]) ++ List.replicate (1 - (lg_sl ([.ref ao])).length) Slot.unset).toArray = ls at hl ⊢
  have hl : lv_has ls 1 [(0, .ref ao)] := hl
  generalize hH0 : ([] : List Loc) = locs at hS ⊢
  have hI := hR.symm
  rw [F_forgetG] at hI
  refine lv_aload_n hx hb d_PT_forgetTheLastWalk_0 rfl (lv_at hl 0 rfl) ?_
  refine lv_iconst (v := 0) hx hb d_PT_forgetTheLastWalk_1 (by decide) ?_
  refine va_put (D := (dC, dI)) (ci := 2) (v := .int 0) (ty := .int) (C := R_PT) (T := F_PT) (N := 8) hx hb hts (fun w h => List.mem_cons_of_mem _ (in_PT w h)) t_PT t_PT_ok n_PT hown hK hP hD hS 0 rfl rfl 0 (by decide) (hts _ (List.mem_cons_of_mem _ mw_1_42)) (fun _ h9 => h9) rfl (by decide +kernel) rfl rfl (Nat.le_of_ble_eq_true rfl) d_PT_forgetTheLastWalk_2 (fun H locs hP hD hS => ?_)
  have hP : va_P (dC, dI) classes [(ao, .inr (2, [.int 0, .int zo_clash, .ref ao_depthOf, .ref ao_endingAt, .ref ao_returns, .ref ao_highest, .ref ao_alike, .ref ao_opposed])), (ao_depthOf, .inl (ko_depthOf, 11, .inl zo_depthOf)), (ao_endingAt, .inl (ko_endingAt, 11, .inl zo_endingAt))] H := hP
  have hD : va_D A [(ao, .inr (2, [.int 0, .int zo_clash, .ref ao_depthOf, .ref ao_endingAt, .ref ao_returns, .ref ao_highest, .ref ao_alike, .ref ao_opposed])), (ao_depthOf, .inl (ko_depthOf, 11, .inl zo_depthOf)), (ao_endingAt, .inl (ko_endingAt, 11, .inl zo_endingAt))] := hD
  refine lv_aload_n hx hb d_PT_forgetTheLastWalk_5 rfl (lv_at hl 0 rfl) ?_
  refine lv_iconst (v := 0) hx hb d_PT_forgetTheLastWalk_6 (by decide) ?_
  refine va_put (D := (dC, dI)) (ci := 2) (v := .int 0) (ty := .boolean) (C := R_PT) (T := F_PT) (N := 8) hx hb hts (fun w h => List.mem_cons_of_mem _ (in_PT w h)) t_PT t_PT_ok n_PT hown hK hP hD hS 0 rfl rfl 1 (by decide) (hts _ (List.mem_cons_of_mem _ mw_1_43)) (fun _ h9 => h9) rfl (by decide +kernel) rfl rfl (Nat.le_of_ble_eq_true rfl) d_PT_forgetTheLastWalk_7 (fun H locs hP hD hS => ?_)
  have hP : va_P (dC, dI) classes [(ao, .inr (2, [.int 0, .int 0, .ref ao_depthOf, .ref ao_endingAt, .ref ao_returns, .ref ao_highest, .ref ao_alike, .ref ao_opposed])), (ao_depthOf, .inl (ko_depthOf, 11, .inl zo_depthOf)), (ao_endingAt, .inl (ko_endingAt, 11, .inl zo_endingAt))] H := hP
  have hD : va_D A [(ao, .inr (2, [.int 0, .int 0, .ref ao_depthOf, .ref ao_endingAt, .ref ao_returns, .ref ao_highest, .ref ao_alike, .ref ao_opposed])), (ao_depthOf, .inl (ko_depthOf, 11, .inl zo_depthOf)), (ao_endingAt, .inl (ko_endingAt, 11, .inl zo_endingAt))] := hD
  refine lv_aload_n hx hb d_PT_forgetTheLastWalk_10 rfl (lv_at hl 0 rfl) ?_
  refine va_get (D := (dC, dI)) (ci := 2) (v := .ref ao_depthOf) (C := R_PT) (T := F_PT) (N := 8) hx hb hts (fun w h => List.mem_cons_of_mem _ (in_PT w h)) hown hK hP 0 rfl rfl 2 (by decide) (hts _ (List.mem_cons_of_mem _ mw_1_44)) (fun _ h9 => h9) rfl d_PT_forgetTheLastWalk_11 ?_
  refine lv_iconst (v := -1) hx hb d_PT_forgetTheLastWalk_14 (by decide) ?_
  have hPc := hP.sub (ws' := [(ao_depthOf, .inl (ko_depthOf, 11, .inl zo_depthOf))]) [1] rfl
  have hDc := hD.sub (ws' := [(ao_depthOf, .inl (ko_depthOf, 11, .inl zo_depthOf))]) [1] (by decide) rfl
  have hKc := hK.sub (tys' := [(ko_depthOf, .int)]) [0] rfl
  have hFc := va_free (wc := [(ao_depthOf, .inl (ko_depthOf, 11, .inl zo_depthOf))]) hD hS hA [1] rfl
  refine va_callv (va_runS (As := [.ref ao_depthOf, .int ((-1))]) (rest := []) ⟨hx, hb, hml, hown, hts⟩ (c_fillP l dC dI H.size ao_depthOf ko_depthOf zo_depthOf ((-1))) (va_cwS 2 hts (gi3 mw_1_173 mw_1_146 mw_1_16 mw_1_147) rfl rfl rfl (by decide +kernel) ⟨Nat.le_of_ble_eq_true rfl, Nat.le_of_ble_eq_true rfl⟩) ⟨fb_, pre_ hPc hKc hDc hN⟩ rfl rfl hl.1 rfl (lv_room (Nat.le_of_ble_eq_true rfl)) d_PT_forgetTheLastWalk_15 ⟨Nat.le_of_ble_eq_true rfl, Nat.le_of_ble_eq_true rfl⟩) hS (fun q _ h => hFc q h) hFc (fun wo_depthOf_15 t H locs ht hvm hp_15 hB hz1 hk1 hS => ?_)
  obtain ⟨hP1, -, hD1⟩ := hB
  rw [ht] at hP1
  obtain ⟨hP, hD⟩ := va_join (wr := [(ao, .inr (2, [.int 0, .int 0, .ref ao_depthOf, .ref ao_endingAt, .ref ao_returns, .ref ao_highest, .ref ao_alike, .ref ao_opposed])), (ao_endingAt, .inl (ko_endingAt, 11, .inl zo_endingAt))]) (w1 := [(ao_depthOf, .inl (ko_depthOf, 11, .inl wo_depthOf_15))]) hP hD [1] [0, 2] rfl rfl (by decide) (by decide) hk1 hFc hP1 hD1
  have hp_15 : wo_depthOf_15 = f_fill 11 ((-1)) zo_depthOf := hp_15
  subst hp_15
  have hP : va_P (dC, dI) classes [(ao, .inr (2, [.int 0, .int 0, .ref ao_depthOf, .ref ao_endingAt, .ref ao_returns, .ref ao_highest, .ref ao_alike, .ref ao_opposed])), (ao_endingAt, .inl (ko_endingAt, 11, .inl zo_endingAt)), (ao_depthOf, .inl (ko_depthOf, 11, .inl (f_fill 11 ((-1)) zo_depthOf)))] H := hP
  have hD : va_D A [(ao, .inr (2, [.int 0, .int 0, .ref ao_depthOf, .ref ao_endingAt, .ref ao_returns, .ref ao_highest, .ref ao_alike, .ref ao_opposed])), (ao_endingAt, .inl (ko_endingAt, 11, .inl zo_endingAt)), (ao_depthOf, .inl (ko_depthOf, 11, .inl (f_fill 11 ((-1)) zo_depthOf)))] := hD
  refine lv_aload_n hx hb d_PT_forgetTheLastWalk_18 rfl (lv_at hl 0 rfl) ?_
  refine va_get (D := (dC, dI)) (ci := 2) (v := .ref ao_endingAt) (C := R_PT) (T := F_PT) (N := 8) hx hb hts (fun w h => List.mem_cons_of_mem _ (in_PT w h)) hown hK hP 0 rfl rfl 3 (by decide) (hts _ (List.mem_cons_of_mem _ mw_1_45)) (fun _ h9 => h9) rfl d_PT_forgetTheLastWalk_19 ?_
  refine lv_iconst (v := 0) hx hb d_PT_forgetTheLastWalk_22 (by decide) ?_
  have hPc := hP.sub (ws' := [(ao_endingAt, .inl (ko_endingAt, 11, .inl zo_endingAt))]) [1] rfl
  have hDc := hD.sub (ws' := [(ao_endingAt, .inl (ko_endingAt, 11, .inl zo_endingAt))]) [1] (by decide) rfl
  have hKc := hK.sub (tys' := [(ko_endingAt, .int)]) [1] rfl
  have hFc := va_free (wc := [(ao_endingAt, .inl (ko_endingAt, 11, .inl zo_endingAt))]) hD hS hA [1] rfl
  refine va_callv (va_runS (As := [.ref ao_endingAt, .int 0]) (rest := []) ⟨hx, hb, hml, hown, hts⟩ (c_fillP l dC dI H.size ao_endingAt ko_endingAt zo_endingAt 0) (va_cwS 2 hts (gi3 mw_1_173 mw_1_146 mw_1_16 mw_1_147) rfl rfl rfl (by decide +kernel) ⟨Nat.le_of_ble_eq_true rfl, Nat.le_of_ble_eq_true rfl⟩) ⟨fb_, pre_ hPc hKc hDc hN⟩ rfl rfl hl.1 rfl (lv_room (Nat.le_of_ble_eq_true rfl)) d_PT_forgetTheLastWalk_23 ⟨Nat.le_of_ble_eq_true rfl, Nat.le_of_ble_eq_true rfl⟩) hS (fun q _ h => hFc q h) hFc (fun wo_endingAt_23 t H locs ht hvm hp_23 hB hz1 hk1 hS => ?_)
  obtain ⟨hP1, -, hD1⟩ := hB
  rw [ht] at hP1
  obtain ⟨hP, hD⟩ := va_join (wr := [(ao, .inr (2, [.int 0, .int 0, .ref ao_depthOf, .ref ao_endingAt, .ref ao_returns, .ref ao_highest, .ref ao_alike, .ref ao_opposed])), (ao_depthOf, .inl (ko_depthOf, 11, .inl (f_fill 11 ((-1)) zo_depthOf)))]) (w1 := [(ao_endingAt, .inl (ko_endingAt, 11, .inl wo_endingAt_23))]) hP hD [1] [0, 2] rfl rfl (by decide) (by decide) hk1 hFc hP1 hD1
  have hp_23 : wo_endingAt_23 = f_fill 11 ((0 : Int32)) zo_endingAt := hp_23
  subst hp_23
  have hP : va_P (dC, dI) classes [(ao, .inr (2, [.int 0, .int 0, .ref ao_depthOf, .ref ao_endingAt, .ref ao_returns, .ref ao_highest, .ref ao_alike, .ref ao_opposed])), (ao_depthOf, .inl (ko_depthOf, 11, .inl (f_fill 11 ((-1)) zo_depthOf))), (ao_endingAt, .inl (ko_endingAt, 11, .inl (f_fill 11 ((0 : Int32)) zo_endingAt)))] H := hP
  have hD : va_D A [(ao, .inr (2, [.int 0, .int 0, .ref ao_depthOf, .ref ao_endingAt, .ref ao_returns, .ref ao_highest, .ref ao_alike, .ref ao_opposed])), (ao_depthOf, .inl (ko_depthOf, 11, .inl (f_fill 11 ((-1)) zo_depthOf))), (ao_endingAt, .inl (ko_endingAt, 11, .inl (f_fill 11 ((0 : Int32)) zo_endingAt)))] := hD
  exact W.vret hx hb hr (fun t ht hW => ⟨⟨(0, 0, f_fill 11 ((-1)) zo_depthOf, f_fill 11 ((0 : Int32)) zo_endingAt), rfl, (Option.some.inj hI).symm, by rw [ht]; exact hP, va_K.moved hW.alike hK, hD⟩, hS.F ht⟩) hS.2.2 d_PT_forgetTheLastWalk_26
set_option maxHeartbeats 4000000 in
set_option maxRecDepth 100000 in
theorem c_newBackLineG (l : Launch) (dC : Nat → ClassId) (dI : Nat → Nat → Nat) (sz : Nat) (ao ao_depthOf ao_endingAt ao_returns ao_highest ao_alike ao_opposed : Nat) (ko_endingAt ko_alike ko_opposed : ClassId) (zo_backLines : Int32) (zo_clash : Int32) (zo_endingAt : Nat → Int32) (zo_alike : Nat → Int32) (zo_opposed : Nat → Int32) (v1 : Int32) (R : Int32 × Int32 × Int32 × (Nat → Int32) × (Nat → Int32) × (Nat → Int32)) (hR : F_newBackLineG zo_backLines zo_clash zo_endingAt zo_alike zo_opposed v1 = some R) : Met l y_PT_newBackLine w_PT_newBackLine ({ frames := 0, cells := 0, slots := 0, locals := 0 }) (Pre_ dC dI sz [.ref ao, .int v1] [(ao, .inr (2, [.int zo_backLines, .int zo_clash, .ref ao_depthOf, .ref ao_endingAt, .ref ao_returns, .ref ao_highest, .ref ao_alike, .ref ao_opposed])), (ao_endingAt, .inl (ko_endingAt, 11, .inl zo_endingAt)), (ao_alike, .inl (ko_alike, 27, .inl zo_alike)), (ao_opposed, .inl (ko_opposed, 27, .inl zo_opposed))] [(ko_endingAt, .int), (ko_alike, .int), (ko_opposed, .int)]) (va_Qi (fun (r : Int32) (u : Int32 × Int32 × (Nat → Int32) × (Nat → Int32) × (Nat → Int32)) => (r, u) = R) (fun u t => End_ dC dI (va_A [(ao, .inr (2, [.int zo_backLines, .int zo_clash, .ref ao_depthOf, .ref ao_endingAt, .ref ao_returns, .ref ao_highest, .ref ao_alike, .ref ao_opposed])), (ao_endingAt, .inl (ko_endingAt, 11, .inl zo_endingAt)), (ao_alike, .inl (ko_alike, 27, .inl zo_alike)), (ao_opposed, .inl (ko_opposed, 27, .inl zo_opposed))] sz) [(ko_endingAt, .int), (ko_alike, .int), (ko_opposed, .int)] [(ao, .inr (2, [.int u.1, .int u.2.1, .ref ao_depthOf, .ref ao_endingAt, .ref ao_returns, .ref ao_highest, .ref ao_alike, .ref ao_opposed])), (ao_endingAt, .inl (ko_endingAt, 11, .inl u.2.2.1)), (ao_alike, .inl (ko_alike, 27, .inl u.2.2.2.1)), (ao_opposed, .inl (ko_opposed, 27, .inl u.2.2.2.2))] t) (va_A [(ao, .inr (2, [.int zo_backLines, .int zo_clash, .ref ao_depthOf, .ref ao_endingAt, .ref ao_returns, .ref ao_highest, .ref ao_alike, .ref ao_opposed])), (ao_endingAt, .inl (ko_endingAt, 11, .inl zo_endingAt)), (ao_alike, .inl (ko_alike, 27, .inl zo_alike)), (ao_opposed, .inl (ko_opposed, 27, .inl zo_opposed))] sz)) 0 0 (va_A [(ao, .inr (2, [.int zo_backLines, .int zo_clash, .ref ao_depthOf, .ref ao_endingAt, .ref ao_returns, .ref ao_highest, .ref ao_alike, .ref ao_opposed])), (ao_endingAt, .inl (ko_endingAt, 11, .inl zo_endingAt)), (ao_alike, .inl (ko_alike, 27, .inl zo_alike)), (ao_opposed, .inl (ko_opposed, 27, .inl zo_opposed))] sz) := by
  refine Met.ofW (cc := b_PT_newBackLine) (maxL := 3) (ret := (some .int)) (by decide) rfl ?_
  intro p e s m args below meth c s₁ B hml hv
  obtain ⟨hargs, hsz, hP, hK, hD0, hN⟩ := hv
  have hx := B.exec
  have hb := B.bytes
  have hr := B.returns
  have hts := atoms_spec (ws := w_PT_newBackLine) B.pre
  have hown : s.vm.findClass R_PT = some m.cls := findClass_of_methodNamed B.named
  have hlocks := B.notSynchronized
  subst hsz
  have hD := hD0.self (sz := s.heap.size)
  generalize hAe : va_A [(ao, .inr (2, [.int zo_backLines, .int zo_clash, .ref ao_depthOf, .ref ao_endingAt, .ref ao_returns, .ref ao_highest, .ref ao_alike, .ref ao_opposed])), (ao_endingAt, .inl (ko_endingAt, 11, .inl zo_endingAt)), (ao_alike, .inl (ko_alike, 27, .inl zo_alike)), (ao_opposed, .inl (ko_opposed, 27, .inl zo_opposed))] s.heap.size = A at hD ⊢
  have hA : ∀ q : Nat, s.heap.size ≤ q → A q := fun q h => by rw [← hAe]; exact Or.inr h
  have hS : va_S A s.heap s.heap [] := va_S.rf
  have hl := lv_entry ([.ref ao, .int v1]) (n := 3) (Nat.le_of_ble_eq_true rfl)
  refine W.eq (congrArg (fun a => entryFrame m a 3) hargs) ?_
  rw [lg_entry_eq]
  generalize (lg_sl ([.ref ao, .int v1]) ++ List.replicate (3 - (lg_sl ([.ref ao, .int v1])).length) Slot.unset).toArray = ls at hl ⊢
  have hl : lv_has ls 3 [(0, .ref ao), (1, .int v1)] := hl
  generalize hH0 : ([] : List Loc) = locs at hS ⊢
  have hI := hR.symm
  rw [F_newBackLineG] at hI
  refine lv_aload_n hx hb d_PT_newBackLine_0 rfl (lv_at hl 0 rfl) ?_
  refine va_get (D := (dC, dI)) (ci := 2) (v := .int zo_backLines) (C := R_PT) (T := F_PT) (N := 8) hx hb hts (fun w h => List.mem_cons_of_mem _ (in_PT w h)) hown hK hP 0 rfl rfl 0 (by decide) (hts _ (List.mem_cons_of_mem _ mw_1_42)) (fun _ h9 => h9) rfl d_PT_newBackLine_1 ?_
  refine lv_bipush (v := 27) hx hb d_PT_newBackLine_4 (by decide) ?_
  refine lv_icmp_lt (tgt := 16) hx hb d_PT_newBackLine_6 rfl (fun hc_6 => ?_) (fun hc_6 => ?_)
  · skip
    have hI := hI.trans (if_pos hc_6)
    refine lv_iconst (v := 1) hx hb d_PT_newBackLine_16 (by decide) ?_
    refine lv_aload_n hx hb d_PT_newBackLine_17 rfl (lv_at hl 0 rfl) ?_
    refine va_get (D := (dC, dI)) (ci := 2) (v := .int zo_backLines) (C := R_PT) (T := F_PT) (N := 8) hx hb hts (fun w h => List.mem_cons_of_mem _ (in_PT w h)) hown hK hP 0 rfl rfl 0 (by decide) (hts _ (List.mem_cons_of_mem _ mw_1_42)) (fun _ h9 => h9) rfl d_PT_newBackLine_18 ?_
    refine lv_ishl hx hb d_PT_newBackLine_21 ?_
    refine lv_istore_n (lv' := [(2, .int (((1 : Int32)) <<< (zo_backLines &&& 31))), (0, .ref ao), (1, .int v1)]) hx hb d_PT_newBackLine_22 rfl hl (by decide) rfl (fun ls hl => ?_)
    refine lv_aload_n hx hb d_PT_newBackLine_23 rfl (lv_at hl 1 rfl) ?_
    refine va_get (D := (dC, dI)) (ci := 2) (v := .ref ao_alike) (C := R_PT) (T := F_PT) (N := 8) hx hb hts (fun w h => List.mem_cons_of_mem _ (in_PT w h)) hown hK hP 0 rfl rfl 6 (by decide) (hts _ (List.mem_cons_of_mem _ mw_1_48)) (fun _ h9 => h9) rfl d_PT_newBackLine_24 ?_
    refine lv_aload_n hx hb d_PT_newBackLine_27 rfl (lv_at hl 1 rfl) ?_
    refine va_get (D := (dC, dI)) (ci := 2) (v := .int zo_backLines) (C := R_PT) (T := F_PT) (N := 8) hx hb hts (fun w h => List.mem_cons_of_mem _ (in_PT w h)) hown hK hP 0 rfl rfl 0 (by decide) (hts _ (List.mem_cons_of_mem _ mw_1_42)) (fun _ h9 => h9) rfl d_PT_newBackLine_28 ?_
    refine lv_iload_n hx hb d_PT_newBackLine_31 rfl (lv_at hl 0 rfl) ?_
    have hi_32 := ob_in hI
    have hI := ob_th hI
    refine va_iast (D := (dC, dI)) hx hb hK hP hD hS 2 1 rfl rfl hi_32 d_PT_newBackLine_32 (fun H locs hP hD hS => ?_)
    have hP : va_P (dC, dI) classes [(ao, .inr (2, [.int zo_backLines, .int zo_clash, .ref ao_depthOf, .ref ao_endingAt, .ref ao_returns, .ref ao_highest, .ref ao_alike, .ref ao_opposed])), (ao_endingAt, .inl (ko_endingAt, 11, .inl zo_endingAt)), (ao_alike, .inl (ko_alike, 27, .inl (upd zo_alike (Int32.toNatClampNeg zo_backLines) (((1 : Int32)) <<< (zo_backLines &&& 31))))), (ao_opposed, .inl (ko_opposed, 27, .inl zo_opposed))] H := hP
    have hD : va_D A [(ao, .inr (2, [.int zo_backLines, .int zo_clash, .ref ao_depthOf, .ref ao_endingAt, .ref ao_returns, .ref ao_highest, .ref ao_alike, .ref ao_opposed])), (ao_endingAt, .inl (ko_endingAt, 11, .inl zo_endingAt)), (ao_alike, .inl (ko_alike, 27, .inl (upd zo_alike (Int32.toNatClampNeg zo_backLines) (((1 : Int32)) <<< (zo_backLines &&& 31))))), (ao_opposed, .inl (ko_opposed, 27, .inl zo_opposed))] := hD
    refine lv_aload_n hx hb d_PT_newBackLine_33 rfl (lv_at hl 1 rfl) ?_
    refine va_get (D := (dC, dI)) (ci := 2) (v := .ref ao_opposed) (C := R_PT) (T := F_PT) (N := 8) hx hb hts (fun w h => List.mem_cons_of_mem _ (in_PT w h)) hown hK hP 0 rfl rfl 7 (by decide) (hts _ (List.mem_cons_of_mem _ mw_1_49)) (fun _ h9 => h9) rfl d_PT_newBackLine_34 ?_
    refine lv_aload_n hx hb d_PT_newBackLine_37 rfl (lv_at hl 1 rfl) ?_
    refine va_get (D := (dC, dI)) (ci := 2) (v := .int zo_backLines) (C := R_PT) (T := F_PT) (N := 8) hx hb hts (fun w h => List.mem_cons_of_mem _ (in_PT w h)) hown hK hP 0 rfl rfl 0 (by decide) (hts _ (List.mem_cons_of_mem _ mw_1_42)) (fun _ h9 => h9) rfl d_PT_newBackLine_38 ?_
    refine lv_iconst (v := 0) hx hb d_PT_newBackLine_41 (by decide) ?_
    refine va_iast (D := (dC, dI)) hx hb hK hP hD hS 3 2 rfl rfl hi_32 d_PT_newBackLine_42 (fun H locs hP hD hS => ?_)
    have hP : va_P (dC, dI) classes [(ao, .inr (2, [.int zo_backLines, .int zo_clash, .ref ao_depthOf, .ref ao_endingAt, .ref ao_returns, .ref ao_highest, .ref ao_alike, .ref ao_opposed])), (ao_endingAt, .inl (ko_endingAt, 11, .inl zo_endingAt)), (ao_alike, .inl (ko_alike, 27, .inl (upd zo_alike (Int32.toNatClampNeg zo_backLines) (((1 : Int32)) <<< (zo_backLines &&& 31))))), (ao_opposed, .inl (ko_opposed, 27, .inl (upd zo_opposed (Int32.toNatClampNeg zo_backLines) 0)))] H := hP
    have hD : va_D A [(ao, .inr (2, [.int zo_backLines, .int zo_clash, .ref ao_depthOf, .ref ao_endingAt, .ref ao_returns, .ref ao_highest, .ref ao_alike, .ref ao_opposed])), (ao_endingAt, .inl (ko_endingAt, 11, .inl zo_endingAt)), (ao_alike, .inl (ko_alike, 27, .inl (upd zo_alike (Int32.toNatClampNeg zo_backLines) (((1 : Int32)) <<< (zo_backLines &&& 31))))), (ao_opposed, .inl (ko_opposed, 27, .inl (upd zo_opposed (Int32.toNatClampNeg zo_backLines) 0)))] := hD
    refine lv_aload_n hx hb d_PT_newBackLine_43 rfl (lv_at hl 1 rfl) ?_
    refine va_get (D := (dC, dI)) (ci := 2) (v := .ref ao_endingAt) (C := R_PT) (T := F_PT) (N := 8) hx hb hts (fun w h => List.mem_cons_of_mem _ (in_PT w h)) hown hK hP 0 rfl rfl 3 (by decide) (hts _ (List.mem_cons_of_mem _ mw_1_45)) (fun _ h9 => h9) rfl d_PT_newBackLine_44 ?_
    refine lv_iload_n hx hb d_PT_newBackLine_47 rfl (lv_at hl 2 rfl) ?_
    refine lv_dup2_11 hx hb d_PT_newBackLine_48 rfl rfl ?_
    have hi_49 := ob_in hI
    have hI := ob_th hI
    refine va_iald (D := (dC, dI)) hx hb hK hP 1 0 rfl rfl hi_49 d_PT_newBackLine_49 ?_
    refine lv_iload_n hx hb d_PT_newBackLine_50 rfl (lv_at hl 0 rfl) ?_
    refine lv_ior hx hb d_PT_newBackLine_51 ?_
    refine va_iast (D := (dC, dI)) hx hb hK hP hD hS 1 0 rfl rfl hi_49 d_PT_newBackLine_52 (fun H locs hP hD hS => ?_)
    have hP : va_P (dC, dI) classes [(ao, .inr (2, [.int zo_backLines, .int zo_clash, .ref ao_depthOf, .ref ao_endingAt, .ref ao_returns, .ref ao_highest, .ref ao_alike, .ref ao_opposed])), (ao_endingAt, .inl (ko_endingAt, 11, .inl (upd zo_endingAt (Int32.toNatClampNeg v1) ((zo_endingAt (Int32.toNatClampNeg v1)) ||| (((1 : Int32)) <<< (zo_backLines &&& 31)))))), (ao_alike, .inl (ko_alike, 27, .inl (upd zo_alike (Int32.toNatClampNeg zo_backLines) (((1 : Int32)) <<< (zo_backLines &&& 31))))), (ao_opposed, .inl (ko_opposed, 27, .inl (upd zo_opposed (Int32.toNatClampNeg zo_backLines) 0)))] H := hP
    have hD : va_D A [(ao, .inr (2, [.int zo_backLines, .int zo_clash, .ref ao_depthOf, .ref ao_endingAt, .ref ao_returns, .ref ao_highest, .ref ao_alike, .ref ao_opposed])), (ao_endingAt, .inl (ko_endingAt, 11, .inl (upd zo_endingAt (Int32.toNatClampNeg v1) ((zo_endingAt (Int32.toNatClampNeg v1)) ||| (((1 : Int32)) <<< (zo_backLines &&& 31)))))), (ao_alike, .inl (ko_alike, 27, .inl (upd zo_alike (Int32.toNatClampNeg zo_backLines) (((1 : Int32)) <<< (zo_backLines &&& 31))))), (ao_opposed, .inl (ko_opposed, 27, .inl (upd zo_opposed (Int32.toNatClampNeg zo_backLines) 0)))] := hD
    refine lv_aload_n hx hb d_PT_newBackLine_53 rfl (lv_at hl 1 rfl) ?_
    refine lv_dup hx hb d_PT_newBackLine_54 rfl ?_
    refine va_get (D := (dC, dI)) (ci := 2) (v := .int zo_backLines) (C := R_PT) (T := F_PT) (N := 8) hx hb hts (fun w h => List.mem_cons_of_mem _ (in_PT w h)) hown hK hP 0 rfl rfl 0 (by decide) (hts _ (List.mem_cons_of_mem _ mw_1_42)) (fun _ h9 => h9) rfl d_PT_newBackLine_55 ?_
    refine lv_iconst (v := 1) hx hb d_PT_newBackLine_58 (by decide) ?_
    refine lv_iadd hx hb d_PT_newBackLine_59 ?_
    refine va_put (D := (dC, dI)) (ci := 2) (v := .int (zo_backLines + 1)) (ty := .int) (C := R_PT) (T := F_PT) (N := 8) hx hb hts (fun w h => List.mem_cons_of_mem _ (in_PT w h)) t_PT t_PT_ok n_PT hown hK hP hD hS 0 rfl rfl 0 (by decide) (hts _ (List.mem_cons_of_mem _ mw_1_42)) (fun _ h9 => h9) rfl (by decide +kernel) rfl rfl (Nat.le_of_ble_eq_true rfl) d_PT_newBackLine_60 (fun H locs hP hD hS => ?_)
    have hP : va_P (dC, dI) classes [(ao, .inr (2, [.int (zo_backLines + 1), .int zo_clash, .ref ao_depthOf, .ref ao_endingAt, .ref ao_returns, .ref ao_highest, .ref ao_alike, .ref ao_opposed])), (ao_endingAt, .inl (ko_endingAt, 11, .inl (upd zo_endingAt (Int32.toNatClampNeg v1) ((zo_endingAt (Int32.toNatClampNeg v1)) ||| (((1 : Int32)) <<< (zo_backLines &&& 31)))))), (ao_alike, .inl (ko_alike, 27, .inl (upd zo_alike (Int32.toNatClampNeg zo_backLines) (((1 : Int32)) <<< (zo_backLines &&& 31))))), (ao_opposed, .inl (ko_opposed, 27, .inl (upd zo_opposed (Int32.toNatClampNeg zo_backLines) 0)))] H := hP
    have hD : va_D A [(ao, .inr (2, [.int (zo_backLines + 1), .int zo_clash, .ref ao_depthOf, .ref ao_endingAt, .ref ao_returns, .ref ao_highest, .ref ao_alike, .ref ao_opposed])), (ao_endingAt, .inl (ko_endingAt, 11, .inl (upd zo_endingAt (Int32.toNatClampNeg v1) ((zo_endingAt (Int32.toNatClampNeg v1)) ||| (((1 : Int32)) <<< (zo_backLines &&& 31)))))), (ao_alike, .inl (ko_alike, 27, .inl (upd zo_alike (Int32.toNatClampNeg zo_backLines) (((1 : Int32)) <<< (zo_backLines &&& 31))))), (ao_opposed, .inl (ko_opposed, 27, .inl (upd zo_opposed (Int32.toNatClampNeg zo_backLines) 0)))] := hD
    refine lv_iload_n hx hb d_PT_newBackLine_63 rfl (lv_at hl 0 rfl) ?_
    exact W.iret (v := ((1 : Int32)) <<< (zo_backLines &&& 31)) hx hb hr (fun t ht hW => ⟨⟨((1 : Int32)) <<< (zo_backLines &&& 31), (zo_backLines + 1, zo_clash, upd zo_endingAt (Int32.toNatClampNeg v1) ((zo_endingAt (Int32.toNatClampNeg v1)) ||| (((1 : Int32)) <<< (zo_backLines &&& 31))), upd zo_alike (Int32.toNatClampNeg zo_backLines) (((1 : Int32)) <<< (zo_backLines &&& 31)), upd zo_opposed (Int32.toNatClampNeg zo_backLines) 0), rfl, (Option.some.inj hI).symm, by rw [ht]; exact hP, va_K.moved hW.alike hK, hD⟩, hS.F ht⟩) hS.2.2 d_PT_newBackLine_64
  · skip
    have hI := hI.trans (if_neg hc_6)
    refine lv_aload_n hx hb d_PT_newBackLine_9 rfl (lv_at hl 0 rfl) ?_
    refine lv_iconst (v := 1) hx hb d_PT_newBackLine_10 (by decide) ?_
    refine va_put (D := (dC, dI)) (ci := 2) (v := .int 1) (ty := .boolean) (C := R_PT) (T := F_PT) (N := 8) hx hb hts (fun w h => List.mem_cons_of_mem _ (in_PT w h)) t_PT t_PT_ok n_PT hown hK hP hD hS 0 rfl rfl 1 (by decide) (hts _ (List.mem_cons_of_mem _ mw_1_43)) (fun _ h9 => h9) rfl (by decide +kernel) rfl rfl (Nat.le_of_ble_eq_true rfl) d_PT_newBackLine_11 (fun H locs hP hD hS => ?_)
    have hP : va_P (dC, dI) classes [(ao, .inr (2, [.int zo_backLines, .int 1, .ref ao_depthOf, .ref ao_endingAt, .ref ao_returns, .ref ao_highest, .ref ao_alike, .ref ao_opposed])), (ao_endingAt, .inl (ko_endingAt, 11, .inl zo_endingAt)), (ao_alike, .inl (ko_alike, 27, .inl zo_alike)), (ao_opposed, .inl (ko_opposed, 27, .inl zo_opposed))] H := hP
    have hD : va_D A [(ao, .inr (2, [.int zo_backLines, .int 1, .ref ao_depthOf, .ref ao_endingAt, .ref ao_returns, .ref ao_highest, .ref ao_alike, .ref ao_opposed])), (ao_endingAt, .inl (ko_endingAt, 11, .inl zo_endingAt)), (ao_alike, .inl (ko_alike, 27, .inl zo_alike)), (ao_opposed, .inl (ko_opposed, 27, .inl zo_opposed))] := hD
    refine lv_iconst (v := 0) hx hb d_PT_newBackLine_14 (by decide) ?_
    exact W.iret (v := 0) hx hb hr (fun t ht hW => ⟨⟨0, (zo_backLines, 1, zo_endingAt, zo_alike, zo_opposed), rfl, (Option.some.inj hI).symm, by rw [ht]; exact hP, va_K.moved hW.alike hK, hD⟩, hS.F ht⟩) hS.2.2 d_PT_newBackLine_15
set_option maxHeartbeats 4000000 in
set_option maxRecDepth 100000 in
theorem c_highestEndG (l : Launch) (dC : Nat → ClassId) (dI : Nat → Nat → Nat) (sz : Nat) (ao ao_depthOf ao_endingAt ao_returns ao_highest ao_alike ao_opposed : Nat) (ko_endingAt : ClassId) (zo_backLines : Int32) (zo_clash : Int32) (zo_endingAt : Nat → Int32) (v1 v2 : Int32) (R : Int32) (hR : F_highestEndG zo_endingAt v1 v2 = some R) : Met l y_PT_highestEnd w_PT_highestEnd ({ frames := 0, cells := 0, slots := 0, locals := 0 }) (Pre_ dC dI sz [.ref ao, .int v1, .int v2] [(ao, .inr (2, [.int zo_backLines, .int zo_clash, .ref ao_depthOf, .ref ao_endingAt, .ref ao_returns, .ref ao_highest, .ref ao_alike, .ref ao_opposed])), (ao_endingAt, .inl (ko_endingAt, 11, .inl zo_endingAt))] [(ko_endingAt, .int)]) (va_Qi (fun (r : Int32) (u : Unit) => r = R) (fun u t => End_ dC dI (va_A [(ao, .inr (2, [.int zo_backLines, .int zo_clash, .ref ao_depthOf, .ref ao_endingAt, .ref ao_returns, .ref ao_highest, .ref ao_alike, .ref ao_opposed])), (ao_endingAt, .inl (ko_endingAt, 11, .inl zo_endingAt))] sz) [(ko_endingAt, .int)] [(ao, .inr (2, [.int zo_backLines, .int zo_clash, .ref ao_depthOf, .ref ao_endingAt, .ref ao_returns, .ref ao_highest, .ref ao_alike, .ref ao_opposed])), (ao_endingAt, .inl (ko_endingAt, 11, .inl zo_endingAt))] t) (va_A [(ao, .inr (2, [.int zo_backLines, .int zo_clash, .ref ao_depthOf, .ref ao_endingAt, .ref ao_returns, .ref ao_highest, .ref ao_alike, .ref ao_opposed])), (ao_endingAt, .inl (ko_endingAt, 11, .inl zo_endingAt))] sz)) 0 0 (va_A [(ao, .inr (2, [.int zo_backLines, .int zo_clash, .ref ao_depthOf, .ref ao_endingAt, .ref ao_returns, .ref ao_highest, .ref ao_alike, .ref ao_opposed])), (ao_endingAt, .inl (ko_endingAt, 11, .inl zo_endingAt))] sz) := by
  refine Met.ofW (cc := b_PT_highestEnd) (maxL := 4) (ret := (some .int)) (by decide) rfl ?_
  intro p e s m args below meth c s₁ B hml hv
  obtain ⟨hargs, hsz, hP, hK, hD0, hN⟩ := hv
  have hx := B.exec
  have hb := B.bytes
  have hr := B.returns
  have hts := atoms_spec (ws := w_PT_highestEnd) B.pre
  have hown : s.vm.findClass R_PT = some m.cls := findClass_of_methodNamed B.named
  have hlocks := B.notSynchronized
  subst hsz
  have hD := hD0.self (sz := s.heap.size)
  generalize hAe : va_A [(ao, .inr (2, [.int zo_backLines, .int zo_clash, .ref ao_depthOf, .ref ao_endingAt, .ref ao_returns, .ref ao_highest, .ref ao_alike, .ref ao_opposed])), (ao_endingAt, .inl (ko_endingAt, 11, .inl zo_endingAt))] s.heap.size = A at hD ⊢
  have hA : ∀ q : Nat, s.heap.size ≤ q → A q := fun q h => by rw [← hAe]; exact Or.inr h
  have hS : va_S A s.heap s.heap [] := va_S.rf
  have hl := lv_entry ([.ref ao, .int v1, .int v2]) (n := 4) (Nat.le_of_ble_eq_true rfl)
  refine W.eq (congrArg (fun a => entryFrame m a 4) hargs) ?_
  rw [lg_entry_eq]
  generalize (lg_sl ([.ref ao, .int v1, .int v2]) ++ List.replicate (4 - (lg_sl ([.ref ao, .int v1, .int v2])).length) Slot.unset).toArray = ls at hl ⊢
  have hl : lv_has ls 4 [(0, .ref ao), (1, .int v1), (2, .int v2)] := hl
  generalize hH0 : ([] : List Loc) = locs at hS ⊢
  have hI := hR.symm
  rw [F_highestEndG] at hI
  refine lv_iconst (v := 0) hx hb d_PT_highestEnd_0 (by decide) ?_
  refine lv_istore_n (lv' := [(3, .int 0), (0, .ref ao), (1, .int v1), (2, .int v2)]) hx hb d_PT_highestEnd_1 rfl hl (by decide) rfl (fun ls hl => ?_)
  obtain ⟨K_2, hK_2⟩ : ∃ K : Int32 → Option (Int32), K = (fun v3_2 => some (v2)) := ⟨_, rfl⟩
  have X_2 : ∀ (k_2 : Nat) (v3_2 : Int32) (H : Heap) (locs : List Loc) (ls : Array Slot), some R = K_2 v3_2 → va_P (dC, dI) classes [(ao, .inr (2, [.int zo_backLines, .int zo_clash, .ref ao_depthOf, .ref ao_endingAt, .ref ao_returns, .ref ao_highest, .ref ao_alike, .ref ao_opposed])), (ao_endingAt, .inl (ko_endingAt, 11, .inl zo_endingAt))] H → va_D A [(ao, .inr (2, [.int zo_backLines, .int zo_clash, .ref ao_depthOf, .ref ao_endingAt, .ref ao_returns, .ref ao_highest, .ref ao_alike, .ref ao_opposed])), (ao_endingAt, .inl (ko_endingAt, 11, .inl zo_endingAt))] → va_S A s.heap H locs → lv_has ls 4 [(0, .ref ao), (1, .int v1), (2, .int v2), (3, .int v3_2)] → W p l e (headSpec w_PT_highestEnd ({ frames := 0, cells := 0, slots := 0, locals := 0 })).room s m args below meth c H locs 0 0 (MQ below (va_Qi (fun (r : Int32) (u : Unit) => r = R) (fun u t => End_ dC dI A [(ko_endingAt, .int)] [(ao, .inr (2, [.int zo_backLines, .int zo_clash, .ref ao_depthOf, .ref ao_endingAt, .ref ao_returns, .ref ao_highest, .ref ao_alike, .ref ao_opposed])), (ao_endingAt, .inl (ko_endingAt, 11, .inl zo_endingAt))] t) A) args s 0 0 A) (F0 m 26 ls []) := by
    intro k_2 v3_2 H locs ls hI hP hD hS hl
    rw [hK_2] at hI
    refine lv_iload_n hx hb d_PT_highestEnd_26 rfl (lv_at hl 2 rfl) ?_
    exact W.iret (v := v2) hx hb hr (fun t ht hW => ⟨⟨v2, (), rfl, (Option.some.inj hI).symm, by rw [ht]; exact hP, va_K.moved hW.alike hK, hD⟩, hS.F ht⟩) hS.2.2 d_PT_highestEnd_27
  have L_2 : ∀ (n_2 k_2 : Nat) (v3_2 : Int32) (H : Heap) (locs : List Loc) (ls : Array Slot), some R = F_highestEndG_L2 K_2 zo_endingAt v1 v2 n_2 v3_2 → va_P (dC, dI) classes [(ao, .inr (2, [.int zo_backLines, .int zo_clash, .ref ao_depthOf, .ref ao_endingAt, .ref ao_returns, .ref ao_highest, .ref ao_alike, .ref ao_opposed])), (ao_endingAt, .inl (ko_endingAt, 11, .inl zo_endingAt))] H → va_D A [(ao, .inr (2, [.int zo_backLines, .int zo_clash, .ref ao_depthOf, .ref ao_endingAt, .ref ao_returns, .ref ao_highest, .ref ao_alike, .ref ao_opposed])), (ao_endingAt, .inl (ko_endingAt, 11, .inl zo_endingAt))] → va_S A s.heap H locs → lv_has ls 4 [(0, .ref ao), (1, .int v1), (2, .int v2), (3, .int v3_2)] → W p l e (headSpec w_PT_highestEnd ({ frames := 0, cells := 0, slots := 0, locals := 0 })).room s m args below meth c H locs 0 0 (MQ below (va_Qi (fun (r : Int32) (u : Unit) => r = R) (fun u t => End_ dC dI A [(ko_endingAt, .int)] [(ao, .inr (2, [.int zo_backLines, .int zo_clash, .ref ao_depthOf, .ref ao_endingAt, .ref ao_returns, .ref ao_highest, .ref ao_alike, .ref ao_opposed])), (ao_endingAt, .inl (ko_endingAt, 11, .inl zo_endingAt))] t) A) args s 0 0 A) (F0 m 2 ls []) := by
    intro n_2
    induction n_2 with
    | zero =>
      intro k_2 v3_2 H locs ls hI hP hD hS hl
      rw [F_highestEndG_L2] at hI
      exact absurd hI (ob_no _)
    | succ n_2 ih_2 =>
      intro k_2 v3_2 H locs ls hI hP hD hS hl
      rw [F_highestEndG_L2] at hI
      refine lv_iload_n hx hb d_PT_highestEnd_2 rfl (lv_at hl 3 rfl) ?_
      refine lv_iload_n hx hb d_PT_highestEnd_3 rfl (lv_at hl 2 rfl) ?_
      refine lv_icmp_ge (tgt := 26) hx hb d_PT_highestEnd_4 rfl (fun hc_4 => ?_) (fun hc_4 => ?_)
      · skip
        have hI := hI.trans (if_pos hc_4)
        have hl := lv_sub hl [0, 1, 2, 3] rfl
        exact X_2 0 _ _ _ _ hI hP hD hS hl
      · skip
        have hI := hI.trans (if_neg hc_4)
        refine lv_iload_n hx hb d_PT_highestEnd_7 rfl (lv_at hl 1 rfl) ?_
        refine lv_aload_n hx hb d_PT_highestEnd_8 rfl (lv_at hl 0 rfl) ?_
        refine va_get (D := (dC, dI)) (ci := 2) (v := .ref ao_endingAt) (C := R_PT) (T := F_PT) (N := 8) hx hb hts (fun w h => List.mem_cons_of_mem _ (in_PT w h)) hown hK hP 0 rfl rfl 3 (by decide) (hts _ (List.mem_cons_of_mem _ mw_1_45)) (fun _ h9 => h9) rfl d_PT_highestEnd_9 ?_
        refine lv_iload_n hx hb d_PT_highestEnd_12 rfl (lv_at hl 3 rfl) ?_
        have hi_13 := ob_in hI
        have hI := ob_th hI
        refine va_iald (D := (dC, dI)) hx hb hK hP 1 0 rfl rfl hi_13 d_PT_highestEnd_13 ?_
        refine lv_iand hx hb d_PT_highestEnd_14 ?_
        refine lv_if_eq (tgt := 20) hx hb d_PT_highestEnd_15 rfl (fun hc_15 => ?_) (fun hc_15 => ?_)
        · skip
          have hI := hI.trans (if_pos hc_15)
          refine lv_iinc (lv' := [(3, .int (v3_2 + 1)), (0, .ref ao), (1, .int v1), (2, .int v2)]) (k := 3) hx hb d_PT_highestEnd_20 hl rfl (z_inc1 _) (by decide) rfl (fun ls hl => ?_)
          refine lv_goto (tgt := 2) hx hb d_PT_highestEnd_23 rfl ?_
          have hl := lv_sub hl [1, 2, 3, 0] rfl
          exact ih_2 0 _ _ _ _ hI hP hD hS hl
        · skip
          have hI := hI.trans (if_neg hc_15)
          refine lv_iload_n hx hb d_PT_highestEnd_18 rfl (lv_at hl 3 rfl) ?_
          exact W.iret (v := v3_2) hx hb hr (fun t ht hW => ⟨⟨v3_2, (), rfl, (Option.some.inj hI).symm, by rw [ht]; exact hP, va_K.moved hW.alike hK, hD⟩, hS.F ht⟩) hS.2.2 d_PT_highestEnd_19
  have hl : lv_has ls 4 [(0, .ref ao), (1, .int v1), (2, .int v2), (3, .int 0)] := by first | exact lv_sub hl [1, 2, 3, 0] rfl | (rw [nI_succ]; exact lv_sub hl [1, 2, 3, 0] rfl)
  exact L_2 64 0 _ _ _ _ (by rw [hK_2]; exact hI) hP hD hS hl
set_option maxHeartbeats 4000000 in
set_option maxRecDepth 100000 in
theorem c_endingBelowG (l : Launch) (dC : Nat → ClassId) (dI : Nat → Nat → Nat) (sz : Nat) (ao ao_depthOf ao_endingAt ao_returns ao_highest ao_alike ao_opposed : Nat) (ko_endingAt : ClassId) (zo_backLines : Int32) (zo_clash : Int32) (zo_endingAt : Nat → Int32) (v1 v2 : Int32) (R : Int32) (hR : F_endingBelowG zo_endingAt v1 v2 = some R) : Met l y_PT_endingBelow w_PT_endingBelow ({ frames := 0, cells := 0, slots := 0, locals := 0 }) (Pre_ dC dI sz [.ref ao, .int v1, .int v2] [(ao, .inr (2, [.int zo_backLines, .int zo_clash, .ref ao_depthOf, .ref ao_endingAt, .ref ao_returns, .ref ao_highest, .ref ao_alike, .ref ao_opposed])), (ao_endingAt, .inl (ko_endingAt, 11, .inl zo_endingAt))] [(ko_endingAt, .int)]) (va_Qi (fun (r : Int32) (u : Unit) => r = R) (fun u t => End_ dC dI (va_A [(ao, .inr (2, [.int zo_backLines, .int zo_clash, .ref ao_depthOf, .ref ao_endingAt, .ref ao_returns, .ref ao_highest, .ref ao_alike, .ref ao_opposed])), (ao_endingAt, .inl (ko_endingAt, 11, .inl zo_endingAt))] sz) [(ko_endingAt, .int)] [(ao, .inr (2, [.int zo_backLines, .int zo_clash, .ref ao_depthOf, .ref ao_endingAt, .ref ao_returns, .ref ao_highest, .ref ao_alike, .ref ao_opposed])), (ao_endingAt, .inl (ko_endingAt, 11, .inl zo_endingAt))] t) (va_A [(ao, .inr (2, [.int zo_backLines, .int zo_clash, .ref ao_depthOf, .ref ao_endingAt, .ref ao_returns, .ref ao_highest, .ref ao_alike, .ref ao_opposed])), (ao_endingAt, .inl (ko_endingAt, 11, .inl zo_endingAt))] sz)) 0 0 (va_A [(ao, .inr (2, [.int zo_backLines, .int zo_clash, .ref ao_depthOf, .ref ao_endingAt, .ref ao_returns, .ref ao_highest, .ref ao_alike, .ref ao_opposed])), (ao_endingAt, .inl (ko_endingAt, 11, .inl zo_endingAt))] sz) := by
  refine Met.ofW (cc := b_PT_endingBelow) (maxL := 5) (ret := (some .int)) (by decide) rfl ?_
  intro p e s m args below meth c s₁ B hml hv
  obtain ⟨hargs, hsz, hP, hK, hD0, hN⟩ := hv
  have hx := B.exec
  have hb := B.bytes
  have hr := B.returns
  have hts := atoms_spec (ws := w_PT_endingBelow) B.pre
  have hown : s.vm.findClass R_PT = some m.cls := findClass_of_methodNamed B.named
  have hlocks := B.notSynchronized
  subst hsz
  have hD := hD0.self (sz := s.heap.size)
  generalize hAe : va_A [(ao, .inr (2, [.int zo_backLines, .int zo_clash, .ref ao_depthOf, .ref ao_endingAt, .ref ao_returns, .ref ao_highest, .ref ao_alike, .ref ao_opposed])), (ao_endingAt, .inl (ko_endingAt, 11, .inl zo_endingAt))] s.heap.size = A at hD ⊢
  have hA : ∀ q : Nat, s.heap.size ≤ q → A q := fun q h => by rw [← hAe]; exact Or.inr h
  have hS : va_S A s.heap s.heap [] := va_S.rf
  have hl := lv_entry ([.ref ao, .int v1, .int v2]) (n := 5) (Nat.le_of_ble_eq_true rfl)
  refine W.eq (congrArg (fun a => entryFrame m a 5) hargs) ?_
  rw [lg_entry_eq]
  generalize (lg_sl ([.ref ao, .int v1, .int v2]) ++ List.replicate (5 - (lg_sl ([.ref ao, .int v1, .int v2])).length) Slot.unset).toArray = ls at hl ⊢
  have hl : lv_has ls 5 [(0, .ref ao), (1, .int v1), (2, .int v2)] := hl
  generalize hH0 : ([] : List Loc) = locs at hS ⊢
  have hI := hR.symm
  rw [F_endingBelowG] at hI
  refine lv_iload_n hx hb d_PT_endingBelow_0 rfl (lv_at hl 2 rfl) ?_
  refine lv_istore_n (lv' := [(3, .int v2), (0, .ref ao), (1, .int v1), (2, .int v2)]) hx hb d_PT_endingBelow_1 rfl hl (by decide) rfl (fun ls hl => ?_)
  refine lv_iconst (v := 0) hx hb d_PT_endingBelow_2 (by decide) ?_
  refine lv_istore (lv' := [(4, .int 0), (3, .int v2), (0, .ref ao), (1, .int v1), (2, .int v2)]) hx hb d_PT_endingBelow_3 hl (by decide) rfl (fun ls hl => ?_)
  obtain ⟨K_5, hK_5⟩ : ∃ K : Int32 → Int32 → Option (Int32), K = (fun v3_5 v4_5 => some (v3_5)) := ⟨_, rfl⟩
  have X_5 : ∀ (k_5 : Nat) (v3_5 : Int32) (v4_5 : Int32) (H : Heap) (locs : List Loc) (ls : Array Slot), some R = K_5 v3_5 v4_5 → va_P (dC, dI) classes [(ao, .inr (2, [.int zo_backLines, .int zo_clash, .ref ao_depthOf, .ref ao_endingAt, .ref ao_returns, .ref ao_highest, .ref ao_alike, .ref ao_opposed])), (ao_endingAt, .inl (ko_endingAt, 11, .inl zo_endingAt))] H → va_D A [(ao, .inr (2, [.int zo_backLines, .int zo_clash, .ref ao_depthOf, .ref ao_endingAt, .ref ao_returns, .ref ao_highest, .ref ao_alike, .ref ao_opposed])), (ao_endingAt, .inl (ko_endingAt, 11, .inl zo_endingAt))] → va_S A s.heap H locs → lv_has ls 5 [(0, .ref ao), (1, .int v1), (2, .int v2), (3, .int v3_5), (4, .int v4_5)] → W p l e (headSpec w_PT_endingBelow ({ frames := 0, cells := 0, slots := 0, locals := 0 })).room s m args below meth c H locs 0 0 (MQ below (va_Qi (fun (r : Int32) (u : Unit) => r = R) (fun u t => End_ dC dI A [(ko_endingAt, .int)] [(ao, .inr (2, [.int zo_backLines, .int zo_clash, .ref ao_depthOf, .ref ao_endingAt, .ref ao_returns, .ref ao_highest, .ref ao_alike, .ref ao_opposed])), (ao_endingAt, .inl (ko_endingAt, 11, .inl zo_endingAt))] t) A) args s 0 0 A) (F0 m 29 ls []) := by
    intro k_5 v3_5 v4_5 H locs ls hI hP hD hS hl
    rw [hK_5] at hI
    refine lv_iload_n hx hb d_PT_endingBelow_29 rfl (lv_at hl 3 rfl) ?_
    exact W.iret (v := v3_5) hx hb hr (fun t ht hW => ⟨⟨v3_5, (), rfl, (Option.some.inj hI).symm, by rw [ht]; exact hP, va_K.moved hW.alike hK, hD⟩, hS.F ht⟩) hS.2.2 d_PT_endingBelow_30
  have L_5 : ∀ (n_5 k_5 : Nat) (v3_5 : Int32) (v4_5 : Int32) (H : Heap) (locs : List Loc) (ls : Array Slot), some R = F_endingBelowG_L5 K_5 zo_endingAt v1 n_5 v3_5 v4_5 → va_P (dC, dI) classes [(ao, .inr (2, [.int zo_backLines, .int zo_clash, .ref ao_depthOf, .ref ao_endingAt, .ref ao_returns, .ref ao_highest, .ref ao_alike, .ref ao_opposed])), (ao_endingAt, .inl (ko_endingAt, 11, .inl zo_endingAt))] H → va_D A [(ao, .inr (2, [.int zo_backLines, .int zo_clash, .ref ao_depthOf, .ref ao_endingAt, .ref ao_returns, .ref ao_highest, .ref ao_alike, .ref ao_opposed])), (ao_endingAt, .inl (ko_endingAt, 11, .inl zo_endingAt))] → va_S A s.heap H locs → lv_has ls 5 [(0, .ref ao), (1, .int v1), (2, .int v2), (3, .int v3_5), (4, .int v4_5)] → W p l e (headSpec w_PT_endingBelow ({ frames := 0, cells := 0, slots := 0, locals := 0 })).room s m args below meth c H locs 0 0 (MQ below (va_Qi (fun (r : Int32) (u : Unit) => r = R) (fun u t => End_ dC dI A [(ko_endingAt, .int)] [(ao, .inr (2, [.int zo_backLines, .int zo_clash, .ref ao_depthOf, .ref ao_endingAt, .ref ao_returns, .ref ao_highest, .ref ao_alike, .ref ao_opposed])), (ao_endingAt, .inl (ko_endingAt, 11, .inl zo_endingAt))] t) A) args s 0 0 A) (F0 m 5 ls []) := by
    intro n_5
    induction n_5 with
    | zero =>
      intro k_5 v3_5 v4_5 H locs ls hI hP hD hS hl
      rw [F_endingBelowG_L5] at hI
      exact absurd hI (ob_no _)
    | succ n_5 ih_5 =>
      intro k_5 v3_5 v4_5 H locs ls hI hP hD hS hl
      rw [F_endingBelowG_L5] at hI
      refine lv_iload hx hb d_PT_endingBelow_5 (lv_at hl 4 rfl) ?_
      refine lv_iload_n hx hb d_PT_endingBelow_7 rfl (lv_at hl 1 rfl) ?_
      refine lv_icmp_gt (tgt := 29) hx hb d_PT_endingBelow_8 rfl (fun hc_8 => ?_) (fun hc_8 => ?_)
      · skip
        have hI := hI.trans (if_pos hc_8)
        have hl := lv_sub hl [0, 1, 2, 3, 4] rfl
        exact X_5 0 _ _ _ _ _ hI hP hD hS hl
      · skip
        have hI := hI.trans (if_neg hc_8)
        refine lv_iload_n hx hb d_PT_endingBelow_11 rfl (lv_at hl 3 rfl) ?_
        refine lv_aload_n hx hb d_PT_endingBelow_12 rfl (lv_at hl 0 rfl) ?_
        refine va_get (D := (dC, dI)) (ci := 2) (v := .ref ao_endingAt) (C := R_PT) (T := F_PT) (N := 8) hx hb hts (fun w h => List.mem_cons_of_mem _ (in_PT w h)) hown hK hP 0 rfl rfl 3 (by decide) (hts _ (List.mem_cons_of_mem _ mw_1_45)) (fun _ h9 => h9) rfl d_PT_endingBelow_13 ?_
        refine lv_iload hx hb d_PT_endingBelow_16 (lv_at hl 4 rfl) ?_
        have hi_18 := ob_in hI
        have hI := ob_th hI
        refine va_iald (D := (dC, dI)) hx hb hK hP 1 0 rfl rfl hi_18 d_PT_endingBelow_18 ?_
        refine lv_iconst (v := -1) hx hb d_PT_endingBelow_19 (by decide) ?_
        refine lv_ixor hx hb d_PT_endingBelow_20 ?_
        refine lv_iand hx hb d_PT_endingBelow_21 ?_
        refine lv_istore_n (lv' := [(3, .int (v3_5 &&& ((zo_endingAt (Int32.toNatClampNeg v4_5)) ^^^ ((-1))))), (0, .ref ao), (1, .int v1), (2, .int v2), (4, .int v4_5)]) hx hb d_PT_endingBelow_22 rfl hl (by decide) rfl (fun ls hl => ?_)
        refine lv_iinc (lv' := [(4, .int (v4_5 + 1)), (3, .int (v3_5 &&& ((zo_endingAt (Int32.toNatClampNeg v4_5)) ^^^ ((-1))))), (0, .ref ao), (1, .int v1), (2, .int v2)]) (k := 4) hx hb d_PT_endingBelow_23 hl rfl (z_inc1 _) (by decide) rfl (fun ls hl => ?_)
        refine lv_goto (tgt := 5) hx hb d_PT_endingBelow_26 rfl ?_
        have hl := lv_sub hl [2, 3, 4, 1, 0] rfl
        exact ih_5 0 _ _ _ _ _ hI hP hD hS hl
  have hl : lv_has ls 5 [(0, .ref ao), (1, .int v1), (2, .int v2), (3, .int v2), (4, .int 0)] := by first | exact lv_sub hl [2, 3, 4, 1, 0] rfl | (rw [nI_succ]; exact lv_sub hl [2, 3, 4, 1, 0] rfl)
  exact L_5 64 0 _ _ _ _ _ (by rw [hK_5]; exact hI) hP hD hS hl
set_option maxHeartbeats 4000000 in
set_option maxRecDepth 100000 in
theorem c_partSidesG (l : Launch) (dC : Nat → ClassId) (dI : Nat → Nat → Nat) (sz : Nat) (ao ao_depthOf ao_endingAt ao_returns ao_highest ao_alike ao_opposed : Nat) (ko_alike ko_opposed : ClassId) (zo_backLines : Int32) (zo_clash : Int32) (zo_alike : Nat → Int32) (zo_opposed : Nat → Int32) (v1 v2 : Int32) (R : Int32 × (Nat → Int32) × (Nat → Int32)) (hR : F_partSidesG zo_backLines zo_clash zo_alike zo_opposed v1 v2 = some R) : Met l y_PT_partSides w_PT_partSides ({ frames := 0, cells := 0, slots := 0, locals := 0 }) (Pre_ dC dI sz [.ref ao, .int v1, .int v2] [(ao, .inr (2, [.int zo_backLines, .int zo_clash, .ref ao_depthOf, .ref ao_endingAt, .ref ao_returns, .ref ao_highest, .ref ao_alike, .ref ao_opposed])), (ao_alike, .inl (ko_alike, 27, .inl zo_alike)), (ao_opposed, .inl (ko_opposed, 27, .inl zo_opposed))] [(ko_alike, .int), (ko_opposed, .int)]) (va_Qv (fun (u : Int32 × (Nat → Int32) × (Nat → Int32)) => u = R) (fun u t => End_ dC dI (va_A [(ao, .inr (2, [.int zo_backLines, .int zo_clash, .ref ao_depthOf, .ref ao_endingAt, .ref ao_returns, .ref ao_highest, .ref ao_alike, .ref ao_opposed])), (ao_alike, .inl (ko_alike, 27, .inl zo_alike)), (ao_opposed, .inl (ko_opposed, 27, .inl zo_opposed))] sz) [(ko_alike, .int), (ko_opposed, .int)] [(ao, .inr (2, [.int zo_backLines, .int u.1, .ref ao_depthOf, .ref ao_endingAt, .ref ao_returns, .ref ao_highest, .ref ao_alike, .ref ao_opposed])), (ao_alike, .inl (ko_alike, 27, .inl u.2.1)), (ao_opposed, .inl (ko_opposed, 27, .inl u.2.2))] t) (va_A [(ao, .inr (2, [.int zo_backLines, .int zo_clash, .ref ao_depthOf, .ref ao_endingAt, .ref ao_returns, .ref ao_highest, .ref ao_alike, .ref ao_opposed])), (ao_alike, .inl (ko_alike, 27, .inl zo_alike)), (ao_opposed, .inl (ko_opposed, 27, .inl zo_opposed))] sz)) 0 0 (va_A [(ao, .inr (2, [.int zo_backLines, .int zo_clash, .ref ao_depthOf, .ref ao_endingAt, .ref ao_returns, .ref ao_highest, .ref ao_alike, .ref ao_opposed])), (ao_alike, .inl (ko_alike, 27, .inl zo_alike)), (ao_opposed, .inl (ko_opposed, 27, .inl zo_opposed))] sz) := by
  refine Met.ofW (cc := b_PT_partSides) (maxL := 7) (ret := none) (by decide) rfl ?_
  intro p e s m args below meth c s₁ B hml hv
  obtain ⟨hargs, hsz, hP, hK, hD0, hN⟩ := hv
  have hx := B.exec
  have hb := B.bytes
  have hr := B.returns
  have hts := atoms_spec (ws := w_PT_partSides) B.pre
  have hown : s.vm.findClass R_PT = some m.cls := findClass_of_methodNamed B.named
  have hlocks := B.notSynchronized
  subst hsz
  have hD := hD0.self (sz := s.heap.size)
  generalize hAe : va_A [(ao, .inr (2, [.int zo_backLines, .int zo_clash, .ref ao_depthOf, .ref ao_endingAt, .ref ao_returns, .ref ao_highest, .ref ao_alike, .ref ao_opposed])), (ao_alike, .inl (ko_alike, 27, .inl zo_alike)), (ao_opposed, .inl (ko_opposed, 27, .inl zo_opposed))] s.heap.size = A at hD ⊢
  have hA : ∀ q : Nat, s.heap.size ≤ q → A q := fun q h => by rw [← hAe]; exact Or.inr h
  have hS : va_S A s.heap s.heap [] := va_S.rf
  have hl := lv_entry ([.ref ao, .int v1, .int v2]) (n := 7) (Nat.le_of_ble_eq_true rfl)
  refine W.eq (congrArg (fun a => entryFrame m a 7) hargs) ?_
  rw [lg_entry_eq]
  generalize (lg_sl ([.ref ao, .int v1, .int v2]) ++ List.replicate (7 - (lg_sl ([.ref ao, .int v1, .int v2])).length) Slot.unset).toArray = ls at hl ⊢
  have hl : lv_has ls 7 [(0, .ref ao), (1, .int v1), (2, .int v2)] := hl
  generalize hH0 : ([] : List Loc) = locs at hS ⊢
  have hI := hR.symm
  rw [F_partSidesG] at hI
  refine lv_iconst (v := 0) hx hb d_PT_partSides_0 (by decide) ?_
  refine lv_istore_n (lv' := [(3, .int 0), (0, .ref ao), (1, .int v1), (2, .int v2)]) hx hb d_PT_partSides_1 rfl hl (by decide) rfl (fun ls hl => ?_)
  refine lv_iconst (v := 0) hx hb d_PT_partSides_2 (by decide) ?_
  refine lv_istore (lv' := [(4, .int 0), (3, .int 0), (0, .ref ao), (1, .int v1), (2, .int v2)]) hx hb d_PT_partSides_3 hl (by decide) rfl (fun ls hl => ?_)
  refine lv_iconst (v := 0) hx hb d_PT_partSides_5 (by decide) ?_
  refine lv_istore (lv' := [(5, .int 0), (4, .int 0), (3, .int 0), (0, .ref ao), (1, .int v1), (2, .int v2)]) hx hb d_PT_partSides_6 hl (by decide) rfl (fun ls hl => ?_)
  obtain ⟨K_8, hK_8⟩ : ∃ K : Int32 → Int32 → Int32 → Option (Int32 × (Nat → Int32) × (Nat → Int32)), K = (fun v3_8 v4_8 v5_8 => ((fun (j_99_91 : Int32) => (F_partSidesG_L102 (fun v5_102 wo_alike_102 wo_opposed_102 => some (j_99_91, wo_alike_102, wo_opposed_102)) zo_backLines v3_8 v4_8 64 ((0 : Int32)) zo_alike zo_opposed)) (if (v3_8 &&& v4_8) = 0 then (zo_clash) else ((1 : Int32))))) := ⟨_, rfl⟩
  have X_8 : ∀ (k_8 : Nat) (v3_8 : Int32) (v4_8 : Int32) (v5_8 : Int32) (H : Heap) (locs : List Loc) (ls : Array Slot), some R = K_8 v3_8 v4_8 v5_8 → va_P (dC, dI) classes [(ao, .inr (2, [.int zo_backLines, .int zo_clash, .ref ao_depthOf, .ref ao_endingAt, .ref ao_returns, .ref ao_highest, .ref ao_alike, .ref ao_opposed])), (ao_alike, .inl (ko_alike, 27, .inl zo_alike)), (ao_opposed, .inl (ko_opposed, 27, .inl zo_opposed))] H → va_D A [(ao, .inr (2, [.int zo_backLines, .int zo_clash, .ref ao_depthOf, .ref ao_endingAt, .ref ao_returns, .ref ao_highest, .ref ao_alike, .ref ao_opposed])), (ao_alike, .inl (ko_alike, 27, .inl zo_alike)), (ao_opposed, .inl (ko_opposed, 27, .inl zo_opposed))] → va_S A s.heap H locs → lv_has ls 7 [(0, .ref ao), (1, .int v1), (2, .int v2), (3, .int v3_8), (4, .int v4_8), (5, .int v5_8)] → W p l e (headSpec w_PT_partSides ({ frames := 0, cells := 0, slots := 0, locals := 0 })).room s m args below meth c H locs 0 0 (MQ below (va_Qv (fun (u : Int32 × (Nat → Int32) × (Nat → Int32)) => u = R) (fun u t => End_ dC dI A [(ko_alike, .int), (ko_opposed, .int)] [(ao, .inr (2, [.int zo_backLines, .int u.1, .ref ao_depthOf, .ref ao_endingAt, .ref ao_returns, .ref ao_highest, .ref ao_alike, .ref ao_opposed])), (ao_alike, .inl (ko_alike, 27, .inl u.2.1)), (ao_opposed, .inl (ko_opposed, 27, .inl u.2.2))] t) A) args s 0 0 A) (F0 m 87 ls []) := by
    intro k_8 v3_8 v4_8 v5_8 H locs ls hI hP hD hS hl
    rw [hK_8] at hI
    refine lv_iload_n hx hb d_PT_partSides_87 rfl (lv_at hl 3 rfl) ?_
    refine lv_iload hx hb d_PT_partSides_88 (lv_at hl 4 rfl) ?_
    refine lv_iand hx hb d_PT_partSides_90 ?_
    obtain ⟨K_j99_91, hK_j99_91⟩ : ∃ K : Int32 → Option (Int32 × (Nat → Int32) × (Nat → Int32)), K = (fun (j_99_91 : Int32) => (F_partSidesG_L102 (fun v5_102 wo_alike_102 wo_opposed_102 => some (j_99_91, wo_alike_102, wo_opposed_102)) zo_backLines v3_8 v4_8 64 ((0 : Int32)) zo_alike zo_opposed)) := ⟨_, rfl⟩
    have J_99_91 : ∀ (wo_clash_99_91 : Int32) (H : Heap) (locs : List Loc) (ls : Array Slot), some R = (K_j99_91 wo_clash_99_91) → va_P (dC, dI) classes [(ao, .inr (2, [.int zo_backLines, .int wo_clash_99_91, .ref ao_depthOf, .ref ao_endingAt, .ref ao_returns, .ref ao_highest, .ref ao_alike, .ref ao_opposed])), (ao_alike, .inl (ko_alike, 27, .inl zo_alike)), (ao_opposed, .inl (ko_opposed, 27, .inl zo_opposed))] H → va_D A [(ao, .inr (2, [.int zo_backLines, .int wo_clash_99_91, .ref ao_depthOf, .ref ao_endingAt, .ref ao_returns, .ref ao_highest, .ref ao_alike, .ref ao_opposed])), (ao_alike, .inl (ko_alike, 27, .inl zo_alike)), (ao_opposed, .inl (ko_opposed, 27, .inl zo_opposed))] → va_S A s.heap H locs → lv_has ls 7 [(0, .ref ao), (1, .int v1), (2, .int v2), (3, .int v3_8), (4, .int v4_8), (5, .int v5_8)] → W p l e (headSpec w_PT_partSides ({ frames := 0, cells := 0, slots := 0, locals := 0 })).room s m args below meth c H locs 0 0 (MQ below (va_Qv (fun (u : Int32 × (Nat → Int32) × (Nat → Int32)) => u = R) (fun u t => End_ dC dI A [(ko_alike, .int), (ko_opposed, .int)] [(ao, .inr (2, [.int zo_backLines, .int u.1, .ref ao_depthOf, .ref ao_endingAt, .ref ao_returns, .ref ao_highest, .ref ao_alike, .ref ao_opposed])), (ao_alike, .inl (ko_alike, 27, .inl u.2.1)), (ao_opposed, .inl (ko_opposed, 27, .inl u.2.2))] t) A) args s 0 0 A) (F0 m 99 ls []) := by
      intro wo_clash_99_91 H locs ls hI hP hD hS hl
      rw [hK_j99_91] at hI
      refine lv_iconst (v := 0) hx hb d_PT_partSides_99 (by decide) ?_
      refine lv_istore (lv' := [(5, .int 0), (0, .ref ao), (1, .int v1), (2, .int v2), (3, .int v3_8), (4, .int v4_8)]) hx hb d_PT_partSides_100 hl (by decide) rfl (fun ls hl => ?_)
      obtain ⟨K_102, hK_102⟩ : ∃ K : Int32 → (Nat → Int32) → (Nat → Int32) → Option (Int32 × (Nat → Int32) × (Nat → Int32)), K = (fun v5_102 wo_alike_102 wo_opposed_102 => some (wo_clash_99_91, wo_alike_102, wo_opposed_102)) := ⟨_, rfl⟩
      have X_102 : ∀ (k_102 : Nat) (v5_102 : Int32) (wo_alike_102 : Nat → Int32) (wo_opposed_102 : Nat → Int32) (H : Heap) (locs : List Loc) (ls : Array Slot), some R = K_102 v5_102 wo_alike_102 wo_opposed_102 → va_P (dC, dI) classes [(ao, .inr (2, [.int zo_backLines, .int wo_clash_99_91, .ref ao_depthOf, .ref ao_endingAt, .ref ao_returns, .ref ao_highest, .ref ao_alike, .ref ao_opposed])), (ao_alike, .inl (ko_alike, 27, .inl wo_alike_102)), (ao_opposed, .inl (ko_opposed, 27, .inl wo_opposed_102))] H → va_D A [(ao, .inr (2, [.int zo_backLines, .int wo_clash_99_91, .ref ao_depthOf, .ref ao_endingAt, .ref ao_returns, .ref ao_highest, .ref ao_alike, .ref ao_opposed])), (ao_alike, .inl (ko_alike, 27, .inl wo_alike_102)), (ao_opposed, .inl (ko_opposed, 27, .inl wo_opposed_102))] → va_S A s.heap H locs → lv_has ls 7 [(0, .ref ao), (1, .int v1), (2, .int v2), (3, .int v3_8), (4, .int v4_8), (5, .int v5_102)] → W p l e (headSpec w_PT_partSides ({ frames := 0, cells := 0, slots := 0, locals := 0 })).room s m args below meth c H locs 0 0 (MQ below (va_Qv (fun (u : Int32 × (Nat → Int32) × (Nat → Int32)) => u = R) (fun u t => End_ dC dI A [(ko_alike, .int), (ko_opposed, .int)] [(ao, .inr (2, [.int zo_backLines, .int u.1, .ref ao_depthOf, .ref ao_endingAt, .ref ao_returns, .ref ao_highest, .ref ao_alike, .ref ao_opposed])), (ao_alike, .inl (ko_alike, 27, .inl u.2.1)), (ao_opposed, .inl (ko_opposed, 27, .inl u.2.2))] t) A) args s 0 0 A) (F0 m 175 ls []) := by
        intro k_102 v5_102 wo_alike_102 wo_opposed_102 H locs ls hI hP hD hS hl
        rw [hK_102] at hI
        exact W.vret hx hb hr (fun t ht hW => ⟨⟨(wo_clash_99_91, wo_alike_102, wo_opposed_102), rfl, (Option.some.inj hI).symm, by rw [ht]; exact hP, va_K.moved hW.alike hK, hD⟩, hS.F ht⟩) hS.2.2 d_PT_partSides_175
      have L_102 : ∀ (n_102 k_102 : Nat) (v5_102 : Int32) (wo_alike_102 : Nat → Int32) (wo_opposed_102 : Nat → Int32) (H : Heap) (locs : List Loc) (ls : Array Slot), some R = F_partSidesG_L102 K_102 zo_backLines v3_8 v4_8 n_102 v5_102 wo_alike_102 wo_opposed_102 → va_P (dC, dI) classes [(ao, .inr (2, [.int zo_backLines, .int wo_clash_99_91, .ref ao_depthOf, .ref ao_endingAt, .ref ao_returns, .ref ao_highest, .ref ao_alike, .ref ao_opposed])), (ao_alike, .inl (ko_alike, 27, .inl wo_alike_102)), (ao_opposed, .inl (ko_opposed, 27, .inl wo_opposed_102))] H → va_D A [(ao, .inr (2, [.int zo_backLines, .int wo_clash_99_91, .ref ao_depthOf, .ref ao_endingAt, .ref ao_returns, .ref ao_highest, .ref ao_alike, .ref ao_opposed])), (ao_alike, .inl (ko_alike, 27, .inl wo_alike_102)), (ao_opposed, .inl (ko_opposed, 27, .inl wo_opposed_102))] → va_S A s.heap H locs → lv_has ls 7 [(0, .ref ao), (1, .int v1), (2, .int v2), (3, .int v3_8), (4, .int v4_8), (5, .int v5_102)] → W p l e (headSpec w_PT_partSides ({ frames := 0, cells := 0, slots := 0, locals := 0 })).room s m args below meth c H locs 0 0 (MQ below (va_Qv (fun (u : Int32 × (Nat → Int32) × (Nat → Int32)) => u = R) (fun u t => End_ dC dI A [(ko_alike, .int), (ko_opposed, .int)] [(ao, .inr (2, [.int zo_backLines, .int u.1, .ref ao_depthOf, .ref ao_endingAt, .ref ao_returns, .ref ao_highest, .ref ao_alike, .ref ao_opposed])), (ao_alike, .inl (ko_alike, 27, .inl u.2.1)), (ao_opposed, .inl (ko_opposed, 27, .inl u.2.2))] t) A) args s 0 0 A) (F0 m 102 ls []) := by
        intro n_102
        induction n_102 with
        | zero =>
          intro k_102 v5_102 wo_alike_102 wo_opposed_102 H locs ls hI hP hD hS hl
          rw [F_partSidesG_L102] at hI
          exact absurd hI (ob_no _)
        | succ n_102 ih_102 =>
          intro k_102 v5_102 wo_alike_102 wo_opposed_102 H locs ls hI hP hD hS hl
          rw [F_partSidesG_L102] at hI
          refine lv_iload hx hb d_PT_partSides_102 (lv_at hl 5 rfl) ?_
          refine lv_aload_n hx hb d_PT_partSides_104 rfl (lv_at hl 0 rfl) ?_
          refine va_get (D := (dC, dI)) (ci := 2) (v := .int zo_backLines) (C := R_PT) (T := F_PT) (N := 8) hx hb hts (fun w h => List.mem_cons_of_mem _ (in_PT w h)) hown hK hP 0 rfl rfl 0 (by decide) (hts _ (List.mem_cons_of_mem _ mw_1_42)) (fun _ h9 => h9) rfl d_PT_partSides_105 ?_
          refine lv_icmp_ge (tgt := 175) hx hb d_PT_partSides_108 rfl (fun hc_108 => ?_) (fun hc_108 => ?_)
          · skip
            have hI := hI.trans (if_pos hc_108)
            have hl := lv_sub hl [0, 1, 2, 3, 4, 5] rfl
            exact X_102 0 _ _ _ _ _ _ hI hP hD hS hl
          · skip
            have hI := hI.trans (if_neg hc_108)
            refine lv_iconst (v := 1) hx hb d_PT_partSides_111 (by decide) ?_
            refine lv_iload hx hb d_PT_partSides_112 (lv_at hl 5 rfl) ?_
            refine lv_ishl hx hb d_PT_partSides_114 ?_
            refine lv_istore (lv' := [(6, .int (((1 : Int32)) <<< (v5_102 &&& 31))), (0, .ref ao), (1, .int v1), (2, .int v2), (3, .int v3_8), (4, .int v4_8), (5, .int v5_102)]) hx hb d_PT_partSides_115 hl (by decide) rfl (fun ls hl => ?_)
            refine lv_iload_n hx hb d_PT_partSides_117 rfl (lv_at hl 4 rfl) ?_
            refine lv_iload hx hb d_PT_partSides_118 (lv_at hl 0 rfl) ?_
            refine lv_iand hx hb d_PT_partSides_120 ?_
            obtain ⟨K_j169_121, hK_j169_121⟩ : ∃ K : (Nat → Int32) × (Nat → Int32) → Option (Int32 × (Nat → Int32) × (Nat → Int32)), K = (fun (j_169_121 : (Nat → Int32) × (Nat → Int32)) => (F_partSidesG_L102 K_102 zo_backLines v3_8 v4_8 n_102 (v5_102 + 1) j_169_121.1 j_169_121.2)) := ⟨_, rfl⟩
            have J_169_121 : ∀ (wo_alike_169_121 : Nat → Int32) (wo_opposed_169_121 : Nat → Int32) (H : Heap) (locs : List Loc) (ls : Array Slot), some R = (K_j169_121 (wo_alike_169_121, wo_opposed_169_121)) → va_P (dC, dI) classes [(ao, .inr (2, [.int zo_backLines, .int wo_clash_99_91, .ref ao_depthOf, .ref ao_endingAt, .ref ao_returns, .ref ao_highest, .ref ao_alike, .ref ao_opposed])), (ao_alike, .inl (ko_alike, 27, .inl wo_alike_169_121)), (ao_opposed, .inl (ko_opposed, 27, .inl wo_opposed_169_121))] H → va_D A [(ao, .inr (2, [.int zo_backLines, .int wo_clash_99_91, .ref ao_depthOf, .ref ao_endingAt, .ref ao_returns, .ref ao_highest, .ref ao_alike, .ref ao_opposed])), (ao_alike, .inl (ko_alike, 27, .inl wo_alike_169_121)), (ao_opposed, .inl (ko_opposed, 27, .inl wo_opposed_169_121))] → va_S A s.heap H locs → lv_has ls 7 [(0, .ref ao), (1, .int v1), (2, .int v2), (3, .int v3_8), (4, .int v4_8), (5, .int v5_102), (6, .int (((1 : Int32)) <<< (v5_102 &&& 31)))] → W p l e (headSpec w_PT_partSides ({ frames := 0, cells := 0, slots := 0, locals := 0 })).room s m args below meth c H locs 0 0 (MQ below (va_Qv (fun (u : Int32 × (Nat → Int32) × (Nat → Int32)) => u = R) (fun u t => End_ dC dI A [(ko_alike, .int), (ko_opposed, .int)] [(ao, .inr (2, [.int zo_backLines, .int u.1, .ref ao_depthOf, .ref ao_endingAt, .ref ao_returns, .ref ao_highest, .ref ao_alike, .ref ao_opposed])), (ao_alike, .inl (ko_alike, 27, .inl u.2.1)), (ao_opposed, .inl (ko_opposed, 27, .inl u.2.2))] t) A) args s 0 0 A) (F0 m 169 ls []) := by
              intro wo_alike_169_121 wo_opposed_169_121 H locs ls hI hP hD hS hl
              rw [hK_j169_121] at hI
              refine lv_iinc (lv' := [(5, .int (v5_102 + 1)), (0, .ref ao), (1, .int v1), (2, .int v2), (3, .int v3_8), (4, .int v4_8), (6, .int (((1 : Int32)) <<< (v5_102 &&& 31)))]) (k := 5) hx hb d_PT_partSides_169 hl rfl (z_inc1 _) (by decide) rfl (fun ls hl => ?_)
              refine lv_goto (tgt := 102) hx hb d_PT_partSides_172 rfl ?_
              have hl := lv_sub hl [1, 2, 3, 4, 5, 0] rfl
              exact ih_102 0 _ _ _ _ _ _ hI hP hD hS hl
            have hI : some R = (Option.bind (if (v3_8 &&& (((1 : Int32)) <<< (v5_102 &&& 31))) = 0 then (if (v4_8 &&& (((1 : Int32)) <<< (v5_102 &&& 31))) = 0 then (some (wo_alike_102, wo_opposed_102)) else (if inb v5_102 27 = true then (some (upd wo_alike_102 (Int32.toNatClampNeg v5_102) v4_8, upd wo_opposed_102 (Int32.toNatClampNeg v5_102) v3_8)) else none)) else (if inb v5_102 27 = true then (some (upd wo_alike_102 (Int32.toNatClampNeg v5_102) v3_8, upd wo_opposed_102 (Int32.toNatClampNeg v5_102) v4_8)) else none)) K_j169_121) := by rw [hK_j169_121]; exact hI
            refine lv_if_eq (tgt := 144) hx hb d_PT_partSides_121 rfl (fun hc_121 => ?_) (fun hc_121 => ?_)
            · skip
              have hI := ob_ifC (C := fun y_ => Option.bind y_ K_j169_121) hc_121 hI
              refine lv_iload hx hb d_PT_partSides_144 (lv_at hl 5 rfl) ?_
              refine lv_iload hx hb d_PT_partSides_146 (lv_at hl 0 rfl) ?_
              refine lv_iand hx hb d_PT_partSides_148 ?_
              refine lv_if_eq (tgt := 169) hx hb d_PT_partSides_149 rfl (fun hc_149 => ?_) (fun hc_149 => ?_)
              · skip
                have hI := ob_ifC (C := fun y_ => Option.bind y_ K_j169_121) hc_149 hI
                have hl := lv_sub hl [1, 2, 3, 4, 5, 6, 0] rfl
                exact J_169_121 _ _ _ _ _ hI hP hD hS hl
              · skip
                have hI := ob_elC (C := fun y_ => Option.bind y_ K_j169_121) hc_149 hI
                refine lv_aload_n hx hb d_PT_partSides_152 rfl (lv_at hl 1 rfl) ?_
                refine va_get (D := (dC, dI)) (ci := 2) (v := .ref ao_alike) (C := R_PT) (T := F_PT) (N := 8) hx hb hts (fun w h => List.mem_cons_of_mem _ (in_PT w h)) hown hK hP 0 rfl rfl 6 (by decide) (hts _ (List.mem_cons_of_mem _ mw_1_48)) (fun _ h9 => h9) rfl d_PT_partSides_153 ?_
                refine lv_iload hx hb d_PT_partSides_156 (lv_at hl 6 rfl) ?_
                refine lv_iload hx hb d_PT_partSides_158 (lv_at hl 5 rfl) ?_
                obtain ⟨hi_160, hI⟩ := ob_inC (C := fun y_ => Option.bind y_ K_j169_121) rfl hI
                refine va_iast (D := (dC, dI)) hx hb hK hP hD hS 1 0 rfl rfl hi_160 d_PT_partSides_160 (fun H locs hP hD hS => ?_)
                have hP : va_P (dC, dI) classes [(ao, .inr (2, [.int zo_backLines, .int wo_clash_99_91, .ref ao_depthOf, .ref ao_endingAt, .ref ao_returns, .ref ao_highest, .ref ao_alike, .ref ao_opposed])), (ao_alike, .inl (ko_alike, 27, .inl (upd wo_alike_102 (Int32.toNatClampNeg v5_102) v4_8))), (ao_opposed, .inl (ko_opposed, 27, .inl wo_opposed_102))] H := hP
                have hD : va_D A [(ao, .inr (2, [.int zo_backLines, .int wo_clash_99_91, .ref ao_depthOf, .ref ao_endingAt, .ref ao_returns, .ref ao_highest, .ref ao_alike, .ref ao_opposed])), (ao_alike, .inl (ko_alike, 27, .inl (upd wo_alike_102 (Int32.toNatClampNeg v5_102) v4_8))), (ao_opposed, .inl (ko_opposed, 27, .inl wo_opposed_102))] := hD
                refine lv_aload_n hx hb d_PT_partSides_161 rfl (lv_at hl 1 rfl) ?_
                refine va_get (D := (dC, dI)) (ci := 2) (v := .ref ao_opposed) (C := R_PT) (T := F_PT) (N := 8) hx hb hts (fun w h => List.mem_cons_of_mem _ (in_PT w h)) hown hK hP 0 rfl rfl 7 (by decide) (hts _ (List.mem_cons_of_mem _ mw_1_49)) (fun _ h9 => h9) rfl d_PT_partSides_162 ?_
                refine lv_iload hx hb d_PT_partSides_165 (lv_at hl 6 rfl) ?_
                refine lv_iload_n hx hb d_PT_partSides_167 rfl (lv_at hl 4 rfl) ?_
                refine va_iast (D := (dC, dI)) hx hb hK hP hD hS 2 1 rfl rfl hi_160 d_PT_partSides_168 (fun H locs hP hD hS => ?_)
                have hP : va_P (dC, dI) classes [(ao, .inr (2, [.int zo_backLines, .int wo_clash_99_91, .ref ao_depthOf, .ref ao_endingAt, .ref ao_returns, .ref ao_highest, .ref ao_alike, .ref ao_opposed])), (ao_alike, .inl (ko_alike, 27, .inl (upd wo_alike_102 (Int32.toNatClampNeg v5_102) v4_8))), (ao_opposed, .inl (ko_opposed, 27, .inl (upd wo_opposed_102 (Int32.toNatClampNeg v5_102) v3_8)))] H := hP
                have hD : va_D A [(ao, .inr (2, [.int zo_backLines, .int wo_clash_99_91, .ref ao_depthOf, .ref ao_endingAt, .ref ao_returns, .ref ao_highest, .ref ao_alike, .ref ao_opposed])), (ao_alike, .inl (ko_alike, 27, .inl (upd wo_alike_102 (Int32.toNatClampNeg v5_102) v4_8))), (ao_opposed, .inl (ko_opposed, 27, .inl (upd wo_opposed_102 (Int32.toNatClampNeg v5_102) v3_8)))] := hD
                have hl := lv_sub hl [1, 2, 3, 4, 5, 6, 0] rfl
                exact J_169_121 _ _ _ _ _ hI hP hD hS hl
            · skip
              have hI := ob_elC (C := fun y_ => Option.bind y_ K_j169_121) hc_121 hI
              refine lv_aload_n hx hb d_PT_partSides_124 rfl (lv_at hl 1 rfl) ?_
              refine va_get (D := (dC, dI)) (ci := 2) (v := .ref ao_alike) (C := R_PT) (T := F_PT) (N := 8) hx hb hts (fun w h => List.mem_cons_of_mem _ (in_PT w h)) hown hK hP 0 rfl rfl 6 (by decide) (hts _ (List.mem_cons_of_mem _ mw_1_48)) (fun _ h9 => h9) rfl d_PT_partSides_125 ?_
              refine lv_iload hx hb d_PT_partSides_128 (lv_at hl 6 rfl) ?_
              refine lv_iload_n hx hb d_PT_partSides_130 rfl (lv_at hl 4 rfl) ?_
              obtain ⟨hi_131, hI⟩ := ob_inC (C := fun y_ => Option.bind y_ K_j169_121) rfl hI
              refine va_iast (D := (dC, dI)) hx hb hK hP hD hS 1 0 rfl rfl hi_131 d_PT_partSides_131 (fun H locs hP hD hS => ?_)
              have hP : va_P (dC, dI) classes [(ao, .inr (2, [.int zo_backLines, .int wo_clash_99_91, .ref ao_depthOf, .ref ao_endingAt, .ref ao_returns, .ref ao_highest, .ref ao_alike, .ref ao_opposed])), (ao_alike, .inl (ko_alike, 27, .inl (upd wo_alike_102 (Int32.toNatClampNeg v5_102) v3_8))), (ao_opposed, .inl (ko_opposed, 27, .inl wo_opposed_102))] H := hP
              have hD : va_D A [(ao, .inr (2, [.int zo_backLines, .int wo_clash_99_91, .ref ao_depthOf, .ref ao_endingAt, .ref ao_returns, .ref ao_highest, .ref ao_alike, .ref ao_opposed])), (ao_alike, .inl (ko_alike, 27, .inl (upd wo_alike_102 (Int32.toNatClampNeg v5_102) v3_8))), (ao_opposed, .inl (ko_opposed, 27, .inl wo_opposed_102))] := hD
              refine lv_aload_n hx hb d_PT_partSides_132 rfl (lv_at hl 1 rfl) ?_
              refine va_get (D := (dC, dI)) (ci := 2) (v := .ref ao_opposed) (C := R_PT) (T := F_PT) (N := 8) hx hb hts (fun w h => List.mem_cons_of_mem _ (in_PT w h)) hown hK hP 0 rfl rfl 7 (by decide) (hts _ (List.mem_cons_of_mem _ mw_1_49)) (fun _ h9 => h9) rfl d_PT_partSides_133 ?_
              refine lv_iload hx hb d_PT_partSides_136 (lv_at hl 6 rfl) ?_
              refine lv_iload hx hb d_PT_partSides_138 (lv_at hl 5 rfl) ?_
              refine va_iast (D := (dC, dI)) hx hb hK hP hD hS 2 1 rfl rfl hi_131 d_PT_partSides_140 (fun H locs hP hD hS => ?_)
              have hP : va_P (dC, dI) classes [(ao, .inr (2, [.int zo_backLines, .int wo_clash_99_91, .ref ao_depthOf, .ref ao_endingAt, .ref ao_returns, .ref ao_highest, .ref ao_alike, .ref ao_opposed])), (ao_alike, .inl (ko_alike, 27, .inl (upd wo_alike_102 (Int32.toNatClampNeg v5_102) v3_8))), (ao_opposed, .inl (ko_opposed, 27, .inl (upd wo_opposed_102 (Int32.toNatClampNeg v5_102) v4_8)))] H := hP
              have hD : va_D A [(ao, .inr (2, [.int zo_backLines, .int wo_clash_99_91, .ref ao_depthOf, .ref ao_endingAt, .ref ao_returns, .ref ao_highest, .ref ao_alike, .ref ao_opposed])), (ao_alike, .inl (ko_alike, 27, .inl (upd wo_alike_102 (Int32.toNatClampNeg v5_102) v3_8))), (ao_opposed, .inl (ko_opposed, 27, .inl (upd wo_opposed_102 (Int32.toNatClampNeg v5_102) v4_8)))] := hD
              refine lv_goto (tgt := 169) hx hb d_PT_partSides_141 rfl ?_
              have hl := lv_sub hl [1, 2, 3, 4, 5, 6, 0] rfl
              exact J_169_121 _ _ _ _ _ hI hP hD hS hl
      have hl : lv_has ls 7 [(0, .ref ao), (1, .int v1), (2, .int v2), (3, .int v3_8), (4, .int v4_8), (5, .int 0)] := by first | exact lv_sub hl [1, 2, 3, 4, 5, 0] rfl | (rw [nI_succ]; exact lv_sub hl [1, 2, 3, 4, 5, 0] rfl)
      exact L_102 64 0 _ _ _ _ _ _ (by rw [hK_102]; exact hI) hP hD hS hl
    have hI : some R = (K_j99_91 (if (v3_8 &&& v4_8) = 0 then (zo_clash) else ((1 : Int32)))) := by rw [hK_j99_91]; exact hI
    refine lv_if_eq (tgt := 99) hx hb d_PT_partSides_91 rfl (fun hc_91 => ?_) (fun hc_91 => ?_)
    · skip
      have hI := ob_ifC (C := fun y_ => K_j99_91 y_) hc_91 hI
      have hl := lv_sub hl [0, 1, 2, 3, 4, 5] rfl
      exact J_99_91 _ _ _ _ hI hP hD hS hl
    · skip
      have hI := ob_elC (C := fun y_ => K_j99_91 y_) hc_91 hI
      refine lv_aload_n hx hb d_PT_partSides_94 rfl (lv_at hl 0 rfl) ?_
      refine lv_iconst (v := 1) hx hb d_PT_partSides_95 (by decide) ?_
      refine va_put (D := (dC, dI)) (ci := 2) (v := .int 1) (ty := .boolean) (C := R_PT) (T := F_PT) (N := 8) hx hb hts (fun w h => List.mem_cons_of_mem _ (in_PT w h)) t_PT t_PT_ok n_PT hown hK hP hD hS 0 rfl rfl 1 (by decide) (hts _ (List.mem_cons_of_mem _ mw_1_43)) (fun _ h9 => h9) rfl (by decide +kernel) rfl rfl (Nat.le_of_ble_eq_true rfl) d_PT_partSides_96 (fun H locs hP hD hS => ?_)
      have hP : va_P (dC, dI) classes [(ao, .inr (2, [.int zo_backLines, .int 1, .ref ao_depthOf, .ref ao_endingAt, .ref ao_returns, .ref ao_highest, .ref ao_alike, .ref ao_opposed])), (ao_alike, .inl (ko_alike, 27, .inl zo_alike)), (ao_opposed, .inl (ko_opposed, 27, .inl zo_opposed))] H := hP
      have hD : va_D A [(ao, .inr (2, [.int zo_backLines, .int 1, .ref ao_depthOf, .ref ao_endingAt, .ref ao_returns, .ref ao_highest, .ref ao_alike, .ref ao_opposed])), (ao_alike, .inl (ko_alike, 27, .inl zo_alike)), (ao_opposed, .inl (ko_opposed, 27, .inl zo_opposed))] := hD
      have hl := lv_sub hl [0, 1, 2, 3, 4, 5] rfl
      exact J_99_91 _ _ _ _ hI hP hD hS hl
  have L_8 : ∀ (n_8 k_8 : Nat) (v3_8 : Int32) (v4_8 : Int32) (v5_8 : Int32) (H : Heap) (locs : List Loc) (ls : Array Slot), some R = F_partSidesG_L8 K_8 zo_backLines zo_alike zo_opposed v1 v2 n_8 v3_8 v4_8 v5_8 → va_P (dC, dI) classes [(ao, .inr (2, [.int zo_backLines, .int zo_clash, .ref ao_depthOf, .ref ao_endingAt, .ref ao_returns, .ref ao_highest, .ref ao_alike, .ref ao_opposed])), (ao_alike, .inl (ko_alike, 27, .inl zo_alike)), (ao_opposed, .inl (ko_opposed, 27, .inl zo_opposed))] H → va_D A [(ao, .inr (2, [.int zo_backLines, .int zo_clash, .ref ao_depthOf, .ref ao_endingAt, .ref ao_returns, .ref ao_highest, .ref ao_alike, .ref ao_opposed])), (ao_alike, .inl (ko_alike, 27, .inl zo_alike)), (ao_opposed, .inl (ko_opposed, 27, .inl zo_opposed))] → va_S A s.heap H locs → lv_has ls 7 [(0, .ref ao), (1, .int v1), (2, .int v2), (3, .int v3_8), (4, .int v4_8), (5, .int v5_8)] → W p l e (headSpec w_PT_partSides ({ frames := 0, cells := 0, slots := 0, locals := 0 })).room s m args below meth c H locs 0 0 (MQ below (va_Qv (fun (u : Int32 × (Nat → Int32) × (Nat → Int32)) => u = R) (fun u t => End_ dC dI A [(ko_alike, .int), (ko_opposed, .int)] [(ao, .inr (2, [.int zo_backLines, .int u.1, .ref ao_depthOf, .ref ao_endingAt, .ref ao_returns, .ref ao_highest, .ref ao_alike, .ref ao_opposed])), (ao_alike, .inl (ko_alike, 27, .inl u.2.1)), (ao_opposed, .inl (ko_opposed, 27, .inl u.2.2))] t) A) args s 0 0 A) (F0 m 8 ls []) := by
    intro n_8
    induction n_8 with
    | zero =>
      intro k_8 v3_8 v4_8 v5_8 H locs ls hI hP hD hS hl
      rw [F_partSidesG_L8] at hI
      exact absurd hI (ob_no _)
    | succ n_8 ih_8 =>
      intro k_8 v3_8 v4_8 v5_8 H locs ls hI hP hD hS hl
      rw [F_partSidesG_L8] at hI
      refine lv_iload hx hb d_PT_partSides_8 (lv_at hl 5 rfl) ?_
      refine lv_aload_n hx hb d_PT_partSides_10 rfl (lv_at hl 0 rfl) ?_
      refine va_get (D := (dC, dI)) (ci := 2) (v := .int zo_backLines) (C := R_PT) (T := F_PT) (N := 8) hx hb hts (fun w h => List.mem_cons_of_mem _ (in_PT w h)) hown hK hP 0 rfl rfl 0 (by decide) (hts _ (List.mem_cons_of_mem _ mw_1_42)) (fun _ h9 => h9) rfl d_PT_partSides_11 ?_
      refine lv_icmp_ge (tgt := 87) hx hb d_PT_partSides_14 rfl (fun hc_14 => ?_) (fun hc_14 => ?_)
      · skip
        have hI := hI.trans (if_pos hc_14)
        have hl := lv_sub hl [0, 1, 2, 3, 4, 5] rfl
        exact X_8 0 _ _ _ _ _ _ hI hP hD hS hl
      · skip
        have hI := hI.trans (if_neg hc_14)
        refine lv_iconst (v := 1) hx hb d_PT_partSides_17 (by decide) ?_
        refine lv_iload hx hb d_PT_partSides_18 (lv_at hl 5 rfl) ?_
        refine lv_ishl hx hb d_PT_partSides_20 ?_
        refine lv_istore (lv' := [(6, .int (((1 : Int32)) <<< (v5_8 &&& 31))), (0, .ref ao), (1, .int v1), (2, .int v2), (3, .int v3_8), (4, .int v4_8), (5, .int v5_8)]) hx hb d_PT_partSides_21 hl (by decide) rfl (fun ls hl => ?_)
        refine lv_iload_n hx hb d_PT_partSides_23 rfl (lv_at hl 2 rfl) ?_
        refine lv_iload hx hb d_PT_partSides_24 (lv_at hl 0 rfl) ?_
        refine lv_iand hx hb d_PT_partSides_26 ?_
        obtain ⟨K_j52_27, hK_j52_27⟩ : ∃ K : Int32 × Int32 → Option (Int32 × (Nat → Int32) × (Nat → Int32)), K = (fun (j_52_27 : Int32 × Int32) => (((if (v2 &&& (((1 : Int32)) <<< (v5_8 &&& 31))) = 0 then (some (j_52_27.1, j_52_27.2)) else (if inb v5_8 27 = true then (some (j_52_27.1 ||| (zo_opposed (Int32.toNatClampNeg v5_8)), j_52_27.2 ||| (zo_alike (Int32.toNatClampNeg v5_8)))) else none))).bind (fun (j_81_56 : Int32 × Int32) => (F_partSidesG_L8 K_8 zo_backLines zo_alike zo_opposed v1 v2 n_8 j_81_56.1 j_81_56.2 (v5_8 + 1))))) := ⟨_, rfl⟩
        have J_52_27 : ∀ (v3_52_27 : Int32) (v4_52_27 : Int32) (H : Heap) (locs : List Loc) (ls : Array Slot), some R = (K_j52_27 (v3_52_27, v4_52_27)) → va_P (dC, dI) classes [(ao, .inr (2, [.int zo_backLines, .int zo_clash, .ref ao_depthOf, .ref ao_endingAt, .ref ao_returns, .ref ao_highest, .ref ao_alike, .ref ao_opposed])), (ao_alike, .inl (ko_alike, 27, .inl zo_alike)), (ao_opposed, .inl (ko_opposed, 27, .inl zo_opposed))] H → va_D A [(ao, .inr (2, [.int zo_backLines, .int zo_clash, .ref ao_depthOf, .ref ao_endingAt, .ref ao_returns, .ref ao_highest, .ref ao_alike, .ref ao_opposed])), (ao_alike, .inl (ko_alike, 27, .inl zo_alike)), (ao_opposed, .inl (ko_opposed, 27, .inl zo_opposed))] → va_S A s.heap H locs → lv_has ls 7 [(0, .ref ao), (1, .int v1), (2, .int v2), (3, .int v3_52_27), (4, .int v4_52_27), (5, .int v5_8), (6, .int (((1 : Int32)) <<< (v5_8 &&& 31)))] → W p l e (headSpec w_PT_partSides ({ frames := 0, cells := 0, slots := 0, locals := 0 })).room s m args below meth c H locs 0 0 (MQ below (va_Qv (fun (u : Int32 × (Nat → Int32) × (Nat → Int32)) => u = R) (fun u t => End_ dC dI A [(ko_alike, .int), (ko_opposed, .int)] [(ao, .inr (2, [.int zo_backLines, .int u.1, .ref ao_depthOf, .ref ao_endingAt, .ref ao_returns, .ref ao_highest, .ref ao_alike, .ref ao_opposed])), (ao_alike, .inl (ko_alike, 27, .inl u.2.1)), (ao_opposed, .inl (ko_opposed, 27, .inl u.2.2))] t) A) args s 0 0 A) (F0 m 52 ls []) := by
          intro v3_52_27 v4_52_27 H locs ls hI hP hD hS hl
          rw [hK_j52_27] at hI
          refine lv_iload_n hx hb d_PT_partSides_52 rfl (lv_at hl 2 rfl) ?_
          refine lv_iload hx hb d_PT_partSides_53 (lv_at hl 6 rfl) ?_
          refine lv_iand hx hb d_PT_partSides_55 ?_
          obtain ⟨K_j81_56, hK_j81_56⟩ : ∃ K : Int32 × Int32 → Option (Int32 × (Nat → Int32) × (Nat → Int32)), K = (fun (j_81_56 : Int32 × Int32) => (F_partSidesG_L8 K_8 zo_backLines zo_alike zo_opposed v1 v2 n_8 j_81_56.1 j_81_56.2 (v5_8 + 1))) := ⟨_, rfl⟩
          have J_81_56 : ∀ (v3_81_56 : Int32) (v4_81_56 : Int32) (H : Heap) (locs : List Loc) (ls : Array Slot), some R = (K_j81_56 (v3_81_56, v4_81_56)) → va_P (dC, dI) classes [(ao, .inr (2, [.int zo_backLines, .int zo_clash, .ref ao_depthOf, .ref ao_endingAt, .ref ao_returns, .ref ao_highest, .ref ao_alike, .ref ao_opposed])), (ao_alike, .inl (ko_alike, 27, .inl zo_alike)), (ao_opposed, .inl (ko_opposed, 27, .inl zo_opposed))] H → va_D A [(ao, .inr (2, [.int zo_backLines, .int zo_clash, .ref ao_depthOf, .ref ao_endingAt, .ref ao_returns, .ref ao_highest, .ref ao_alike, .ref ao_opposed])), (ao_alike, .inl (ko_alike, 27, .inl zo_alike)), (ao_opposed, .inl (ko_opposed, 27, .inl zo_opposed))] → va_S A s.heap H locs → lv_has ls 7 [(0, .ref ao), (1, .int v1), (2, .int v2), (3, .int v3_81_56), (4, .int v4_81_56), (5, .int v5_8), (6, .int (((1 : Int32)) <<< (v5_8 &&& 31)))] → W p l e (headSpec w_PT_partSides ({ frames := 0, cells := 0, slots := 0, locals := 0 })).room s m args below meth c H locs 0 0 (MQ below (va_Qv (fun (u : Int32 × (Nat → Int32) × (Nat → Int32)) => u = R) (fun u t => End_ dC dI A [(ko_alike, .int), (ko_opposed, .int)] [(ao, .inr (2, [.int zo_backLines, .int u.1, .ref ao_depthOf, .ref ao_endingAt, .ref ao_returns, .ref ao_highest, .ref ao_alike, .ref ao_opposed])), (ao_alike, .inl (ko_alike, 27, .inl u.2.1)), (ao_opposed, .inl (ko_opposed, 27, .inl u.2.2))] t) A) args s 0 0 A) (F0 m 81 ls []) := by
            intro v3_81_56 v4_81_56 H locs ls hI hP hD hS hl
            rw [hK_j81_56] at hI
            refine lv_iinc (lv' := [(5, .int (v5_8 + 1)), (0, .ref ao), (1, .int v1), (2, .int v2), (3, .int v3_81_56), (4, .int v4_81_56), (6, .int (((1 : Int32)) <<< (v5_8 &&& 31)))]) (k := 5) hx hb d_PT_partSides_81 hl rfl (z_inc1 _) (by decide) rfl (fun ls hl => ?_)
            refine lv_goto (tgt := 8) hx hb d_PT_partSides_84 rfl ?_
            have hl := lv_sub hl [1, 2, 3, 4, 5, 0] rfl
            exact ih_8 0 _ _ _ _ _ _ hI hP hD hS hl
          have hI : some R = (Option.bind (if (v2 &&& (((1 : Int32)) <<< (v5_8 &&& 31))) = 0 then (some (v3_52_27, v4_52_27)) else (if inb v5_8 27 = true then (some (v3_52_27 ||| (zo_opposed (Int32.toNatClampNeg v5_8)), v4_52_27 ||| (zo_alike (Int32.toNatClampNeg v5_8)))) else none)) K_j81_56) := by rw [hK_j81_56]; exact hI
          refine lv_if_eq (tgt := 81) hx hb d_PT_partSides_56 rfl (fun hc_56 => ?_) (fun hc_56 => ?_)
          · skip
            have hI := ob_ifC (C := fun y_ => Option.bind y_ K_j81_56) hc_56 hI
            have hl := lv_sub hl [0, 1, 2, 3, 4, 5, 6] rfl
            exact J_81_56 _ _ _ _ _ hI hP hD hS hl
          · skip
            have hI := ob_elC (C := fun y_ => Option.bind y_ K_j81_56) hc_56 hI
            refine lv_iload_n hx hb d_PT_partSides_59 rfl (lv_at hl 3 rfl) ?_
            refine lv_aload_n hx hb d_PT_partSides_60 rfl (lv_at hl 0 rfl) ?_
            refine va_get (D := (dC, dI)) (ci := 2) (v := .ref ao_opposed) (C := R_PT) (T := F_PT) (N := 8) hx hb hts (fun w h => List.mem_cons_of_mem _ (in_PT w h)) hown hK hP 0 rfl rfl 7 (by decide) (hts _ (List.mem_cons_of_mem _ mw_1_49)) (fun _ h9 => h9) rfl d_PT_partSides_61 ?_
            refine lv_iload hx hb d_PT_partSides_64 (lv_at hl 5 rfl) ?_
            obtain ⟨hi_66, hI⟩ := ob_inC (C := fun y_ => Option.bind y_ K_j81_56) rfl hI
            refine va_iald (D := (dC, dI)) hx hb hK hP 2 1 rfl rfl hi_66 d_PT_partSides_66 ?_
            refine lv_ior hx hb d_PT_partSides_67 ?_
            refine lv_istore_n (lv' := [(3, .int (v3_52_27 ||| (zo_opposed (Int32.toNatClampNeg v5_8)))), (0, .ref ao), (1, .int v1), (2, .int v2), (4, .int v4_52_27), (5, .int v5_8), (6, .int (((1 : Int32)) <<< (v5_8 &&& 31)))]) hx hb d_PT_partSides_68 rfl hl (by decide) rfl (fun ls hl => ?_)
            refine lv_iload hx hb d_PT_partSides_69 (lv_at hl 4 rfl) ?_
            refine lv_aload_n hx hb d_PT_partSides_71 rfl (lv_at hl 1 rfl) ?_
            refine va_get (D := (dC, dI)) (ci := 2) (v := .ref ao_alike) (C := R_PT) (T := F_PT) (N := 8) hx hb hts (fun w h => List.mem_cons_of_mem _ (in_PT w h)) hown hK hP 0 rfl rfl 6 (by decide) (hts _ (List.mem_cons_of_mem _ mw_1_48)) (fun _ h9 => h9) rfl d_PT_partSides_72 ?_
            refine lv_iload hx hb d_PT_partSides_75 (lv_at hl 5 rfl) ?_
            refine va_iald (D := (dC, dI)) hx hb hK hP 1 0 rfl rfl hi_66 d_PT_partSides_77 ?_
            refine lv_ior hx hb d_PT_partSides_78 ?_
            refine lv_istore (lv' := [(4, .int (v4_52_27 ||| (zo_alike (Int32.toNatClampNeg v5_8)))), (3, .int (v3_52_27 ||| (zo_opposed (Int32.toNatClampNeg v5_8)))), (0, .ref ao), (1, .int v1), (2, .int v2), (5, .int v5_8), (6, .int (((1 : Int32)) <<< (v5_8 &&& 31)))]) hx hb d_PT_partSides_79 hl (by decide) rfl (fun ls hl => ?_)
            have hl := lv_sub hl [2, 3, 4, 1, 0, 5, 6] rfl
            exact J_81_56 _ _ _ _ _ hI hP hD hS hl
        have hI : some R = (Option.bind (if (v1 &&& (((1 : Int32)) <<< (v5_8 &&& 31))) = 0 then (some (v3_8, v4_8)) else (if inb v5_8 27 = true then (some (v3_8 ||| (zo_alike (Int32.toNatClampNeg v5_8)), v4_8 ||| (zo_opposed (Int32.toNatClampNeg v5_8)))) else none)) K_j52_27) := by rw [hK_j52_27]; exact hI
        refine lv_if_eq (tgt := 52) hx hb d_PT_partSides_27 rfl (fun hc_27 => ?_) (fun hc_27 => ?_)
        · skip
          have hI := ob_ifC (C := fun y_ => Option.bind y_ K_j52_27) hc_27 hI
          have hl := lv_sub hl [1, 2, 3, 4, 5, 6, 0] rfl
          exact J_52_27 _ _ _ _ _ hI hP hD hS hl
        · skip
          have hI := ob_elC (C := fun y_ => Option.bind y_ K_j52_27) hc_27 hI
          refine lv_iload_n hx hb d_PT_partSides_30 rfl (lv_at hl 4 rfl) ?_
          refine lv_aload_n hx hb d_PT_partSides_31 rfl (lv_at hl 1 rfl) ?_
          refine va_get (D := (dC, dI)) (ci := 2) (v := .ref ao_alike) (C := R_PT) (T := F_PT) (N := 8) hx hb hts (fun w h => List.mem_cons_of_mem _ (in_PT w h)) hown hK hP 0 rfl rfl 6 (by decide) (hts _ (List.mem_cons_of_mem _ mw_1_48)) (fun _ h9 => h9) rfl d_PT_partSides_32 ?_
          refine lv_iload hx hb d_PT_partSides_35 (lv_at hl 6 rfl) ?_
          obtain ⟨hi_37, hI⟩ := ob_inC (C := fun y_ => Option.bind y_ K_j52_27) rfl hI
          refine va_iald (D := (dC, dI)) hx hb hK hP 1 0 rfl rfl hi_37 d_PT_partSides_37 ?_
          refine lv_ior hx hb d_PT_partSides_38 ?_
          refine lv_istore_n (lv' := [(3, .int (v3_8 ||| (zo_alike (Int32.toNatClampNeg v5_8)))), (6, .int (((1 : Int32)) <<< (v5_8 &&& 31))), (0, .ref ao), (1, .int v1), (2, .int v2), (4, .int v4_8), (5, .int v5_8)]) hx hb d_PT_partSides_39 rfl hl (by decide) rfl (fun ls hl => ?_)
          refine lv_iload hx hb d_PT_partSides_40 (lv_at hl 5 rfl) ?_
          refine lv_aload_n hx hb d_PT_partSides_42 rfl (lv_at hl 2 rfl) ?_
          refine va_get (D := (dC, dI)) (ci := 2) (v := .ref ao_opposed) (C := R_PT) (T := F_PT) (N := 8) hx hb hts (fun w h => List.mem_cons_of_mem _ (in_PT w h)) hown hK hP 0 rfl rfl 7 (by decide) (hts _ (List.mem_cons_of_mem _ mw_1_49)) (fun _ h9 => h9) rfl d_PT_partSides_43 ?_
          refine lv_iload hx hb d_PT_partSides_46 (lv_at hl 6 rfl) ?_
          refine va_iald (D := (dC, dI)) hx hb hK hP 2 1 rfl rfl hi_37 d_PT_partSides_48 ?_
          refine lv_ior hx hb d_PT_partSides_49 ?_
          refine lv_istore (lv' := [(4, .int (v4_8 ||| (zo_opposed (Int32.toNatClampNeg v5_8)))), (3, .int (v3_8 ||| (zo_alike (Int32.toNatClampNeg v5_8)))), (6, .int (((1 : Int32)) <<< (v5_8 &&& 31))), (0, .ref ao), (1, .int v1), (2, .int v2), (5, .int v5_8)]) hx hb d_PT_partSides_50 hl (by decide) rfl (fun ls hl => ?_)
          have hl := lv_sub hl [3, 4, 5, 1, 0, 6, 2] rfl
          exact J_52_27 _ _ _ _ _ hI hP hD hS hl
  have hl : lv_has ls 7 [(0, .ref ao), (1, .int v1), (2, .int v2), (3, .int 0), (4, .int 0), (5, .int 0)] := by first | exact lv_sub hl [3, 4, 5, 2, 1, 0] rfl | (rw [nI_succ]; exact lv_sub hl [3, 4, 5, 2, 1, 0] rfl)
  exact L_8 64 0 _ _ _ _ _ _ (by rw [hK_8]; exact hI) hP hD hS hl
set_option maxHeartbeats 4000000 in
set_option maxRecDepth 100000 in
theorem c_compareG (l : Launch) (dC : Nat → ClassId) (dI : Nat → Nat → Nat) (sz : Nat) (ao ao_depthOf ao_endingAt ao_returns ao_highest ao_alike ao_opposed : Nat) (ko_endingAt ko_returns ko_highest ko_alike ko_opposed : ClassId) (zo_backLines : Int32) (zo_clash : Int32) (zo_endingAt : Nat → Int32) (zo_returns : Nat → Int32) (zo_highest : Nat → Int32) (zo_alike : Nat → Int32) (zo_opposed : Nat → Int32) (v1 v2 v3 : Int32) (R : Int32 × (Nat → Int32) × (Nat → Int32) × (Nat → Int32) × (Nat → Int32)) (hR : F_compareG zo_backLines zo_clash zo_endingAt zo_returns zo_highest zo_alike zo_opposed v1 v2 v3 = some R) : Met l y_PT_compareWithEarlier w_PT_compareWithEarlier ({ frames := 1, cells := 0, slots := 0, locals := 26 }) (Pre_ dC dI sz [.ref ao, .int v1, .int v2, .int v3] [(ao, .inr (2, [.int zo_backLines, .int zo_clash, .ref ao_depthOf, .ref ao_endingAt, .ref ao_returns, .ref ao_highest, .ref ao_alike, .ref ao_opposed])), (ao_endingAt, .inl (ko_endingAt, 11, .inl zo_endingAt)), (ao_returns, .inl (ko_returns, 121, .inl zo_returns)), (ao_highest, .inl (ko_highest, 121, .inl zo_highest)), (ao_alike, .inl (ko_alike, 27, .inl zo_alike)), (ao_opposed, .inl (ko_opposed, 27, .inl zo_opposed))] [(ko_endingAt, .int), (ko_returns, .int), (ko_highest, .int), (ko_alike, .int), (ko_opposed, .int)]) (va_Qv (fun (u : Int32 × (Nat → Int32) × (Nat → Int32) × (Nat → Int32) × (Nat → Int32)) => u = R) (fun u t => End_ dC dI (va_A [(ao, .inr (2, [.int zo_backLines, .int zo_clash, .ref ao_depthOf, .ref ao_endingAt, .ref ao_returns, .ref ao_highest, .ref ao_alike, .ref ao_opposed])), (ao_endingAt, .inl (ko_endingAt, 11, .inl zo_endingAt)), (ao_returns, .inl (ko_returns, 121, .inl zo_returns)), (ao_highest, .inl (ko_highest, 121, .inl zo_highest)), (ao_alike, .inl (ko_alike, 27, .inl zo_alike)), (ao_opposed, .inl (ko_opposed, 27, .inl zo_opposed))] sz) [(ko_endingAt, .int), (ko_returns, .int), (ko_highest, .int), (ko_alike, .int), (ko_opposed, .int)] [(ao, .inr (2, [.int zo_backLines, .int u.1, .ref ao_depthOf, .ref ao_endingAt, .ref ao_returns, .ref ao_highest, .ref ao_alike, .ref ao_opposed])), (ao_endingAt, .inl (ko_endingAt, 11, .inl zo_endingAt)), (ao_returns, .inl (ko_returns, 121, .inl u.2.1)), (ao_highest, .inl (ko_highest, 121, .inl u.2.2.1)), (ao_alike, .inl (ko_alike, 27, .inl u.2.2.2.1)), (ao_opposed, .inl (ko_opposed, 27, .inl u.2.2.2.2))] t) (va_A [(ao, .inr (2, [.int zo_backLines, .int zo_clash, .ref ao_depthOf, .ref ao_endingAt, .ref ao_returns, .ref ao_highest, .ref ao_alike, .ref ao_opposed])), (ao_endingAt, .inl (ko_endingAt, 11, .inl zo_endingAt)), (ao_returns, .inl (ko_returns, 121, .inl zo_returns)), (ao_highest, .inl (ko_highest, 121, .inl zo_highest)), (ao_alike, .inl (ko_alike, 27, .inl zo_alike)), (ao_opposed, .inl (ko_opposed, 27, .inl zo_opposed))] sz)) 0 0 (va_A [(ao, .inr (2, [.int zo_backLines, .int zo_clash, .ref ao_depthOf, .ref ao_endingAt, .ref ao_returns, .ref ao_highest, .ref ao_alike, .ref ao_opposed])), (ao_endingAt, .inl (ko_endingAt, 11, .inl zo_endingAt)), (ao_returns, .inl (ko_returns, 121, .inl zo_returns)), (ao_highest, .inl (ko_highest, 121, .inl zo_highest)), (ao_alike, .inl (ko_alike, 27, .inl zo_alike)), (ao_opposed, .inl (ko_opposed, 27, .inl zo_opposed))] sz) := by
  refine Met.ofW (cc := b_PT_compareWithEarlier) (maxL := 9) (ret := none) (by decide) rfl ?_
  intro p e s m args below meth c s₁ B hml hv
  obtain ⟨hargs, hsz, hP, hK, hD0, hN⟩ := hv
  have hx := B.exec
  have hb := B.bytes
  have hr := B.returns
  have hts := atoms_spec (ws := w_PT_compareWithEarlier) B.pre
  have hown : s.vm.findClass R_PT = some m.cls := findClass_of_methodNamed B.named
  have hlocks := B.notSynchronized
  subst hsz
  have hD := hD0.self (sz := s.heap.size)
  generalize hAe : va_A [(ao, .inr (2, [.int zo_backLines, .int zo_clash, .ref ao_depthOf, .ref ao_endingAt, .ref ao_returns, .ref ao_highest, .ref ao_alike, .ref ao_opposed])), (ao_endingAt, .inl (ko_endingAt, 11, .inl zo_endingAt)), (ao_returns, .inl (ko_returns, 121, .inl zo_returns)), (ao_highest, .inl (ko_highest, 121, .inl zo_highest)), (ao_alike, .inl (ko_alike, 27, .inl zo_alike)), (ao_opposed, .inl (ko_opposed, 27, .inl zo_opposed))] s.heap.size = A at hD ⊢
  have hA : ∀ q : Nat, s.heap.size ≤ q → A q := fun q h => by rw [← hAe]; exact Or.inr h
  have hS : va_S A s.heap s.heap [] := va_S.rf
  have hl := lv_entry ([.ref ao, .int v1, .int v2, .int v3]) (n := 9) (Nat.le_of_ble_eq_true rfl)
  refine W.eq (congrArg (fun a => entryFrame m a 9) hargs) ?_
  rw [lg_entry_eq]
  generalize (lg_sl ([.ref ao, .int v1, .int v2, .int v3]) ++ List.replicate (9 - (lg_sl ([.ref ao, .int v1, .int v2, .int v3])).length) Slot.unset).toArray = ls at hl ⊢
  have hl : lv_has ls 9 [(0, .ref ao), (1, .int v1), (2, .int v2), (3, .int v3)] := hl
  generalize hH0 : ([] : List Loc) = locs at hS ⊢
  have hI := hR.symm
  rw [F_compareG] at hI
  refine lv_iload_n hx hb d_PT_compareWithEarlier_0 rfl (lv_at hl 2 rfl) ?_
  refine lv_bipush (v := 11) hx hb d_PT_compareWithEarlier_1 (by decide) ?_
  refine lv_imul hx hb d_PT_compareWithEarlier_3 ?_
  refine lv_istore (lv' := [(4, .int (v2 * 11)), (0, .ref ao), (1, .int v1), (2, .int v2), (3, .int v3)]) hx hb d_PT_compareWithEarlier_4 hl (by decide) rfl (fun ls hl => ?_)
  refine lv_aload_n hx hb d_PT_compareWithEarlier_6 rfl (lv_at hl 1 rfl) ?_
  refine lv_iload_n hx hb d_PT_compareWithEarlier_7 rfl (lv_at hl 2 rfl) ?_
  refine lv_iload_n hx hb d_PT_compareWithEarlier_8 rfl (lv_at hl 3 rfl) ?_
  obtain ⟨p_9, hg_9, hI⟩ := ob_bd hI
  have hPc := hP.sub (ws' := [(ao, .inr (2, [.int zo_backLines, .int zo_clash, .ref ao_depthOf, .ref ao_endingAt, .ref ao_returns, .ref ao_highest, .ref ao_alike, .ref ao_opposed])), (ao_endingAt, .inl (ko_endingAt, 11, .inl zo_endingAt))]) [0, 1] rfl
  have hDc := hD.sub (ws' := [(ao, .inr (2, [.int zo_backLines, .int zo_clash, .ref ao_depthOf, .ref ao_endingAt, .ref ao_returns, .ref ao_highest, .ref ao_alike, .ref ao_opposed])), (ao_endingAt, .inl (ko_endingAt, 11, .inl zo_endingAt))]) [0, 1] (by decide) rfl
  have hKc := hK.sub (tys' := [(ko_endingAt, .int)]) [0] rfl
  have hFc := va_free (wc := [(ao, .inr (2, [.int zo_backLines, .int zo_clash, .ref ao_depthOf, .ref ao_endingAt, .ref ao_returns, .ref ao_highest, .ref ao_alike, .ref ao_opposed])), (ao_endingAt, .inl (ko_endingAt, 11, .inl zo_endingAt))]) hD hS hA [0, 1] rfl
  refine va_calli (va_runV (As := [.int v1, .int v2]) (rest := []) ⟨hx, hb, hml, hown, hts⟩ (c_highestEndG l dC dI s.heap.size ao ao_depthOf ao_endingAt ao_returns ao_highest ao_alike ao_opposed ko_endingAt zo_backLines zo_clash zo_endingAt v1 v2 p_9 hg_9) (cwV 2 hts (gi4 mw_1_191 mw_1_193 mw_p_6 mw_1_3 mw_1_194) rfl rfl rfl (by decide +kernel) ⟨Nat.le_of_ble_eq_true rfl, Nat.le_of_ble_eq_true rfl⟩) ⟨fb_, va_recv (q0 := 0) (ci := 2) hK hP rfl rfl, pre_ hPc hKc hDc hN⟩ rfl rfl hl.1 rfl (lv_room (Nat.le_of_ble_eq_true rfl)) d_PT_compareWithEarlier_9 ⟨Nat.le_of_ble_eq_true rfl, Nat.le_of_ble_eq_true rfl⟩) hS (fun q _ h => hFc q h) hFc (fun r_9 u t H locs ht hvm hp_9 hB hz1 hk1 hS => ?_)
  obtain ⟨hP1, -, hD1⟩ := hB
  rw [ht] at hP1
  obtain ⟨hP, hD⟩ := va_join (wr := [(ao_returns, .inl (ko_returns, 121, .inl zo_returns)), (ao_highest, .inl (ko_highest, 121, .inl zo_highest)), (ao_alike, .inl (ko_alike, 27, .inl zo_alike)), (ao_opposed, .inl (ko_opposed, 27, .inl zo_opposed))]) (w1 := [(ao, .inr (2, [.int zo_backLines, .int zo_clash, .ref ao_depthOf, .ref ao_endingAt, .ref ao_returns, .ref ao_highest, .ref ao_alike, .ref ao_opposed])), (ao_endingAt, .inl (ko_endingAt, 11, .inl zo_endingAt))]) hP hD [0, 1] [2, 3, 4, 5] rfl rfl (by decide) (by decide) hk1 hFc hP1 hD1
  have hp_9 : (r_9) = p_9 := hp_9
  subst hp_9
  have hP : va_P (dC, dI) classes [(ao_returns, .inl (ko_returns, 121, .inl zo_returns)), (ao_highest, .inl (ko_highest, 121, .inl zo_highest)), (ao_alike, .inl (ko_alike, 27, .inl zo_alike)), (ao_opposed, .inl (ko_opposed, 27, .inl zo_opposed)), (ao, .inr (2, [.int zo_backLines, .int zo_clash, .ref ao_depthOf, .ref ao_endingAt, .ref ao_returns, .ref ao_highest, .ref ao_alike, .ref ao_opposed])), (ao_endingAt, .inl (ko_endingAt, 11, .inl zo_endingAt))] H := hP
  have hD : va_D A [(ao_returns, .inl (ko_returns, 121, .inl zo_returns)), (ao_highest, .inl (ko_highest, 121, .inl zo_highest)), (ao_alike, .inl (ko_alike, 27, .inl zo_alike)), (ao_opposed, .inl (ko_opposed, 27, .inl zo_opposed)), (ao, .inr (2, [.int zo_backLines, .int zo_clash, .ref ao_depthOf, .ref ao_endingAt, .ref ao_returns, .ref ao_highest, .ref ao_alike, .ref ao_opposed])), (ao_endingAt, .inl (ko_endingAt, 11, .inl zo_endingAt))] := hD
  refine lv_istore (lv' := [(5, .int r_9), (4, .int (v2 * 11)), (0, .ref ao), (1, .int v1), (2, .int v2), (3, .int v3)]) hx hb d_PT_compareWithEarlier_12 hl (by decide) rfl (fun ls hl => ?_)
  refine lv_iconst (v := 0) hx hb d_PT_compareWithEarlier_14 (by decide) ?_
  refine lv_istore (lv' := [(6, .int 0), (5, .int r_9), (4, .int (v2 * 11)), (0, .ref ao), (1, .int v1), (2, .int v2), (3, .int v3)]) hx hb d_PT_compareWithEarlier_15 hl (by decide) rfl (fun ls hl => ?_)
  have hP := hP.sub (ws' := [(ao, .inr (2, [.int zo_backLines, .int zo_clash, .ref ao_depthOf, .ref ao_endingAt, .ref ao_returns, .ref ao_highest, .ref ao_alike, .ref ao_opposed])), (ao_endingAt, .inl (ko_endingAt, 11, .inl zo_endingAt)), (ao_returns, .inl (ko_returns, 121, .inl zo_returns)), (ao_highest, .inl (ko_highest, 121, .inl zo_highest)), (ao_alike, .inl (ko_alike, 27, .inl zo_alike)), (ao_opposed, .inl (ko_opposed, 27, .inl zo_opposed))]) [4, 5, 0, 1, 2, 3] rfl
  have hD := hD.sub (ws' := [(ao, .inr (2, [.int zo_backLines, .int zo_clash, .ref ao_depthOf, .ref ao_endingAt, .ref ao_returns, .ref ao_highest, .ref ao_alike, .ref ao_opposed])), (ao_endingAt, .inl (ko_endingAt, 11, .inl zo_endingAt)), (ao_returns, .inl (ko_returns, 121, .inl zo_returns)), (ao_highest, .inl (ko_highest, 121, .inl zo_highest)), (ao_alike, .inl (ko_alike, 27, .inl zo_alike)), (ao_opposed, .inl (ko_opposed, 27, .inl zo_opposed))]) [4, 5, 0, 1, 2, 3] (by decide) rfl
  obtain ⟨K_17, hK_17⟩ : ∃ K : Int32 → Int32 → (Nat → Int32) → (Nat → Int32) → Option (Int32 × (Nat → Int32) × (Nat → Int32) × (Nat → Int32) × (Nat → Int32)), K = (fun v6_17 wo_clash_17 wo_alike_17 wo_opposed_17 => (if inb ((v2 * 11) + v3) 121 = true then some (wo_clash_17, upd zo_returns (Int32.toNatClampNeg ((v2 * 11) + v3)) v1, upd zo_highest (Int32.toNatClampNeg ((v2 * 11) + v3)) r_9, wo_alike_17, wo_opposed_17) else none)) := ⟨_, rfl⟩
  have X_17 : ∀ (k_17 : Nat) (v6_17 : Int32) (wo_clash_17 : Int32) (wo_alike_17 : Nat → Int32) (wo_opposed_17 : Nat → Int32) (H : Heap) (locs : List Loc) (ls : Array Slot), some R = K_17 v6_17 wo_clash_17 wo_alike_17 wo_opposed_17 → va_P (dC, dI) classes [(ao, .inr (2, [.int zo_backLines, .int wo_clash_17, .ref ao_depthOf, .ref ao_endingAt, .ref ao_returns, .ref ao_highest, .ref ao_alike, .ref ao_opposed])), (ao_endingAt, .inl (ko_endingAt, 11, .inl zo_endingAt)), (ao_returns, .inl (ko_returns, 121, .inl zo_returns)), (ao_highest, .inl (ko_highest, 121, .inl zo_highest)), (ao_alike, .inl (ko_alike, 27, .inl wo_alike_17)), (ao_opposed, .inl (ko_opposed, 27, .inl wo_opposed_17))] H → va_D A [(ao, .inr (2, [.int zo_backLines, .int wo_clash_17, .ref ao_depthOf, .ref ao_endingAt, .ref ao_returns, .ref ao_highest, .ref ao_alike, .ref ao_opposed])), (ao_endingAt, .inl (ko_endingAt, 11, .inl zo_endingAt)), (ao_returns, .inl (ko_returns, 121, .inl zo_returns)), (ao_highest, .inl (ko_highest, 121, .inl zo_highest)), (ao_alike, .inl (ko_alike, 27, .inl wo_alike_17)), (ao_opposed, .inl (ko_opposed, 27, .inl wo_opposed_17))] → va_S A s.heap H locs → lv_has ls 9 [(0, .ref ao), (1, .int v1), (2, .int v2), (3, .int v3), (4, .int (v2 * 11)), (5, .int r_9), (6, .int v6_17)] → W p l e (headSpec w_PT_compareWithEarlier ({ frames := 1, cells := 0, slots := 0, locals := 26 })).room s m args below meth c H locs 0 0 (MQ below (va_Qv (fun (u : Int32 × (Nat → Int32) × (Nat → Int32) × (Nat → Int32) × (Nat → Int32)) => u = R) (fun u t => End_ dC dI A [(ko_endingAt, .int), (ko_returns, .int), (ko_highest, .int), (ko_alike, .int), (ko_opposed, .int)] [(ao, .inr (2, [.int zo_backLines, .int u.1, .ref ao_depthOf, .ref ao_endingAt, .ref ao_returns, .ref ao_highest, .ref ao_alike, .ref ao_opposed])), (ao_endingAt, .inl (ko_endingAt, 11, .inl zo_endingAt)), (ao_returns, .inl (ko_returns, 121, .inl u.2.1)), (ao_highest, .inl (ko_highest, 121, .inl u.2.2.1)), (ao_alike, .inl (ko_alike, 27, .inl u.2.2.2.1)), (ao_opposed, .inl (ko_opposed, 27, .inl u.2.2.2.2))] t) A) args s 0 0 A) (F0 m 80 ls []) := by
    intro k_17 v6_17 wo_clash_17 wo_alike_17 wo_opposed_17 H locs ls hI hP hD hS hl
    rw [hK_17] at hI
    refine lv_aload_n hx hb d_PT_compareWithEarlier_80 rfl (lv_at hl 0 rfl) ?_
    refine va_get (D := (dC, dI)) (ci := 2) (v := .ref ao_returns) (C := R_PT) (T := F_PT) (N := 8) hx hb hts (fun w h => List.mem_cons_of_mem _ (in_PT w h)) hown hK hP 0 rfl rfl 4 (by decide) (hts _ (List.mem_cons_of_mem _ mw_1_46)) (fun _ h9 => h9) rfl d_PT_compareWithEarlier_81 ?_
    refine lv_iload hx hb d_PT_compareWithEarlier_84 (lv_at hl 4 rfl) ?_
    refine lv_iload_n hx hb d_PT_compareWithEarlier_86 rfl (lv_at hl 3 rfl) ?_
    refine lv_iadd hx hb d_PT_compareWithEarlier_87 ?_
    refine lv_iload_n hx hb d_PT_compareWithEarlier_88 rfl (lv_at hl 1 rfl) ?_
    have hi_89 := ob_in hI
    have hI := ob_th hI
    refine va_iast (D := (dC, dI)) hx hb hK hP hD hS 2 1 rfl rfl hi_89 d_PT_compareWithEarlier_89 (fun H locs hP hD hS => ?_)
    have hP : va_P (dC, dI) classes [(ao, .inr (2, [.int zo_backLines, .int wo_clash_17, .ref ao_depthOf, .ref ao_endingAt, .ref ao_returns, .ref ao_highest, .ref ao_alike, .ref ao_opposed])), (ao_endingAt, .inl (ko_endingAt, 11, .inl zo_endingAt)), (ao_returns, .inl (ko_returns, 121, .inl (upd zo_returns (Int32.toNatClampNeg ((v2 * 11) + v3)) v1))), (ao_highest, .inl (ko_highest, 121, .inl zo_highest)), (ao_alike, .inl (ko_alike, 27, .inl wo_alike_17)), (ao_opposed, .inl (ko_opposed, 27, .inl wo_opposed_17))] H := hP
    have hD : va_D A [(ao, .inr (2, [.int zo_backLines, .int wo_clash_17, .ref ao_depthOf, .ref ao_endingAt, .ref ao_returns, .ref ao_highest, .ref ao_alike, .ref ao_opposed])), (ao_endingAt, .inl (ko_endingAt, 11, .inl zo_endingAt)), (ao_returns, .inl (ko_returns, 121, .inl (upd zo_returns (Int32.toNatClampNeg ((v2 * 11) + v3)) v1))), (ao_highest, .inl (ko_highest, 121, .inl zo_highest)), (ao_alike, .inl (ko_alike, 27, .inl wo_alike_17)), (ao_opposed, .inl (ko_opposed, 27, .inl wo_opposed_17))] := hD
    refine lv_aload_n hx hb d_PT_compareWithEarlier_90 rfl (lv_at hl 0 rfl) ?_
    refine va_get (D := (dC, dI)) (ci := 2) (v := .ref ao_highest) (C := R_PT) (T := F_PT) (N := 8) hx hb hts (fun w h => List.mem_cons_of_mem _ (in_PT w h)) hown hK hP 0 rfl rfl 5 (by decide) (hts _ (List.mem_cons_of_mem _ mw_1_47)) (fun _ h9 => h9) rfl d_PT_compareWithEarlier_91 ?_
    refine lv_iload hx hb d_PT_compareWithEarlier_94 (lv_at hl 4 rfl) ?_
    refine lv_iload_n hx hb d_PT_compareWithEarlier_96 rfl (lv_at hl 3 rfl) ?_
    refine lv_iadd hx hb d_PT_compareWithEarlier_97 ?_
    refine lv_iload hx hb d_PT_compareWithEarlier_98 (lv_at hl 5 rfl) ?_
    refine va_iast (D := (dC, dI)) hx hb hK hP hD hS 3 2 rfl rfl hi_89 d_PT_compareWithEarlier_100 (fun H locs hP hD hS => ?_)
    have hP : va_P (dC, dI) classes [(ao, .inr (2, [.int zo_backLines, .int wo_clash_17, .ref ao_depthOf, .ref ao_endingAt, .ref ao_returns, .ref ao_highest, .ref ao_alike, .ref ao_opposed])), (ao_endingAt, .inl (ko_endingAt, 11, .inl zo_endingAt)), (ao_returns, .inl (ko_returns, 121, .inl (upd zo_returns (Int32.toNatClampNeg ((v2 * 11) + v3)) v1))), (ao_highest, .inl (ko_highest, 121, .inl (upd zo_highest (Int32.toNatClampNeg ((v2 * 11) + v3)) r_9))), (ao_alike, .inl (ko_alike, 27, .inl wo_alike_17)), (ao_opposed, .inl (ko_opposed, 27, .inl wo_opposed_17))] H := hP
    have hD : va_D A [(ao, .inr (2, [.int zo_backLines, .int wo_clash_17, .ref ao_depthOf, .ref ao_endingAt, .ref ao_returns, .ref ao_highest, .ref ao_alike, .ref ao_opposed])), (ao_endingAt, .inl (ko_endingAt, 11, .inl zo_endingAt)), (ao_returns, .inl (ko_returns, 121, .inl (upd zo_returns (Int32.toNatClampNeg ((v2 * 11) + v3)) v1))), (ao_highest, .inl (ko_highest, 121, .inl (upd zo_highest (Int32.toNatClampNeg ((v2 * 11) + v3)) r_9))), (ao_alike, .inl (ko_alike, 27, .inl wo_alike_17)), (ao_opposed, .inl (ko_opposed, 27, .inl wo_opposed_17))] := hD
    exact W.vret hx hb hr (fun t ht hW => ⟨⟨(wo_clash_17, upd zo_returns (Int32.toNatClampNeg ((v2 * 11) + v3)) v1, upd zo_highest (Int32.toNatClampNeg ((v2 * 11) + v3)) r_9, wo_alike_17, wo_opposed_17), rfl, (Option.some.inj hI).symm, by rw [ht]; exact hP, va_K.moved hW.alike hK, hD⟩, hS.F ht⟩) hS.2.2 d_PT_compareWithEarlier_101
  have L_17 : ∀ (n_17 k_17 : Nat) (v6_17 : Int32) (wo_clash_17 : Int32) (wo_alike_17 : Nat → Int32) (wo_opposed_17 : Nat → Int32) (H : Heap) (locs : List Loc) (ls : Array Slot), some R = F_compareG_L17 K_17 zo_backLines zo_endingAt zo_returns zo_highest v1 v2 v3 r_9 n_17 v6_17 wo_clash_17 wo_alike_17 wo_opposed_17 → va_P (dC, dI) classes [(ao, .inr (2, [.int zo_backLines, .int wo_clash_17, .ref ao_depthOf, .ref ao_endingAt, .ref ao_returns, .ref ao_highest, .ref ao_alike, .ref ao_opposed])), (ao_endingAt, .inl (ko_endingAt, 11, .inl zo_endingAt)), (ao_returns, .inl (ko_returns, 121, .inl zo_returns)), (ao_highest, .inl (ko_highest, 121, .inl zo_highest)), (ao_alike, .inl (ko_alike, 27, .inl wo_alike_17)), (ao_opposed, .inl (ko_opposed, 27, .inl wo_opposed_17))] H → va_D A [(ao, .inr (2, [.int zo_backLines, .int wo_clash_17, .ref ao_depthOf, .ref ao_endingAt, .ref ao_returns, .ref ao_highest, .ref ao_alike, .ref ao_opposed])), (ao_endingAt, .inl (ko_endingAt, 11, .inl zo_endingAt)), (ao_returns, .inl (ko_returns, 121, .inl zo_returns)), (ao_highest, .inl (ko_highest, 121, .inl zo_highest)), (ao_alike, .inl (ko_alike, 27, .inl wo_alike_17)), (ao_opposed, .inl (ko_opposed, 27, .inl wo_opposed_17))] → va_S A s.heap H locs → lv_has ls 9 [(0, .ref ao), (1, .int v1), (2, .int v2), (3, .int v3), (4, .int (v2 * 11)), (5, .int r_9), (6, .int v6_17)] → W p l e (headSpec w_PT_compareWithEarlier ({ frames := 1, cells := 0, slots := 0, locals := 26 })).room s m args below meth c H locs 0 0 (MQ below (va_Qv (fun (u : Int32 × (Nat → Int32) × (Nat → Int32) × (Nat → Int32) × (Nat → Int32)) => u = R) (fun u t => End_ dC dI A [(ko_endingAt, .int), (ko_returns, .int), (ko_highest, .int), (ko_alike, .int), (ko_opposed, .int)] [(ao, .inr (2, [.int zo_backLines, .int u.1, .ref ao_depthOf, .ref ao_endingAt, .ref ao_returns, .ref ao_highest, .ref ao_alike, .ref ao_opposed])), (ao_endingAt, .inl (ko_endingAt, 11, .inl zo_endingAt)), (ao_returns, .inl (ko_returns, 121, .inl u.2.1)), (ao_highest, .inl (ko_highest, 121, .inl u.2.2.1)), (ao_alike, .inl (ko_alike, 27, .inl u.2.2.2.1)), (ao_opposed, .inl (ko_opposed, 27, .inl u.2.2.2.2))] t) A) args s 0 0 A) (F0 m 17 ls []) := by
    intro n_17
    induction n_17 with
    | zero =>
      intro k_17 v6_17 wo_clash_17 wo_alike_17 wo_opposed_17 H locs ls hI hP hD hS hl
      rw [F_compareG_L17] at hI
      exact absurd hI (ob_no _)
    | succ n_17 ih_17 =>
      intro k_17 v6_17 wo_clash_17 wo_alike_17 wo_opposed_17 H locs ls hI hP hD hS hl
      rw [F_compareG_L17] at hI
      refine lv_iload hx hb d_PT_compareWithEarlier_17 (lv_at hl 6 rfl) ?_
      refine lv_iload_n hx hb d_PT_compareWithEarlier_19 rfl (lv_at hl 3 rfl) ?_
      refine lv_icmp_ge (tgt := 80) hx hb d_PT_compareWithEarlier_20 rfl (fun hc_20 => ?_) (fun hc_20 => ?_)
      · skip
        have hI := hI.trans (if_pos hc_20)
        have hl := lv_sub hl [0, 1, 2, 3, 4, 5, 6] rfl
        exact X_17 0 _ _ _ _ _ _ _ hI hP hD hS hl
      · skip
        have hI := hI.trans (if_neg hc_20)
        refine lv_aload_n hx hb d_PT_compareWithEarlier_23 rfl (lv_at hl 0 rfl) ?_
        refine lv_aload_n hx hb d_PT_compareWithEarlier_24 rfl (lv_at hl 0 rfl) ?_
        refine va_get (D := (dC, dI)) (ci := 2) (v := .ref ao_highest) (C := R_PT) (T := F_PT) (N := 8) hx hb hts (fun w h => List.mem_cons_of_mem _ (in_PT w h)) hown hK hP 0 rfl rfl 5 (by decide) (hts _ (List.mem_cons_of_mem _ mw_1_47)) (fun _ h9 => h9) rfl d_PT_compareWithEarlier_25 ?_
        refine lv_iload hx hb d_PT_compareWithEarlier_28 (lv_at hl 4 rfl) ?_
        refine lv_iload hx hb d_PT_compareWithEarlier_30 (lv_at hl 6 rfl) ?_
        refine lv_iadd hx hb d_PT_compareWithEarlier_32 ?_
        have hi_33 := ob_in hI
        have hI := ob_th hI
        refine va_iald (D := (dC, dI)) hx hb hK hP 3 2 rfl rfl hi_33 d_PT_compareWithEarlier_33 ?_
        refine lv_iload_n hx hb d_PT_compareWithEarlier_34 rfl (lv_at hl 1 rfl) ?_
        obtain ⟨p_35, hg_35, hI⟩ := ob_bd hI
        have hPc := hP.sub (ws' := [(ao, .inr (2, [.int zo_backLines, .int wo_clash_17, .ref ao_depthOf, .ref ao_endingAt, .ref ao_returns, .ref ao_highest, .ref ao_alike, .ref ao_opposed])), (ao_endingAt, .inl (ko_endingAt, 11, .inl zo_endingAt))]) [0, 1] rfl
        have hDc := hD.sub (ws' := [(ao, .inr (2, [.int zo_backLines, .int wo_clash_17, .ref ao_depthOf, .ref ao_endingAt, .ref ao_returns, .ref ao_highest, .ref ao_alike, .ref ao_opposed])), (ao_endingAt, .inl (ko_endingAt, 11, .inl zo_endingAt))]) [0, 1] (by decide) rfl
        have hKc := hK.sub (tys' := [(ko_endingAt, .int)]) [0] rfl
        have hFc := va_free (wc := [(ao, .inr (2, [.int zo_backLines, .int wo_clash_17, .ref ao_depthOf, .ref ao_endingAt, .ref ao_returns, .ref ao_highest, .ref ao_alike, .ref ao_opposed])), (ao_endingAt, .inl (ko_endingAt, 11, .inl zo_endingAt))]) hD hS hA [0, 1] rfl
        refine va_calli (va_runV (As := [.int (zo_highest (Int32.toNatClampNeg ((v2 * 11) + v6_17))), .int v1]) (rest := []) ⟨hx, hb, hml, hown, hts⟩ (c_endingBelowG l dC dI H.size ao ao_depthOf ao_endingAt ao_returns ao_highest ao_alike ao_opposed ko_endingAt zo_backLines wo_clash_17 zo_endingAt (zo_highest (Int32.toNatClampNeg ((v2 * 11) + v6_17))) v1 p_35 hg_35) (cwV 2 hts (gi4 mw_1_195 mw_1_197 mw_p_7 mw_1_3 mw_1_198) rfl rfl rfl (by decide +kernel) ⟨Nat.le_of_ble_eq_true rfl, Nat.le_of_ble_eq_true rfl⟩) ⟨fb_, va_recv (q0 := 0) (ci := 2) hK hP rfl rfl, pre_ hPc hKc hDc hN⟩ rfl rfl hl.1 rfl (lv_room (Nat.le_of_ble_eq_true rfl)) d_PT_compareWithEarlier_35 ⟨Nat.le_of_ble_eq_true rfl, Nat.le_of_ble_eq_true rfl⟩) hS (fun q _ h => hFc q h) hFc (fun r_35 u t H locs ht hvm hp_35 hB hz1 hk1 hS => ?_)
        obtain ⟨hP1, -, hD1⟩ := hB
        rw [ht] at hP1
        obtain ⟨hP, hD⟩ := va_join (wr := [(ao_returns, .inl (ko_returns, 121, .inl zo_returns)), (ao_highest, .inl (ko_highest, 121, .inl zo_highest)), (ao_alike, .inl (ko_alike, 27, .inl wo_alike_17)), (ao_opposed, .inl (ko_opposed, 27, .inl wo_opposed_17))]) (w1 := [(ao, .inr (2, [.int zo_backLines, .int wo_clash_17, .ref ao_depthOf, .ref ao_endingAt, .ref ao_returns, .ref ao_highest, .ref ao_alike, .ref ao_opposed])), (ao_endingAt, .inl (ko_endingAt, 11, .inl zo_endingAt))]) hP hD [0, 1] [2, 3, 4, 5] rfl rfl (by decide) (by decide) hk1 hFc hP1 hD1
        have hp_35 : (r_35) = p_35 := hp_35
        subst hp_35
        have hP : va_P (dC, dI) classes [(ao_returns, .inl (ko_returns, 121, .inl zo_returns)), (ao_highest, .inl (ko_highest, 121, .inl zo_highest)), (ao_alike, .inl (ko_alike, 27, .inl wo_alike_17)), (ao_opposed, .inl (ko_opposed, 27, .inl wo_opposed_17)), (ao, .inr (2, [.int zo_backLines, .int wo_clash_17, .ref ao_depthOf, .ref ao_endingAt, .ref ao_returns, .ref ao_highest, .ref ao_alike, .ref ao_opposed])), (ao_endingAt, .inl (ko_endingAt, 11, .inl zo_endingAt))] H := hP
        have hD : va_D A [(ao_returns, .inl (ko_returns, 121, .inl zo_returns)), (ao_highest, .inl (ko_highest, 121, .inl zo_highest)), (ao_alike, .inl (ko_alike, 27, .inl wo_alike_17)), (ao_opposed, .inl (ko_opposed, 27, .inl wo_opposed_17)), (ao, .inr (2, [.int zo_backLines, .int wo_clash_17, .ref ao_depthOf, .ref ao_endingAt, .ref ao_returns, .ref ao_highest, .ref ao_alike, .ref ao_opposed])), (ao_endingAt, .inl (ko_endingAt, 11, .inl zo_endingAt))] := hD
        refine lv_istore (lv' := [(7, .int r_35), (0, .ref ao), (1, .int v1), (2, .int v2), (3, .int v3), (4, .int (v2 * 11)), (5, .int r_9), (6, .int v6_17)]) hx hb d_PT_compareWithEarlier_38 hl (by decide) rfl (fun ls hl => ?_)
        refine lv_aload_n hx hb d_PT_compareWithEarlier_40 rfl (lv_at hl 1 rfl) ?_
        refine lv_iload hx hb d_PT_compareWithEarlier_41 (lv_at hl 6 rfl) ?_
        refine lv_aload_n hx hb d_PT_compareWithEarlier_43 rfl (lv_at hl 1 rfl) ?_
        refine va_get (D := (dC, dI)) (ci := 2) (v := .ref ao_returns) (C := R_PT) (T := F_PT) (N := 8) hx hb hts (fun w h => List.mem_cons_of_mem _ (in_PT w h)) hown hK hP 4 rfl rfl 4 (by decide) (hts _ (List.mem_cons_of_mem _ mw_1_46)) (fun _ h9 => h9) rfl d_PT_compareWithEarlier_44 ?_
        refine lv_iload hx hb d_PT_compareWithEarlier_47 (lv_at hl 5 rfl) ?_
        refine lv_iload hx hb d_PT_compareWithEarlier_49 (lv_at hl 7 rfl) ?_
        refine lv_iadd hx hb d_PT_compareWithEarlier_51 ?_
        refine va_iald (D := (dC, dI)) hx hb hK hP 0 1 rfl rfl hi_33 d_PT_compareWithEarlier_52 ?_
        obtain ⟨p_53, hg_53, hI⟩ := ob_bd hI
        have hPc := hP.sub (ws' := [(ao, .inr (2, [.int zo_backLines, .int wo_clash_17, .ref ao_depthOf, .ref ao_endingAt, .ref ao_returns, .ref ao_highest, .ref ao_alike, .ref ao_opposed])), (ao_endingAt, .inl (ko_endingAt, 11, .inl zo_endingAt))]) [4, 5] rfl
        have hDc := hD.sub (ws' := [(ao, .inr (2, [.int zo_backLines, .int wo_clash_17, .ref ao_depthOf, .ref ao_endingAt, .ref ao_returns, .ref ao_highest, .ref ao_alike, .ref ao_opposed])), (ao_endingAt, .inl (ko_endingAt, 11, .inl zo_endingAt))]) [4, 5] (by decide) rfl
        have hKc := hK.sub (tys' := [(ko_endingAt, .int)]) [0] rfl
        have hFc := va_free (wc := [(ao, .inr (2, [.int zo_backLines, .int wo_clash_17, .ref ao_depthOf, .ref ao_endingAt, .ref ao_returns, .ref ao_highest, .ref ao_alike, .ref ao_opposed])), (ao_endingAt, .inl (ko_endingAt, 11, .inl zo_endingAt))]) hD hS hA [4, 5] rfl
        refine va_calli (va_runV (As := [.int r_9, .int (zo_returns (Int32.toNatClampNeg ((v2 * 11) + v6_17)))]) (rest := []) ⟨hx, hb, hml, hown, hts⟩ (c_endingBelowG l dC dI H.size ao ao_depthOf ao_endingAt ao_returns ao_highest ao_alike ao_opposed ko_endingAt zo_backLines wo_clash_17 zo_endingAt r_9 (zo_returns (Int32.toNatClampNeg ((v2 * 11) + v6_17))) p_53 hg_53) (cwV 2 hts (gi4 mw_1_195 mw_1_197 mw_p_7 mw_1_3 mw_1_198) rfl rfl rfl (by decide +kernel) ⟨Nat.le_of_ble_eq_true rfl, Nat.le_of_ble_eq_true rfl⟩) ⟨fb_, va_recv (q0 := 4) (ci := 2) hK hP rfl rfl, pre_ hPc hKc hDc hN⟩ rfl rfl hl.1 rfl (lv_room (Nat.le_of_ble_eq_true rfl)) d_PT_compareWithEarlier_53 ⟨Nat.le_of_ble_eq_true rfl, Nat.le_of_ble_eq_true rfl⟩) hS (fun q _ h => hFc q h) hFc (fun r_53 u t H locs ht hvm hp_53 hB hz1 hk1 hS => ?_)
        obtain ⟨hP1, -, hD1⟩ := hB
        rw [ht] at hP1
        obtain ⟨hP, hD⟩ := va_join (wr := [(ao_returns, .inl (ko_returns, 121, .inl zo_returns)), (ao_highest, .inl (ko_highest, 121, .inl zo_highest)), (ao_alike, .inl (ko_alike, 27, .inl wo_alike_17)), (ao_opposed, .inl (ko_opposed, 27, .inl wo_opposed_17))]) (w1 := [(ao, .inr (2, [.int zo_backLines, .int wo_clash_17, .ref ao_depthOf, .ref ao_endingAt, .ref ao_returns, .ref ao_highest, .ref ao_alike, .ref ao_opposed])), (ao_endingAt, .inl (ko_endingAt, 11, .inl zo_endingAt))]) hP hD [4, 5] [0, 1, 2, 3] rfl rfl (by decide) (by decide) hk1 hFc hP1 hD1
        have hp_53 : (r_53) = p_53 := hp_53
        subst hp_53
        have hP : va_P (dC, dI) classes [(ao_returns, .inl (ko_returns, 121, .inl zo_returns)), (ao_highest, .inl (ko_highest, 121, .inl zo_highest)), (ao_alike, .inl (ko_alike, 27, .inl wo_alike_17)), (ao_opposed, .inl (ko_opposed, 27, .inl wo_opposed_17)), (ao, .inr (2, [.int zo_backLines, .int wo_clash_17, .ref ao_depthOf, .ref ao_endingAt, .ref ao_returns, .ref ao_highest, .ref ao_alike, .ref ao_opposed])), (ao_endingAt, .inl (ko_endingAt, 11, .inl zo_endingAt))] H := hP
        have hD : va_D A [(ao_returns, .inl (ko_returns, 121, .inl zo_returns)), (ao_highest, .inl (ko_highest, 121, .inl zo_highest)), (ao_alike, .inl (ko_alike, 27, .inl wo_alike_17)), (ao_opposed, .inl (ko_opposed, 27, .inl wo_opposed_17)), (ao, .inr (2, [.int zo_backLines, .int wo_clash_17, .ref ao_depthOf, .ref ao_endingAt, .ref ao_returns, .ref ao_highest, .ref ao_alike, .ref ao_opposed])), (ao_endingAt, .inl (ko_endingAt, 11, .inl zo_endingAt))] := hD
        refine lv_istore (lv' := [(8, .int r_53), (7, .int r_35), (0, .ref ao), (1, .int v1), (2, .int v2), (3, .int v3), (4, .int (v2 * 11)), (5, .int r_9), (6, .int v6_17)]) hx hb d_PT_compareWithEarlier_56 hl (by decide) rfl (fun ls hl => ?_)
        refine lv_iload hx hb d_PT_compareWithEarlier_58 (lv_at hl 1 rfl) ?_
        refine lv_iload hx hb d_PT_compareWithEarlier_60 (lv_at hl 0 rfl) ?_
        refine lv_ior hx hb d_PT_compareWithEarlier_62 ?_
        refine lv_if_eq (tgt := 74) hx hb d_PT_compareWithEarlier_63 rfl (fun hc_63 => ?_) (fun hc_63 => ?_)
        · skip
          have hI := hI.trans (if_pos hc_63)
          refine lv_iinc (lv' := [(6, .int (v6_17 + 1)), (8, .int r_53), (7, .int r_35), (0, .ref ao), (1, .int v1), (2, .int v2), (3, .int v3), (4, .int (v2 * 11)), (5, .int r_9)]) (k := 8) hx hb d_PT_compareWithEarlier_74 hl rfl (z_inc1 _) (by decide) rfl (fun ls hl => ?_)
          refine lv_goto (tgt := 17) hx hb d_PT_compareWithEarlier_77 rfl ?_
          have hP := hP.sub (ws' := [(ao, .inr (2, [.int zo_backLines, .int wo_clash_17, .ref ao_depthOf, .ref ao_endingAt, .ref ao_returns, .ref ao_highest, .ref ao_alike, .ref ao_opposed])), (ao_endingAt, .inl (ko_endingAt, 11, .inl zo_endingAt)), (ao_returns, .inl (ko_returns, 121, .inl zo_returns)), (ao_highest, .inl (ko_highest, 121, .inl zo_highest)), (ao_alike, .inl (ko_alike, 27, .inl wo_alike_17)), (ao_opposed, .inl (ko_opposed, 27, .inl wo_opposed_17))]) [4, 5, 0, 1, 2, 3] rfl
          have hD := hD.sub (ws' := [(ao, .inr (2, [.int zo_backLines, .int wo_clash_17, .ref ao_depthOf, .ref ao_endingAt, .ref ao_returns, .ref ao_highest, .ref ao_alike, .ref ao_opposed])), (ao_endingAt, .inl (ko_endingAt, 11, .inl zo_endingAt)), (ao_returns, .inl (ko_returns, 121, .inl zo_returns)), (ao_highest, .inl (ko_highest, 121, .inl zo_highest)), (ao_alike, .inl (ko_alike, 27, .inl wo_alike_17)), (ao_opposed, .inl (ko_opposed, 27, .inl wo_opposed_17))]) [4, 5, 0, 1, 2, 3] (by decide) rfl
          have hl := lv_sub hl [3, 4, 5, 6, 7, 8, 0] rfl
          exact ih_17 0 _ _ _ _ _ _ _ hI hP hD hS hl
        · skip
          have hI := hI.trans (if_neg hc_63)
          refine lv_aload_n hx hb d_PT_compareWithEarlier_66 rfl (lv_at hl 2 rfl) ?_
          refine lv_iload hx hb d_PT_compareWithEarlier_67 (lv_at hl 1 rfl) ?_
          refine lv_iload hx hb d_PT_compareWithEarlier_69 (lv_at hl 0 rfl) ?_
          obtain ⟨p_71, hg_71, hI⟩ := ob_bd hI
          have hPc := hP.sub (ws' := [(ao, .inr (2, [.int zo_backLines, .int wo_clash_17, .ref ao_depthOf, .ref ao_endingAt, .ref ao_returns, .ref ao_highest, .ref ao_alike, .ref ao_opposed])), (ao_alike, .inl (ko_alike, 27, .inl wo_alike_17)), (ao_opposed, .inl (ko_opposed, 27, .inl wo_opposed_17))]) [4, 2, 3] rfl
          have hDc := hD.sub (ws' := [(ao, .inr (2, [.int zo_backLines, .int wo_clash_17, .ref ao_depthOf, .ref ao_endingAt, .ref ao_returns, .ref ao_highest, .ref ao_alike, .ref ao_opposed])), (ao_alike, .inl (ko_alike, 27, .inl wo_alike_17)), (ao_opposed, .inl (ko_opposed, 27, .inl wo_opposed_17))]) [4, 2, 3] (by decide) rfl
          have hKc := hK.sub (tys' := [(ko_alike, .int), (ko_opposed, .int)]) [3, 4] rfl
          have hFc := va_free (wc := [(ao, .inr (2, [.int zo_backLines, .int wo_clash_17, .ref ao_depthOf, .ref ao_endingAt, .ref ao_returns, .ref ao_highest, .ref ao_alike, .ref ao_opposed])), (ao_alike, .inl (ko_alike, 27, .inl wo_alike_17)), (ao_opposed, .inl (ko_opposed, 27, .inl wo_opposed_17))]) hD hS hA [4, 2, 3] rfl
          refine va_callv (va_runV (As := [.int r_35, .int r_53]) (rest := []) ⟨hx, hb, hml, hown, hts⟩ (c_partSidesG l dC dI H.size ao ao_depthOf ao_endingAt ao_returns ao_highest ao_alike ao_opposed ko_alike ko_opposed zo_backLines wo_clash_17 wo_alike_17 wo_opposed_17 r_35 r_53 p_71 hg_71) (cwV 2 hts (gi4 mw_1_199 mw_1_201 mw_p_8 mw_1_3 mw_1_202) rfl rfl rfl (by decide +kernel) ⟨Nat.le_of_ble_eq_true rfl, Nat.le_of_ble_eq_true rfl⟩) ⟨fb_, va_recv (q0 := 4) (ci := 2) hK hP rfl rfl, pre_ hPc hKc hDc hN⟩ rfl rfl hl.1 rfl (lv_room (Nat.le_of_ble_eq_true rfl)) d_PT_compareWithEarlier_71 ⟨Nat.le_of_ble_eq_true rfl, Nat.le_of_ble_eq_true rfl⟩) hS (fun q _ h => hFc q h) hFc (fun u t H locs ht hvm hp_71 hB hz1 hk1 hS => ?_)
          obtain ⟨wo_clash_71, wo_alike_71, wo_opposed_71⟩ := u
          obtain ⟨hP1, -, hD1⟩ := hB
          rw [ht] at hP1
          obtain ⟨hP, hD⟩ := va_join (wr := [(ao_returns, .inl (ko_returns, 121, .inl zo_returns)), (ao_highest, .inl (ko_highest, 121, .inl zo_highest)), (ao_endingAt, .inl (ko_endingAt, 11, .inl zo_endingAt))]) (w1 := [(ao, .inr (2, [.int zo_backLines, .int wo_clash_71, .ref ao_depthOf, .ref ao_endingAt, .ref ao_returns, .ref ao_highest, .ref ao_alike, .ref ao_opposed])), (ao_alike, .inl (ko_alike, 27, .inl wo_alike_71)), (ao_opposed, .inl (ko_opposed, 27, .inl wo_opposed_71))]) hP hD [4, 2, 3] [0, 1, 5] rfl rfl (by decide) (by decide) hk1 hFc hP1 hD1
          have hp_71 : (wo_clash_71, wo_alike_71, wo_opposed_71) = p_71 := hp_71
          subst hp_71
          have hP : va_P (dC, dI) classes [(ao_returns, .inl (ko_returns, 121, .inl zo_returns)), (ao_highest, .inl (ko_highest, 121, .inl zo_highest)), (ao_endingAt, .inl (ko_endingAt, 11, .inl zo_endingAt)), (ao, .inr (2, [.int zo_backLines, .int wo_clash_71, .ref ao_depthOf, .ref ao_endingAt, .ref ao_returns, .ref ao_highest, .ref ao_alike, .ref ao_opposed])), (ao_alike, .inl (ko_alike, 27, .inl wo_alike_71)), (ao_opposed, .inl (ko_opposed, 27, .inl wo_opposed_71))] H := hP
          have hD : va_D A [(ao_returns, .inl (ko_returns, 121, .inl zo_returns)), (ao_highest, .inl (ko_highest, 121, .inl zo_highest)), (ao_endingAt, .inl (ko_endingAt, 11, .inl zo_endingAt)), (ao, .inr (2, [.int zo_backLines, .int wo_clash_71, .ref ao_depthOf, .ref ao_endingAt, .ref ao_returns, .ref ao_highest, .ref ao_alike, .ref ao_opposed])), (ao_alike, .inl (ko_alike, 27, .inl wo_alike_71)), (ao_opposed, .inl (ko_opposed, 27, .inl wo_opposed_71))] := hD
          refine lv_iinc (lv' := [(6, .int (v6_17 + 1)), (8, .int r_53), (7, .int r_35), (0, .ref ao), (1, .int v1), (2, .int v2), (3, .int v3), (4, .int (v2 * 11)), (5, .int r_9)]) (k := 8) hx hb d_PT_compareWithEarlier_74 hl rfl (z_inc1 _) (by decide) rfl (fun ls hl => ?_)
          refine lv_goto (tgt := 17) hx hb d_PT_compareWithEarlier_77 rfl ?_
          have hP := hP.sub (ws' := [(ao, .inr (2, [.int zo_backLines, .int wo_clash_71, .ref ao_depthOf, .ref ao_endingAt, .ref ao_returns, .ref ao_highest, .ref ao_alike, .ref ao_opposed])), (ao_endingAt, .inl (ko_endingAt, 11, .inl zo_endingAt)), (ao_returns, .inl (ko_returns, 121, .inl zo_returns)), (ao_highest, .inl (ko_highest, 121, .inl zo_highest)), (ao_alike, .inl (ko_alike, 27, .inl wo_alike_71)), (ao_opposed, .inl (ko_opposed, 27, .inl wo_opposed_71))]) [3, 2, 0, 1, 4, 5] rfl
          have hD := hD.sub (ws' := [(ao, .inr (2, [.int zo_backLines, .int wo_clash_71, .ref ao_depthOf, .ref ao_endingAt, .ref ao_returns, .ref ao_highest, .ref ao_alike, .ref ao_opposed])), (ao_endingAt, .inl (ko_endingAt, 11, .inl zo_endingAt)), (ao_returns, .inl (ko_returns, 121, .inl zo_returns)), (ao_highest, .inl (ko_highest, 121, .inl zo_highest)), (ao_alike, .inl (ko_alike, 27, .inl wo_alike_71)), (ao_opposed, .inl (ko_opposed, 27, .inl wo_opposed_71))]) [3, 2, 0, 1, 4, 5] (by decide) rfl
          have hl := lv_sub hl [3, 4, 5, 6, 7, 8, 0] rfl
          exact ih_17 0 _ _ _ _ _ _ _ hI hP hD hS hl
  have hl : lv_has ls 9 [(0, .ref ao), (1, .int v1), (2, .int v2), (3, .int v3), (4, .int (v2 * 11)), (5, .int r_9), (6, .int 0)] := by first | exact lv_sub hl [3, 4, 5, 6, 2, 1, 0] rfl | (rw [nI_succ]; exact lv_sub hl [3, 4, 5, 6, 2, 1, 0] rfl)
  exact L_17 64 0 _ _ _ _ _ _ _ (by rw [hK_17]; exact hI) hP hD hS hl
