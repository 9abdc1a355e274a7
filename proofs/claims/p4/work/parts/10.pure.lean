set_option maxHeartbeats 4000000 in
set_option maxRecDepth 100000 in
theorem c_has (l : Launch) (dC : Nat → ClassId) (dI : Nat → Nat → Nat) (sz : Nat) (vs vn : Int32) : Met l y_PS_has w_PS_has ({ frames := 0, cells := 0, slots := 0, locals := 0 }) (Pre_ dC dI sz [.int vs, .int vn] [] []) (va_Qi (fun (r : Int32) (u : Unit) => r = f_has vs vn) (fun u t => End_ dC dI (va_A [] sz) [] [] t) (va_A [] sz)) 0 0 (va_A [] sz) := by
  refine Met.ofW (cc := b_PS_has) (maxL := 2) (ret := (some .boolean)) (by decide) rfl ?_
  intro p e s m args below meth c s₁ B hml hv
  obtain ⟨hargs, hsz, hP, hK, hD0, hN⟩ := hv
  have hx := B.exec
  have hb := B.bytes
  have hr := B.returns
  have hts := atoms_spec (ws := w_PS_has) B.pre
  have hown : s.vm.findClass R_PS = some m.cls := findClass_of_methodNamed B.named
  have hlocks := B.notSynchronized
  subst hsz
  have hD := hD0.self (sz := s.heap.size)
  generalize hAe : va_A [] s.heap.size = A at hD ⊢
  have hA : ∀ q : Nat, s.heap.size ≤ q → A q := fun q h => by rw [← hAe]; exact Or.inr h
  have hS : va_S A s.heap s.heap [] := va_S.rf
  have hl := lv_entry ([.int vs, .int vn]) (n := 2) (Nat.le_of_ble_eq_true rfl)
  refine W.eq (congrArg (fun a => entryFrame m a 2) hargs) ?_
  rw [lg_entry_eq]
  generalize (lg_sl ([.int vs, .int vn]) ++ List.replicate (2 - (lg_sl ([.int vs, .int vn])).length) Slot.unset).toArray = ls at hl ⊢
  have hl : lv_has ls 2 [(0, .int vs), (1, .int vn)] := hl
  generalize hH0 : ([] : List Loc) = locs at hS ⊢
  refine lv_iload_n hx hb d_PS_has_0 rfl (lv_at hl 0 rfl) ?_
  refine lv_iload_n hx hb d_PS_has_1 rfl (lv_at hl 1 rfl) ?_
  refine lv_ishr hx hb d_PS_has_2 ?_
  refine lv_iconst (v := 1) hx hb d_PS_has_3 (by decide) ?_
  refine lv_iand hx hb d_PS_has_4 ?_
  refine lv_if_eq (tgt := 12) hx hb d_PS_has_5 rfl (fun hc_5 => ?_) (fun hc_5 => ?_)
  · skip
    refine lv_iconst (v := 0) hx hb d_PS_has_12 (by decide) ?_
    exact W.zret (v := 0) (ty := .boolean) hx hb hr rfl (fun t ht hW => ⟨⟨0, (), rfl, (by rw [f_has, if_pos hc_5]), by rw [ht]; exact hP, va_K.moved hW.alike hK, hD⟩, hS.F ht⟩) hS.2.2 d_PS_has_13
  · skip
    refine lv_iconst (v := 1) hx hb d_PS_has_8 (by decide) ?_
    refine lv_goto (tgt := 13) hx hb d_PS_has_9 rfl ?_
    exact W.zret (v := 1) (ty := .boolean) hx hb hr rfl (fun t ht hW => ⟨⟨1, (), rfl, (by rw [f_has, if_neg hc_5]), by rw [ht]; exact hP, va_K.moved hW.alike hK, hD⟩, hS.F ht⟩) hS.2.2 d_PS_has_13
set_option maxHeartbeats 4000000 in
set_option maxRecDepth 100000 in
theorem c_isNN (l : Launch) (dC : Nat → ClassId) (dI : Nat → Nat → Nat) (sz : Nat) (vi : Int32) : Met l y_PS_isNodeNumber w_PS_isNodeNumber ({ frames := 0, cells := 0, slots := 0, locals := 0 }) (Pre_ dC dI sz [.int vi] [] []) (va_Qi (fun (r : Int32) (u : Unit) => r = f_isNN vi) (fun u t => End_ dC dI (va_A [] sz) [] [] t) (va_A [] sz)) 0 0 (va_A [] sz) := by
  refine Met.ofW (cc := b_PS_isNodeNumber) (maxL := 1) (ret := (some .boolean)) (by decide) rfl ?_
  intro p e s m args below meth c s₁ B hml hv
  obtain ⟨hargs, hsz, hP, hK, hD0, hN⟩ := hv
  have hx := B.exec
  have hb := B.bytes
  have hr := B.returns
  have hts := atoms_spec (ws := w_PS_isNodeNumber) B.pre
  have hown : s.vm.findClass R_PS = some m.cls := findClass_of_methodNamed B.named
  have hlocks := B.notSynchronized
  subst hsz
  have hD := hD0.self (sz := s.heap.size)
  generalize hAe : va_A [] s.heap.size = A at hD ⊢
  have hA : ∀ q : Nat, s.heap.size ≤ q → A q := fun q h => by rw [← hAe]; exact Or.inr h
  have hS : va_S A s.heap s.heap [] := va_S.rf
  have hl := lv_entry ([.int vi]) (n := 1) (Nat.le_of_ble_eq_true rfl)
  refine W.eq (congrArg (fun a => entryFrame m a 1) hargs) ?_
  rw [lg_entry_eq]
  generalize (lg_sl ([.int vi]) ++ List.replicate (1 - (lg_sl ([.int vi])).length) Slot.unset).toArray = ls at hl ⊢
  have hl : lv_has ls 1 [(0, .int vi)] := hl
  generalize hH0 : ([] : List Loc) = locs at hS ⊢
  refine lv_iload_n hx hb d_PS_isNodeNumber_0 rfl (lv_at hl 0 rfl) ?_
  refine lv_if_lt (tgt := 14) hx hb d_PS_isNodeNumber_1 rfl (fun hc_1 => ?_) (fun hc_1 => ?_)
  · skip
    refine lv_iconst (v := 0) hx hb d_PS_isNodeNumber_14 (by decide) ?_
    exact W.zret (v := 0) (ty := .boolean) hx hb hr rfl (fun t ht hW => ⟨⟨0, (), rfl, (by rw [f_isNN, if_pos hc_1]), by rw [ht]; exact hP, va_K.moved hW.alike hK, hD⟩, hS.F ht⟩) hS.2.2 d_PS_isNodeNumber_15
  · skip
    refine lv_iload_n hx hb d_PS_isNodeNumber_4 rfl (lv_at hl 0 rfl) ?_
    refine lv_bipush (v := 10) hx hb d_PS_isNodeNumber_5 (by decide) ?_
    refine lv_icmp_ge (tgt := 14) hx hb d_PS_isNodeNumber_7 rfl (fun hc_7 => ?_) (fun hc_7 => ?_)
    · skip
      refine lv_iconst (v := 0) hx hb d_PS_isNodeNumber_14 (by decide) ?_
      exact W.zret (v := 0) (ty := .boolean) hx hb hr rfl (fun t ht hW => ⟨⟨0, (), rfl, (by rw [f_isNN, if_neg hc_1, if_pos hc_7]), by rw [ht]; exact hP, va_K.moved hW.alike hK, hD⟩, hS.F ht⟩) hS.2.2 d_PS_isNodeNumber_15
    · skip
      refine lv_iconst (v := 1) hx hb d_PS_isNodeNumber_10 (by decide) ?_
      refine lv_goto (tgt := 15) hx hb d_PS_isNodeNumber_11 rfl ?_
      exact W.zret (v := 1) (ty := .boolean) hx hb hr rfl (fun t ht hW => ⟨⟨1, (), rfl, (by rw [f_isNN, if_neg hc_1, if_neg hc_7]), by rw [ht]; exact hP, va_K.moved hW.alike hK, hD⟩, hS.F ht⟩) hS.2.2 d_PS_isNodeNumber_15
set_option maxHeartbeats 4000000 in
set_option maxRecDepth 100000 in
theorem c_nodeIsThere (l : Launch) (dC : Nat → ClassId) (dI : Nat → Nat → Nat) (sz : Nat) (ax ax_lessEnd ax_moreEnd ax_web ax_planeTest ax_palette ax_desk : Nat) (zx_nodeBits : Int32) (zx_lineBits : Int32) (vi : Int32) : Met l y_PS_nodeIsThere w_PS_nodeIsThere ({ frames := 1, cells := 0, slots := 0, locals := 21 }) (Pre_ dC dI sz [.ref ax, .int vi] [(ax, .inr (0, [.int zx_nodeBits, .int zx_lineBits, .ref ax_lessEnd, .ref ax_moreEnd, .ref ax_web, .ref ax_planeTest, .ref ax_palette, .ref ax_desk]))] []) (va_Qi (fun (r : Int32) (u : Unit) => r = f_nit zx_nodeBits vi) (fun u t => End_ dC dI (va_A [(ax, .inr (0, [.int zx_nodeBits, .int zx_lineBits, .ref ax_lessEnd, .ref ax_moreEnd, .ref ax_web, .ref ax_planeTest, .ref ax_palette, .ref ax_desk]))] sz) [] [(ax, .inr (0, [.int zx_nodeBits, .int zx_lineBits, .ref ax_lessEnd, .ref ax_moreEnd, .ref ax_web, .ref ax_planeTest, .ref ax_palette, .ref ax_desk]))] t) (va_A [(ax, .inr (0, [.int zx_nodeBits, .int zx_lineBits, .ref ax_lessEnd, .ref ax_moreEnd, .ref ax_web, .ref ax_planeTest, .ref ax_palette, .ref ax_desk]))] sz)) 0 0 (va_A [(ax, .inr (0, [.int zx_nodeBits, .int zx_lineBits, .ref ax_lessEnd, .ref ax_moreEnd, .ref ax_web, .ref ax_planeTest, .ref ax_palette, .ref ax_desk]))] sz) := by
  refine Met.ofW (cc := b_PS_nodeIsThere) (maxL := 2) (ret := (some .boolean)) (by decide) rfl ?_
  intro p e s m args below meth c s₁ B hml hv
  obtain ⟨hargs, hsz, hP, hK, hD0, hN⟩ := hv
  have hx := B.exec
  have hb := B.bytes
  have hr := B.returns
  have hts := atoms_spec (ws := w_PS_nodeIsThere) B.pre
  have hown : s.vm.findClass R_PS = some m.cls := findClass_of_methodNamed B.named
  have hlocks := B.notSynchronized
  subst hsz
  have hD := hD0.self (sz := s.heap.size)
  generalize hAe : va_A [(ax, .inr (0, [.int zx_nodeBits, .int zx_lineBits, .ref ax_lessEnd, .ref ax_moreEnd, .ref ax_web, .ref ax_planeTest, .ref ax_palette, .ref ax_desk]))] s.heap.size = A at hD ⊢
  have hA : ∀ q : Nat, s.heap.size ≤ q → A q := fun q h => by rw [← hAe]; exact Or.inr h
  have hS : va_S A s.heap s.heap [] := va_S.rf
  have hl := lv_entry ([.ref ax, .int vi]) (n := 2) (Nat.le_of_ble_eq_true rfl)
  refine W.eq (congrArg (fun a => entryFrame m a 2) hargs) ?_
  rw [lg_entry_eq]
  generalize (lg_sl ([.ref ax, .int vi]) ++ List.replicate (2 - (lg_sl ([.ref ax, .int vi])).length) Slot.unset).toArray = ls at hl ⊢
  have hl : lv_has ls 2 [(0, .ref ax), (1, .int vi)] := hl
  generalize hH0 : ([] : List Loc) = locs at hS ⊢
  refine lv_iload_n hx hb d_PS_nodeIsThere_0 rfl (lv_at hl 1 rfl) ?_
  have hPc := hP.sub (ws' := []) [] rfl
  have hDc := hD.sub (ws' := []) [] (by decide) rfl
  have hKc := hK.sub (tys' := []) [] rfl
  have hFc := va_free (wc := []) hD hS hA [] rfl
  refine va_calli (va_runS (As := [.int vi]) (rest := []) ⟨hx, hb, hml, hown, hts⟩ (c_isNN l dC dI s.heap.size vi) (cwS 1 hts (gi3 mw_2_121 mw_2_122 mw_1_1 mw_2_123) rfl rfl rfl (by decide +kernel) ⟨Nat.le_of_ble_eq_true rfl, Nat.le_of_ble_eq_true rfl⟩) ⟨fb_, pre_ hPc hKc hDc hN⟩ rfl rfl hl.1 rfl (lv_room (Nat.le_of_ble_eq_true rfl)) d_PS_nodeIsThere_1 ⟨Nat.le_of_ble_eq_true rfl, Nat.le_of_ble_eq_true rfl⟩) hS (fun q _ h => hFc q h) hFc (fun r_1 u t H locs ht hvm hp_1 hB hz1 hk1 hS => ?_)
  have hp_1 : r_1 = f_isNN vi := hp_1
  obtain ⟨hP1, -, hD1⟩ := hB
  rw [ht] at hP1
  obtain ⟨hP, hD⟩ := va_join (wr := [(ax, .inr (0, [.int zx_nodeBits, .int zx_lineBits, .ref ax_lessEnd, .ref ax_moreEnd, .ref ax_web, .ref ax_planeTest, .ref ax_palette, .ref ax_desk]))]) (w1 := []) hP hD [] [0] rfl rfl (by decide) (by decide) hk1 hFc hP1 hD1
  have hP : va_P (dC, dI) classes [(ax, .inr (0, [.int zx_nodeBits, .int zx_lineBits, .ref ax_lessEnd, .ref ax_moreEnd, .ref ax_web, .ref ax_planeTest, .ref ax_palette, .ref ax_desk]))] H := hP
  have hD : va_D A [(ax, .inr (0, [.int zx_nodeBits, .int zx_lineBits, .ref ax_lessEnd, .ref ax_moreEnd, .ref ax_web, .ref ax_planeTest, .ref ax_palette, .ref ax_desk]))] := hD
  refine lv_if_eq (tgt := 22) hx hb d_PS_nodeIsThere_4 rfl (fun hc_4 => ?_) (fun hc_4 => ?_)
  · skip
    refine lv_iconst (v := 0) hx hb d_PS_nodeIsThere_22 (by decide) ?_
    exact W.zret (v := 0) (ty := .boolean) hx hb hr rfl (fun t ht hW => ⟨⟨0, (), rfl, (by rw [f_nit, ← hp_1, if_pos hc_4]), by rw [ht]; exact hP, va_K.moved hW.alike hK, hD⟩, hS.F ht⟩) hS.2.2 d_PS_nodeIsThere_23
  · skip
    refine lv_aload_n hx hb d_PS_nodeIsThere_7 rfl (lv_at hl 0 rfl) ?_
    refine va_get (D := (dC, dI)) (ci := 0) (v := .int zx_nodeBits) (C := R_PS) (T := F_PS) (N := 8) hx hb hts (fun w h => List.mem_cons_of_mem _ (in_PS w h)) hown hK hP 0 rfl rfl 0 (by decide) (hts _ (List.mem_cons_of_mem _ mw_1_96)) (fun _ h9 => h9) rfl d_PS_nodeIsThere_8 ?_
    refine lv_iload_n hx hb d_PS_nodeIsThere_11 rfl (lv_at hl 1 rfl) ?_
    have hPc := hP.sub (ws' := []) [] rfl
    have hDc := hD.sub (ws' := []) [] (by decide) rfl
    have hKc := hK.sub (tys' := []) [] rfl
    have hFc := va_free (wc := []) hD hS hA [] rfl
    refine va_calli (va_runS (As := [.int zx_nodeBits, .int vi]) (rest := []) ⟨hx, hb, hml, hown, hts⟩ (c_has l dC dI H.size zx_nodeBits vi) (cwS 2 hts (gi3 mw_1_148 mw_1_149 mw_1_1 mw_1_150) rfl rfl rfl (by decide +kernel) ⟨Nat.le_of_ble_eq_true rfl, Nat.le_of_ble_eq_true rfl⟩) ⟨fb_, pre_ hPc hKc hDc hN⟩ rfl rfl hl.1 rfl (lv_room (Nat.le_of_ble_eq_true rfl)) d_PS_nodeIsThere_12 ⟨Nat.le_of_ble_eq_true rfl, Nat.le_of_ble_eq_true rfl⟩) hS (fun q _ h => hFc q h) hFc (fun r_12 u t H locs ht hvm hp_12 hB hz1 hk1 hS => ?_)
    have hp_12 : r_12 = f_has zx_nodeBits vi := hp_12
    obtain ⟨hP1, -, hD1⟩ := hB
    rw [ht] at hP1
    obtain ⟨hP, hD⟩ := va_join (wr := [(ax, .inr (0, [.int zx_nodeBits, .int zx_lineBits, .ref ax_lessEnd, .ref ax_moreEnd, .ref ax_web, .ref ax_planeTest, .ref ax_palette, .ref ax_desk]))]) (w1 := []) hP hD [] [0] rfl rfl (by decide) (by decide) hk1 hFc hP1 hD1
    have hP : va_P (dC, dI) classes [(ax, .inr (0, [.int zx_nodeBits, .int zx_lineBits, .ref ax_lessEnd, .ref ax_moreEnd, .ref ax_web, .ref ax_planeTest, .ref ax_palette, .ref ax_desk]))] H := hP
    have hD : va_D A [(ax, .inr (0, [.int zx_nodeBits, .int zx_lineBits, .ref ax_lessEnd, .ref ax_moreEnd, .ref ax_web, .ref ax_planeTest, .ref ax_palette, .ref ax_desk]))] := hD
    refine lv_if_eq (tgt := 22) hx hb d_PS_nodeIsThere_15 rfl (fun hc_15 => ?_) (fun hc_15 => ?_)
    · skip
      refine lv_iconst (v := 0) hx hb d_PS_nodeIsThere_22 (by decide) ?_
      exact W.zret (v := 0) (ty := .boolean) hx hb hr rfl (fun t ht hW => ⟨⟨0, (), rfl, (by rw [f_nit, ← hp_1, if_neg hc_4, ← hp_12, if_pos hc_15]), by rw [ht]; exact hP, va_K.moved hW.alike hK, hD⟩, hS.F ht⟩) hS.2.2 d_PS_nodeIsThere_23
    · skip
      refine lv_iconst (v := 1) hx hb d_PS_nodeIsThere_18 (by decide) ?_
      refine lv_goto (tgt := 23) hx hb d_PS_nodeIsThere_19 rfl ?_
      exact W.zret (v := 1) (ty := .boolean) hx hb hr rfl (fun t ht hW => ⟨⟨1, (), rfl, (by rw [f_nit, ← hp_1, if_neg hc_4, ← hp_12, if_neg hc_15]), by rw [ht]; exact hP, va_K.moved hW.alike hK, hD⟩, hS.F ht⟩) hS.2.2 d_PS_nodeIsThere_23
set_option maxHeartbeats 4000000 in
set_option maxRecDepth 100000 in
theorem c_lineIsThere (l : Launch) (dC : Nat → ClassId) (dI : Nat → Nat → Nat) (sz : Nat) (ax ax_lessEnd ax_moreEnd ax_web ax_planeTest ax_palette ax_desk : Nat) (zx_nodeBits : Int32) (zx_lineBits : Int32) (vi : Int32) : Met l y_PS_lineIsThere w_PS_lineIsThere ({ frames := 1, cells := 0, slots := 0, locals := 21 }) (Pre_ dC dI sz [.ref ax, .int vi] [(ax, .inr (0, [.int zx_nodeBits, .int zx_lineBits, .ref ax_lessEnd, .ref ax_moreEnd, .ref ax_web, .ref ax_planeTest, .ref ax_palette, .ref ax_desk]))] []) (va_Qi (fun (r : Int32) (u : Unit) => r = f_lit zx_lineBits vi) (fun u t => End_ dC dI (va_A [(ax, .inr (0, [.int zx_nodeBits, .int zx_lineBits, .ref ax_lessEnd, .ref ax_moreEnd, .ref ax_web, .ref ax_planeTest, .ref ax_palette, .ref ax_desk]))] sz) [] [(ax, .inr (0, [.int zx_nodeBits, .int zx_lineBits, .ref ax_lessEnd, .ref ax_moreEnd, .ref ax_web, .ref ax_planeTest, .ref ax_palette, .ref ax_desk]))] t) (va_A [(ax, .inr (0, [.int zx_nodeBits, .int zx_lineBits, .ref ax_lessEnd, .ref ax_moreEnd, .ref ax_web, .ref ax_planeTest, .ref ax_palette, .ref ax_desk]))] sz)) 0 0 (va_A [(ax, .inr (0, [.int zx_nodeBits, .int zx_lineBits, .ref ax_lessEnd, .ref ax_moreEnd, .ref ax_web, .ref ax_planeTest, .ref ax_palette, .ref ax_desk]))] sz) := by
  refine Met.ofW (cc := b_PS_lineIsThere) (maxL := 2) (ret := (some .boolean)) (by decide) rfl ?_
  intro p e s m args below meth c s₁ B hml hv
  obtain ⟨hargs, hsz, hP, hK, hD0, hN⟩ := hv
  have hx := B.exec
  have hb := B.bytes
  have hr := B.returns
  have hts := atoms_spec (ws := w_PS_lineIsThere) B.pre
  have hown : s.vm.findClass R_PS = some m.cls := findClass_of_methodNamed B.named
  have hlocks := B.notSynchronized
  subst hsz
  have hD := hD0.self (sz := s.heap.size)
  generalize hAe : va_A [(ax, .inr (0, [.int zx_nodeBits, .int zx_lineBits, .ref ax_lessEnd, .ref ax_moreEnd, .ref ax_web, .ref ax_planeTest, .ref ax_palette, .ref ax_desk]))] s.heap.size = A at hD ⊢
  have hA : ∀ q : Nat, s.heap.size ≤ q → A q := fun q h => by rw [← hAe]; exact Or.inr h
  have hS : va_S A s.heap s.heap [] := va_S.rf
  have hl := lv_entry ([.ref ax, .int vi]) (n := 2) (Nat.le_of_ble_eq_true rfl)
  refine W.eq (congrArg (fun a => entryFrame m a 2) hargs) ?_
  rw [lg_entry_eq]
  generalize (lg_sl ([.ref ax, .int vi]) ++ List.replicate (2 - (lg_sl ([.ref ax, .int vi])).length) Slot.unset).toArray = ls at hl ⊢
  have hl : lv_has ls 2 [(0, .ref ax), (1, .int vi)] := hl
  generalize hH0 : ([] : List Loc) = locs at hS ⊢
  refine lv_iload_n hx hb d_PS_lineIsThere_0 rfl (lv_at hl 1 rfl) ?_
  refine lv_if_lt (tgt := 25) hx hb d_PS_lineIsThere_1 rfl (fun hc_1 => ?_) (fun hc_1 => ?_)
  · skip
    refine lv_iconst (v := 0) hx hb d_PS_lineIsThere_25 (by decide) ?_
    exact W.zret (v := 0) (ty := .boolean) hx hb hr rfl (fun t ht hW => ⟨⟨0, (), rfl, (by rw [f_lit, if_pos hc_1]), by rw [ht]; exact hP, va_K.moved hW.alike hK, hD⟩, hS.F ht⟩) hS.2.2 d_PS_lineIsThere_26
  · skip
    refine lv_iload_n hx hb d_PS_lineIsThere_4 rfl (lv_at hl 1 rfl) ?_
    refine lv_bipush (v := 24) hx hb d_PS_lineIsThere_5 (by decide) ?_
    refine lv_icmp_ge (tgt := 25) hx hb d_PS_lineIsThere_7 rfl (fun hc_7 => ?_) (fun hc_7 => ?_)
    · skip
      refine lv_iconst (v := 0) hx hb d_PS_lineIsThere_25 (by decide) ?_
      exact W.zret (v := 0) (ty := .boolean) hx hb hr rfl (fun t ht hW => ⟨⟨0, (), rfl, (by rw [f_lit, if_neg hc_1, if_pos hc_7]), by rw [ht]; exact hP, va_K.moved hW.alike hK, hD⟩, hS.F ht⟩) hS.2.2 d_PS_lineIsThere_26
    · skip
      refine lv_aload_n hx hb d_PS_lineIsThere_10 rfl (lv_at hl 0 rfl) ?_
      refine va_get (D := (dC, dI)) (ci := 0) (v := .int zx_lineBits) (C := R_PS) (T := F_PS) (N := 8) hx hb hts (fun w h => List.mem_cons_of_mem _ (in_PS w h)) hown hK hP 0 rfl rfl 1 (by decide) (hts _ (List.mem_cons_of_mem _ mw_1_97)) (fun _ h9 => h9) rfl d_PS_lineIsThere_11 ?_
      refine lv_iload_n hx hb d_PS_lineIsThere_14 rfl (lv_at hl 1 rfl) ?_
      have hPc := hP.sub (ws' := []) [] rfl
      have hDc := hD.sub (ws' := []) [] (by decide) rfl
      have hKc := hK.sub (tys' := []) [] rfl
      have hFc := va_free (wc := []) hD hS hA [] rfl
      refine va_calli (va_runS (As := [.int zx_lineBits, .int vi]) (rest := []) ⟨hx, hb, hml, hown, hts⟩ (c_has l dC dI s.heap.size zx_lineBits vi) (cwS 2 hts (gi3 mw_1_148 mw_1_149 mw_1_1 mw_1_150) rfl rfl rfl (by decide +kernel) ⟨Nat.le_of_ble_eq_true rfl, Nat.le_of_ble_eq_true rfl⟩) ⟨fb_, pre_ hPc hKc hDc hN⟩ rfl rfl hl.1 rfl (lv_room (Nat.le_of_ble_eq_true rfl)) d_PS_lineIsThere_15 ⟨Nat.le_of_ble_eq_true rfl, Nat.le_of_ble_eq_true rfl⟩) hS (fun q _ h => hFc q h) hFc (fun r_15 u t H locs ht hvm hp_15 hB hz1 hk1 hS => ?_)
      have hp_15 : r_15 = f_has zx_lineBits vi := hp_15
      obtain ⟨hP1, -, hD1⟩ := hB
      rw [ht] at hP1
      obtain ⟨hP, hD⟩ := va_join (wr := [(ax, .inr (0, [.int zx_nodeBits, .int zx_lineBits, .ref ax_lessEnd, .ref ax_moreEnd, .ref ax_web, .ref ax_planeTest, .ref ax_palette, .ref ax_desk]))]) (w1 := []) hP hD [] [0] rfl rfl (by decide) (by decide) hk1 hFc hP1 hD1
      have hP : va_P (dC, dI) classes [(ax, .inr (0, [.int zx_nodeBits, .int zx_lineBits, .ref ax_lessEnd, .ref ax_moreEnd, .ref ax_web, .ref ax_planeTest, .ref ax_palette, .ref ax_desk]))] H := hP
      have hD : va_D A [(ax, .inr (0, [.int zx_nodeBits, .int zx_lineBits, .ref ax_lessEnd, .ref ax_moreEnd, .ref ax_web, .ref ax_planeTest, .ref ax_palette, .ref ax_desk]))] := hD
      refine lv_if_eq (tgt := 25) hx hb d_PS_lineIsThere_18 rfl (fun hc_18 => ?_) (fun hc_18 => ?_)
      · skip
        refine lv_iconst (v := 0) hx hb d_PS_lineIsThere_25 (by decide) ?_
        exact W.zret (v := 0) (ty := .boolean) hx hb hr rfl (fun t ht hW => ⟨⟨0, (), rfl, (by rw [f_lit, if_neg hc_1, if_neg hc_7, ← hp_15, if_pos hc_18]), by rw [ht]; exact hP, va_K.moved hW.alike hK, hD⟩, hS.F ht⟩) hS.2.2 d_PS_lineIsThere_26
      · skip
        refine lv_iconst (v := 1) hx hb d_PS_lineIsThere_21 (by decide) ?_
        refine lv_goto (tgt := 26) hx hb d_PS_lineIsThere_22 rfl ?_
        exact W.zret (v := 1) (ty := .boolean) hx hb hr rfl (fun t ht hW => ⟨⟨1, (), rfl, (by rw [f_lit, if_neg hc_1, if_neg hc_7, ← hp_15, if_neg hc_18]), by rw [ht]; exact hP, va_K.moved hW.alike hK, hD⟩, hS.F ht⟩) hS.2.2 d_PS_lineIsThere_26
set_option maxHeartbeats 4000000 in
set_option maxRecDepth 100000 in
theorem c_bitCount (l : Launch) (dC : Nat → ClassId) (dI : Nat → Nat → Nat) (sz : Nat) (vx : Int32) : Met l y_Int_bitCount w_Int_bitCount ({ frames := 0, cells := 0, slots := 0, locals := 0 }) (Pre_ dC dI sz [.int vx] [] []) (va_Qi (fun (r : Int32) (u : Unit) => r = f_bc vx) (fun u t => End_ dC dI (va_A [] sz) [] [] t) (va_A [] sz)) 0 0 (va_A [] sz) := by
  refine Met.ofW (cc := b_Int_bitCount) (maxL := 1) (ret := (some .int)) (by decide) rfl ?_
  intro p e s m args below meth c s₁ B hml hv
  obtain ⟨hargs, hsz, hP, hK, hD0, hN⟩ := hv
  have hx := B.exec
  have hb := B.bytes
  have hr := B.returns
  have hts := atoms_spec (ws := w_Int_bitCount) B.pre
  have hown : s.vm.findClass R_Int = some m.cls := findClass_of_methodNamed B.named
  have hlocks := B.notSynchronized
  subst hsz
  have hD := hD0.self (sz := s.heap.size)
  generalize hAe : va_A [] s.heap.size = A at hD ⊢
  have hA : ∀ q : Nat, s.heap.size ≤ q → A q := fun q h => by rw [← hAe]; exact Or.inr h
  have hS : va_S A s.heap s.heap [] := va_S.rf
  have hl := lv_entry ([.int vx]) (n := 1) (Nat.le_of_ble_eq_true rfl)
  refine W.eq (congrArg (fun a => entryFrame m a 1) hargs) ?_
  rw [lg_entry_eq]
  generalize (lg_sl ([.int vx]) ++ List.replicate (1 - (lg_sl ([.int vx])).length) Slot.unset).toArray = ls at hl ⊢
  have hl : lv_has ls 1 [(0, .int vx)] := hl
  generalize hH0 : ([] : List Loc) = locs at hS ⊢
  refine lv_iload_n hx hb d_Int_bitCount_0 rfl (lv_at hl 0 rfl) ?_
  refine lv_iload_n hx hb d_Int_bitCount_1 rfl (lv_at hl 0 rfl) ?_
  refine lv_iconst (v := 1) hx hb d_Int_bitCount_2 (by decide) ?_
  refine lv_iushr (v := ((Int32.toUInt32 vx) >>> (Int32.toUInt32 1 &&& Int32.toUInt32 31)).toInt32) hx hb d_Int_bitCount_3 rfl ?_
  refine lv_ldcw hx hb hown (hts _ (List.mem_cons_of_mem _ mw_1_166)) d_Int_bitCount_4 ?_
  refine lv_iand hx hb d_Int_bitCount_7 ?_
  refine lv_isub hx hb d_Int_bitCount_8 ?_
  refine lv_topi (fun y_9 e_9 => ?_)
  refine lv_istore_n (lv' := [(0, .int y_9)]) hx hb d_Int_bitCount_9 rfl hl (by decide) rfl (fun ls hl => ?_)
  refine lv_iload_n hx hb d_Int_bitCount_10 rfl (lv_at hl 0 rfl) ?_
  refine lv_ldcw hx hb hown (hts _ (List.mem_cons_of_mem _ mw_1_167)) d_Int_bitCount_11 ?_
  refine lv_iand hx hb d_Int_bitCount_14 ?_
  refine lv_iload_n hx hb d_Int_bitCount_15 rfl (lv_at hl 0 rfl) ?_
  refine lv_iconst (v := 2) hx hb d_Int_bitCount_16 (by decide) ?_
  refine lv_iushr (v := ((Int32.toUInt32 y_9) >>> (Int32.toUInt32 2 &&& Int32.toUInt32 31)).toInt32) hx hb d_Int_bitCount_17 rfl ?_
  refine lv_ldcw hx hb hown (hts _ (List.mem_cons_of_mem _ mw_1_167)) d_Int_bitCount_18 ?_
  refine lv_iand hx hb d_Int_bitCount_21 ?_
  refine lv_iadd hx hb d_Int_bitCount_22 ?_
  refine lv_topi (fun y_23 e_23 => ?_)
  refine lv_istore_n (lv' := [(0, .int y_23)]) hx hb d_Int_bitCount_23 rfl hl (by decide) rfl (fun ls hl => ?_)
  refine lv_iload_n hx hb d_Int_bitCount_24 rfl (lv_at hl 0 rfl) ?_
  refine lv_iload_n hx hb d_Int_bitCount_25 rfl (lv_at hl 0 rfl) ?_
  refine lv_iconst (v := 4) hx hb d_Int_bitCount_26 (by decide) ?_
  refine lv_iushr (v := ((Int32.toUInt32 y_23) >>> (Int32.toUInt32 4 &&& Int32.toUInt32 31)).toInt32) hx hb d_Int_bitCount_27 rfl ?_
  refine lv_iadd hx hb d_Int_bitCount_28 ?_
  refine lv_ldcw hx hb hown (hts _ (List.mem_cons_of_mem _ mw_1_168)) d_Int_bitCount_29 ?_
  refine lv_iand hx hb d_Int_bitCount_32 ?_
  refine lv_topi (fun y_33 e_33 => ?_)
  refine lv_istore_n (lv' := [(0, .int y_33)]) hx hb d_Int_bitCount_33 rfl hl (by decide) rfl (fun ls hl => ?_)
  refine lv_iload_n hx hb d_Int_bitCount_34 rfl (lv_at hl 0 rfl) ?_
  refine lv_iload_n hx hb d_Int_bitCount_35 rfl (lv_at hl 0 rfl) ?_
  refine lv_bipush (v := 8) hx hb d_Int_bitCount_36 (by decide) ?_
  refine lv_iushr (v := ((Int32.toUInt32 y_33) >>> (Int32.toUInt32 8 &&& Int32.toUInt32 31)).toInt32) hx hb d_Int_bitCount_38 rfl ?_
  refine lv_iadd hx hb d_Int_bitCount_39 ?_
  refine lv_topi (fun y_40 e_40 => ?_)
  refine lv_istore_n (lv' := [(0, .int y_40)]) hx hb d_Int_bitCount_40 rfl hl (by decide) rfl (fun ls hl => ?_)
  refine lv_iload_n hx hb d_Int_bitCount_41 rfl (lv_at hl 0 rfl) ?_
  refine lv_iload_n hx hb d_Int_bitCount_42 rfl (lv_at hl 0 rfl) ?_
  refine lv_bipush (v := 16) hx hb d_Int_bitCount_43 (by decide) ?_
  refine lv_iushr (v := ((Int32.toUInt32 y_40) >>> (Int32.toUInt32 16 &&& Int32.toUInt32 31)).toInt32) hx hb d_Int_bitCount_45 rfl ?_
  refine lv_iadd hx hb d_Int_bitCount_46 ?_
  refine lv_topi (fun y_47 e_47 => ?_)
  refine lv_istore_n (lv' := [(0, .int y_47)]) hx hb d_Int_bitCount_47 rfl hl (by decide) rfl (fun ls hl => ?_)
  refine lv_iload_n hx hb d_Int_bitCount_48 rfl (lv_at hl 0 rfl) ?_
  refine lv_bipush (v := 63) hx hb d_Int_bitCount_49 (by decide) ?_
  refine lv_iand hx hb d_Int_bitCount_51 ?_
  exact W.iret (v := y_47 &&& 63) hx hb hr (fun t ht hW => ⟨⟨y_47 &&& 63, (), rfl, (by subst e_47 e_40 e_33 e_23 e_9; rfl), by rw [ht]; exact hP, va_K.moved hW.alike hK, hD⟩, hS.F ht⟩) hS.2.2 d_Int_bitCount_52
