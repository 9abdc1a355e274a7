set_option maxHeartbeats 4000000 in
set_option maxRecDepth 100000 in
theorem c_fill11 (l : Launch) (dC : Nat → ClassId) (dI : Nat → Nat → Nat) (sz : Nat) (ab : Nat) (kb : ClassId) (zb : Nat → Int32) (vv : Int32) : Met l y_Arr_fill w_Arr_fill ({ frames := 0, cells := 0, slots := 0, locals := 0 }) (Pre_ dC dI sz [.ref ab, .int vv] [(ab, .inl (kb, 11, .inl zb))] [(kb, .int)]) (va_Qv (fun (u : (Nat → Int32)) => ∀ j : Nat, j < 11 → u j = vv) (fun u t => End_ dC dI (va_A [(ab, .inl (kb, 11, .inl zb))] sz) [(kb, .int)] [(ab, .inl (kb, 11, .inl u))] t) (va_A [(ab, .inl (kb, 11, .inl zb))] sz)) 0 0 (va_A [(ab, .inl (kb, 11, .inl zb))] sz) := by
  refine Met.ofW (cc := b_Arr_fill) (maxL := 4) (ret := none) (by decide) rfl ?_
  intro p e s m args below meth c s₁ B hml hv
  obtain ⟨hargs, hsz, hP, hK, hD0, hN⟩ := hv
  have hx := B.exec
  have hb := B.bytes
  have hr := B.returns
  have hts := atoms_spec (ws := w_Arr_fill) B.pre
  have hown : s.vm.findClass R_Arr = some m.cls := findClass_of_methodNamed B.named
  have hlocks := B.notSynchronized
  subst hsz
  have hD := hD0.self (sz := s.heap.size)
  generalize hAe : va_A [(ab, .inl (kb, 11, .inl zb))] s.heap.size = A at hD ⊢
  have hA : ∀ q : Nat, s.heap.size ≤ q → A q := fun q h => by rw [← hAe]; exact Or.inr h
  have hS : va_S A s.heap s.heap [] := va_S.rf
  have hl := lv_entry ([.ref ab, .int vv]) (n := 4) (Nat.le_of_ble_eq_true rfl)
  refine W.eq (congrArg (fun a => entryFrame m a 4) hargs) ?_
  rw [lg_entry_eq]
  generalize (lg_sl ([.ref ab, .int vv]) ++ List.replicate (4 - (lg_sl ([.ref ab, .int vv])).length) Slot.unset).toArray = ls at hl ⊢
  have hl : lv_has ls 4 [(0, .ref ab), (1, .int vv)] := hl
  generalize hH0 : ([] : List Loc) = locs at hS ⊢
  refine lv_iconst (v := 0) hx hb d_Arr_fill_0 (by decide) ?_
  refine lv_istore_n (lv' := [(2, .int 0), (0, .ref ab), (1, .int vv)]) hx hb d_Arr_fill_1 rfl hl (by decide) rfl (fun ls hl => ?_)
  refine lv_aload_n hx hb d_Arr_fill_2 rfl (lv_at hl 1 rfl) ?_
  refine va_alen (D := (dC, dI)) (v := nI 11) hx hb hK hP 0 0 rfl rfl rfl d_Arr_fill_3 ?_
  refine lv_istore_n (lv' := [(3, .int (nI 11)), (2, .int 0), (0, .ref ab), (1, .int vv)]) hx hb d_Arr_fill_4 rfl hl (by decide) rfl (fun ls hl => ?_)
  have X_5 : ∀ (k_5 : Nat) (wb_5 : Nat → Int32) (H : Heap) (locs : List Loc) (ls : Array Slot), (∀ j : Nat, j < 11 → wb_5 j = vv) → va_P (dC, dI) classes [(ab, .inl (kb, 11, .inl wb_5))] H → va_D A [(ab, .inl (kb, 11, .inl wb_5))] → va_S A s.heap H locs → lv_has ls 4 [(0, .ref ab), (1, .int vv), (2, .int (nI k_5)), (3, .int (nI 11))] → W p l e (headSpec w_Arr_fill ({ frames := 0, cells := 0, slots := 0, locals := 0 })).room s m args below meth c H locs 0 0 (MQ below (va_Qv (fun (u : (Nat → Int32)) => ∀ j : Nat, j < 11 → u j = vv) (fun u t => End_ dC dI A [(kb, .int)] [(ab, .inl (kb, 11, .inl u))] t) A) args s 0 0 A) (F0 m 20 ls []) := by
    intro k_5 wb_5 H locs ls hI_5 hP hD hS hl
    exact W.vret hx hb hr (fun t ht hW => ⟨⟨(wb_5), rfl, hI_5, by rw [ht]; exact hP, va_K.moved hW.alike hK, hD⟩, hS.F ht⟩) hS.2.2 d_Arr_fill_20
  have L_5 : ∀ (n_5 k_5 : Nat) (wb_5 : Nat → Int32) (H : Heap) (locs : List Loc) (ls : Array Slot), k_5 + n_5 = 11 → (∀ j : Nat, j < k_5 → wb_5 j = vv) → va_P (dC, dI) classes [(ab, .inl (kb, 11, .inl wb_5))] H → va_D A [(ab, .inl (kb, 11, .inl wb_5))] → va_S A s.heap H locs → lv_has ls 4 [(0, .ref ab), (1, .int vv), (2, .int (nI k_5)), (3, .int (nI 11))] → W p l e (headSpec w_Arr_fill ({ frames := 0, cells := 0, slots := 0, locals := 0 })).room s m args below meth c H locs 0 0 (MQ below (va_Qv (fun (u : (Nat → Int32)) => ∀ j : Nat, j < 11 → u j = vv) (fun u t => End_ dC dI A [(kb, .int)] [(ab, .inl (kb, 11, .inl u))] t) A) args s 0 0 A) (F0 m 5 ls []) := by
    intro n_5
    induction n_5 with
    | zero =>
      intro k_5 wb_5 H locs ls hkn_5 hI_5 hP hD hS hl
      refine lv_iload_n hx hb d_Arr_fill_5 rfl (lv_at hl 2 rfl) ?_
      refine lv_iload_n hx hb d_Arr_fill_6 rfl (lv_at hl 3 rfl) ?_
      refine lv_icmp_ge (tgt := 20) hx hb d_Arr_fill_7 rfl (fun hc_7 => ?_) (fun hc_7 => absurd (z_exit rfl hkn_5) hc_7)
      have hl := lv_sub hl [0, 1, 2, 3] rfl
      exact X_5 _ _ _ _ _ (fun j h => hI_5 j (by omega)) hP hD hS hl
    | succ n_5 ih_5 =>
      intro k_5 wb_5 H locs ls hkn_5 hI_5 hP hD hS hl
      refine lv_iload_n hx hb d_Arr_fill_5 rfl (lv_at hl 2 rfl) ?_
      refine lv_iload_n hx hb d_Arr_fill_6 rfl (lv_at hl 3 rfl) ?_
      refine lv_icmp_ge (tgt := 20) hx hb d_Arr_fill_7 rfl (fun hc_7 => absurd hc_7 (z_stay rfl hkn_5 (by decide))) (fun hc_7 => ?_)
      refine lv_aload_n hx hb d_Arr_fill_10 rfl (lv_at hl 0 rfl) ?_
      refine lv_iload_n hx hb d_Arr_fill_11 rfl (lv_at hl 2 rfl) ?_
      refine lv_iload_n hx hb d_Arr_fill_12 rfl (lv_at hl 1 rfl) ?_
      refine va_iast (D := (dC, dI)) hx hb hK hP hD hS 0 0 rfl rfl (vp_in_nI (by omega) (by decide)) d_Arr_fill_13 (fun H locs hP hD hS => ?_)
      have hP : va_P (dC, dI) classes [(ab, .inl (kb, 11, .inl (upd wb_5 (Int32.toNatClampNeg (nI k_5)) vv)))] H := hP
      have hD : va_D A [(ab, .inl (kb, 11, .inl (upd wb_5 (Int32.toNatClampNeg (nI k_5)) vv)))] := hD
      refine lv_iinc (lv' := [(2, .int (nI (k_5 + 1))), (0, .ref ab), (1, .int vv), (3, .int (nI 11))]) (k := 2) hx hb d_Arr_fill_14 hl rfl (z_inc _) (by decide) rfl (fun ls hl => ?_)
      refine lv_goto (tgt := 5) hx hb d_Arr_fill_17 rfl ?_
      have hl := lv_sub hl [1, 2, 0, 3] rfl
      exact ih_5 _ _ _ _ _ (by omega) (z_upd (by omega) hI_5) hP hD hS hl
  have hl : lv_has ls 4 [(0, .ref ab), (1, .int vv), (2, .int (nI 0)), (3, .int (nI 11))] := by first | exact lv_sub hl [2, 3, 1, 0] rfl | (rw [nI_succ]; exact lv_sub hl [2, 3, 1, 0] rfl)
  exact L_5 11 0 _ _ _ _ rfl (fun j h => absurd h (Nat.not_lt_zero j)) hP hD hS hl
set_option maxHeartbeats 4000000 in
set_option maxRecDepth 100000 in
theorem c_clear (l : Launch) (dC : Nat → ClassId) (dI : Nat → Nat → Nat) (sz : Nat) (aw aw_near : Nat) (kw_near : ClassId) (zw_near : Nat → Int32) : Met l y_Web_clear w_Web_clear ({ frames := 1, cells := 0, slots := 0, locals := 23 }) (Pre_ dC dI sz [.ref aw] [(aw, .inr (1, [.ref aw_near])), (aw_near, .inl (kw_near, 11, .inl zw_near))] [(kw_near, .int)]) (va_Qv (fun (u : (Nat → Int32)) => ∀ j : Nat, j < 11 → u j = 0) (fun u t => End_ dC dI (va_A [(aw, .inr (1, [.ref aw_near])), (aw_near, .inl (kw_near, 11, .inl zw_near))] sz) [(kw_near, .int)] [(aw, .inr (1, [.ref aw_near])), (aw_near, .inl (kw_near, 11, .inl u))] t) (va_A [(aw, .inr (1, [.ref aw_near])), (aw_near, .inl (kw_near, 11, .inl zw_near))] sz)) 0 0 (va_A [(aw, .inr (1, [.ref aw_near])), (aw_near, .inl (kw_near, 11, .inl zw_near))] sz) := by
  refine Met.ofW (cc := b_Web_clear) (maxL := 1) (ret := none) (by decide) rfl ?_
  intro p e s m args below meth c s₁ B hml hv
  obtain ⟨hargs, hsz, hP, hK, hD0, hN⟩ := hv
  have hx := B.exec
  have hb := B.bytes
  have hr := B.returns
  have hts := atoms_spec (ws := w_Web_clear) B.pre
  have hown : s.vm.findClass R_Web = some m.cls := findClass_of_methodNamed B.named
  have hlocks := B.notSynchronized
  subst hsz
  have hD := hD0.self (sz := s.heap.size)
  generalize hAe : va_A [(aw, .inr (1, [.ref aw_near])), (aw_near, .inl (kw_near, 11, .inl zw_near))] s.heap.size = A at hD ⊢
  have hA : ∀ q : Nat, s.heap.size ≤ q → A q := fun q h => by rw [← hAe]; exact Or.inr h
  have hS : va_S A s.heap s.heap [] := va_S.rf
  have hl := lv_entry ([.ref aw]) (n := 1) (Nat.le_of_ble_eq_true rfl)
  refine W.eq (congrArg (fun a => entryFrame m a 1) hargs) ?_
  rw [lg_entry_eq]
  generalize (lg_sl ([.ref aw]) ++ List.replicate (1 - (lg_sl ([.ref aw])).length) Slot.unset).toArray = ls at hl ⊢
  have hl : lv_has ls 1 [(0, .ref aw)] := hl
  generalize hH0 : ([] : List Loc) = locs at hS ⊢
  refine lv_aload_n hx hb d_Web_clear_0 rfl (lv_at hl 0 rfl) ?_
  refine va_get (D := (dC, dI)) (ci := 1) (v := .ref aw_near) (C := R_Web) (T := F_Web) (N := 1) hx hb hts (fun w h => List.mem_cons_of_mem _ (in_Web w h)) hown hK hP 0 rfl rfl 0 (by decide) (hts _ (List.mem_cons_of_mem _ mw_1_31)) (fun _ h9 => h9) rfl d_Web_clear_1 ?_
  refine lv_iconst (v := 0) hx hb d_Web_clear_4 (by decide) ?_
  have hPc := hP.sub (ws' := [(aw_near, .inl (kw_near, 11, .inl zw_near))]) [1] rfl
  have hDc := hD.sub (ws' := [(aw_near, .inl (kw_near, 11, .inl zw_near))]) [1] (by decide) rfl
  have hKc := hK.sub (tys' := [(kw_near, .int)]) [0] rfl
  have hFc := va_free (wc := [(aw_near, .inl (kw_near, 11, .inl zw_near))]) hD hS hA [1] rfl
  refine va_callv (va_runS (As := [.ref aw_near, .int 0]) (rest := []) ⟨hx, hb, hml, hown, hts⟩ (c_fill11 l dC dI s.heap.size aw_near kw_near zw_near 0) (va_cwS 2 hts (gi3 mw_1_145 mw_1_146 mw_1_16 mw_1_147) rfl rfl rfl (by decide +kernel) ⟨Nat.le_of_ble_eq_true rfl, Nat.le_of_ble_eq_true rfl⟩) ⟨fb_, pre_ hPc hKc hDc hN⟩ rfl rfl hl.1 rfl (lv_room (Nat.le_of_ble_eq_true rfl)) d_Web_clear_5 ⟨Nat.le_of_ble_eq_true rfl, Nat.le_of_ble_eq_true rfl⟩) hS (fun q _ h => hFc q h) hFc (fun ww_near_5 t H locs ht hvm hp_5 hB hz1 hk1 hS => ?_)
  have hp_5 : ∀ j : Nat, j < 11 → ww_near_5 j = 0 := hp_5
  obtain ⟨hP1, -, hD1⟩ := hB
  rw [ht] at hP1
  obtain ⟨hP, hD⟩ := va_join (wr := [(aw, .inr (1, [.ref aw_near]))]) (w1 := [(aw_near, .inl (kw_near, 11, .inl ww_near_5))]) hP hD [1] [0] rfl rfl (by decide) (by decide) hk1 hFc hP1 hD1
  have hP : va_P (dC, dI) classes [(aw, .inr (1, [.ref aw_near])), (aw_near, .inl (kw_near, 11, .inl ww_near_5))] H := hP
  have hD : va_D A [(aw, .inr (1, [.ref aw_near])), (aw_near, .inl (kw_near, 11, .inl ww_near_5))] := hD
  exact W.vret hx hb hr (fun t ht hW => ⟨⟨(ww_near_5), rfl, hp_5, by rw [ht]; exact hP, va_K.moved hW.alike hK, hD⟩, hS.F ht⟩) hS.2.2 d_Web_clear_8
set_option maxHeartbeats 4000000 in
set_option maxRecDepth 100000 in
theorem c_degree (l : Launch) (dC : Nat → ClassId) (dI : Nat → Nat → Nat) (sz : Nat) (aw aw_near : Nat) (kw_near : ClassId) (zw_near : Nat → Int32) (va : Int32) (hin : vp_in va 11) : Met l y_Web_degree w_Web_degree ({ frames := 1, cells := 0, slots := 0, locals := 20 }) (Pre_ dC dI sz [.ref aw, .int va] [(aw, .inr (1, [.ref aw_near])), (aw_near, .inl (kw_near, 11, .inl zw_near))] [(kw_near, .int)]) (va_Qi (fun (r : Int32) (u : Unit) => r = f_bc (zw_near va.toNatClampNeg)) (fun u t => End_ dC dI (va_A [(aw, .inr (1, [.ref aw_near])), (aw_near, .inl (kw_near, 11, .inl zw_near))] sz) [(kw_near, .int)] [(aw, .inr (1, [.ref aw_near])), (aw_near, .inl (kw_near, 11, .inl zw_near))] t) (va_A [(aw, .inr (1, [.ref aw_near])), (aw_near, .inl (kw_near, 11, .inl zw_near))] sz)) 0 0 (va_A [(aw, .inr (1, [.ref aw_near])), (aw_near, .inl (kw_near, 11, .inl zw_near))] sz) := by
  refine Met.ofW (cc := b_Web_degree) (maxL := 2) (ret := (some .int)) (by decide) rfl ?_
  intro p e s m args below meth c s₁ B hml hv
  obtain ⟨hargs, hsz, hP, hK, hD0, hN⟩ := hv
  have hx := B.exec
  have hb := B.bytes
  have hr := B.returns
  have hts := atoms_spec (ws := w_Web_degree) B.pre
  have hown : s.vm.findClass R_Web = some m.cls := findClass_of_methodNamed B.named
  have hlocks := B.notSynchronized
  subst hsz
  have hD := hD0.self (sz := s.heap.size)
  generalize hAe : va_A [(aw, .inr (1, [.ref aw_near])), (aw_near, .inl (kw_near, 11, .inl zw_near))] s.heap.size = A at hD ⊢
  have hA : ∀ q : Nat, s.heap.size ≤ q → A q := fun q h => by rw [← hAe]; exact Or.inr h
  have hS : va_S A s.heap s.heap [] := va_S.rf
  have hl := lv_entry ([.ref aw, .int va]) (n := 2) (Nat.le_of_ble_eq_true rfl)
  refine W.eq (congrArg (fun a => entryFrame m a 2) hargs) ?_
  rw [lg_entry_eq]
  generalize (lg_sl ([.ref aw, .int va]) ++ List.replicate (2 - (lg_sl ([.ref aw, .int va])).length) Slot.unset).toArray = ls at hl ⊢
  have hl : lv_has ls 2 [(0, .ref aw), (1, .int va)] := hl
  generalize hH0 : ([] : List Loc) = locs at hS ⊢
  refine lv_aload_n hx hb d_Web_degree_0 rfl (lv_at hl 0 rfl) ?_
  refine va_get (D := (dC, dI)) (ci := 1) (v := .ref aw_near) (C := R_Web) (T := F_Web) (N := 1) hx hb hts (fun w h => List.mem_cons_of_mem _ (in_Web w h)) hown hK hP 0 rfl rfl 0 (by decide) (hts _ (List.mem_cons_of_mem _ mw_1_31)) (fun _ h9 => h9) rfl d_Web_degree_1 ?_
  refine lv_iload_n hx hb d_Web_degree_4 rfl (lv_at hl 1 rfl) ?_
  refine va_iald (D := (dC, dI)) hx hb hK hP 1 0 rfl rfl (hin) d_Web_degree_5 ?_
  have hPc := hP.sub (ws' := []) [] rfl
  have hDc := hD.sub (ws' := []) [] (by decide) rfl
  have hKc := hK.sub (tys' := []) [] rfl
  have hFc := va_free (wc := []) hD hS hA [] rfl
  refine va_calli (va_runS (As := [.int (zw_near (Int32.toNatClampNeg va))]) (rest := []) ⟨hx, hb, hml, hown, hts⟩ (c_bitCount l dC dI s.heap.size (zw_near (Int32.toNatClampNeg va))) (va_cwS 1 hts (gi3 mw_1_163 mw_1_164 mw_1_12 mw_1_165) rfl rfl rfl (by decide +kernel) ⟨Nat.le_of_ble_eq_true rfl, Nat.le_of_ble_eq_true rfl⟩) ⟨fb_, pre_ hPc hKc hDc hN⟩ rfl rfl hl.1 rfl (lv_room (Nat.le_of_ble_eq_true rfl)) d_Web_degree_6 ⟨Nat.le_of_ble_eq_true rfl, Nat.le_of_ble_eq_true rfl⟩) hS (fun q _ h => hFc q h) hFc (fun r_6 u t H locs ht hvm hp_6 hB hz1 hk1 hS => ?_)
  have hp_6 : r_6 = f_bc (zw_near (Int32.toNatClampNeg va)) := hp_6
  obtain ⟨hP1, -, hD1⟩ := hB
  rw [ht] at hP1
  obtain ⟨hP, hD⟩ := va_join (wr := [(aw, .inr (1, [.ref aw_near])), (aw_near, .inl (kw_near, 11, .inl zw_near))]) (w1 := []) hP hD [] [0, 1] rfl rfl (by decide) (by decide) hk1 hFc hP1 hD1
  have hP : va_P (dC, dI) classes [(aw, .inr (1, [.ref aw_near])), (aw_near, .inl (kw_near, 11, .inl zw_near))] H := hP
  have hD : va_D A [(aw, .inr (1, [.ref aw_near])), (aw_near, .inl (kw_near, 11, .inl zw_near))] := hD
  exact W.iret (v := r_6) hx hb hr (fun t ht hW => ⟨⟨r_6, (), rfl, hp_6, by rw [ht]; exact hP, va_K.moved hW.alike hK, hD⟩, hS.F ht⟩) hS.2.2 d_Web_degree_9
set_option maxHeartbeats 4000000 in
set_option maxRecDepth 100000 in
theorem c_neighbours (l : Launch) (dC : Nat → ClassId) (dI : Nat → Nat → Nat) (sz : Nat) (aw aw_near : Nat) (kw_near : ClassId) (zw_near : Nat → Int32) (va : Int32) (hin : vp_in va 11) : Met l y_Web_neighbours w_Web_neighbours ({ frames := 0, cells := 0, slots := 0, locals := 0 }) (Pre_ dC dI sz [.ref aw, .int va] [(aw, .inr (1, [.ref aw_near])), (aw_near, .inl (kw_near, 11, .inl zw_near))] [(kw_near, .int)]) (va_Qi (fun (r : Int32) (u : Unit) => r = zw_near va.toNatClampNeg) (fun u t => End_ dC dI (va_A [(aw, .inr (1, [.ref aw_near])), (aw_near, .inl (kw_near, 11, .inl zw_near))] sz) [(kw_near, .int)] [(aw, .inr (1, [.ref aw_near])), (aw_near, .inl (kw_near, 11, .inl zw_near))] t) (va_A [(aw, .inr (1, [.ref aw_near])), (aw_near, .inl (kw_near, 11, .inl zw_near))] sz)) 0 0 (va_A [(aw, .inr (1, [.ref aw_near])), (aw_near, .inl (kw_near, 11, .inl zw_near))] sz) := by
  refine Met.ofW (cc := b_Web_neighbours) (maxL := 2) (ret := (some .int)) (by decide) rfl ?_
  intro p e s m args below meth c s₁ B hml hv
  obtain ⟨hargs, hsz, hP, hK, hD0, hN⟩ := hv
  have hx := B.exec
  have hb := B.bytes
  have hr := B.returns
  have hts := atoms_spec (ws := w_Web_neighbours) B.pre
  have hown : s.vm.findClass R_Web = some m.cls := findClass_of_methodNamed B.named
  have hlocks := B.notSynchronized
  subst hsz
  have hD := hD0.self (sz := s.heap.size)
  generalize hAe : va_A [(aw, .inr (1, [.ref aw_near])), (aw_near, .inl (kw_near, 11, .inl zw_near))] s.heap.size = A at hD ⊢
  have hA : ∀ q : Nat, s.heap.size ≤ q → A q := fun q h => by rw [← hAe]; exact Or.inr h
  have hS : va_S A s.heap s.heap [] := va_S.rf
  have hl := lv_entry ([.ref aw, .int va]) (n := 2) (Nat.le_of_ble_eq_true rfl)
  refine W.eq (congrArg (fun a => entryFrame m a 2) hargs) ?_
  rw [lg_entry_eq]
  generalize (lg_sl ([.ref aw, .int va]) ++ List.replicate (2 - (lg_sl ([.ref aw, .int va])).length) Slot.unset).toArray = ls at hl ⊢
  have hl : lv_has ls 2 [(0, .ref aw), (1, .int va)] := hl
  generalize hH0 : ([] : List Loc) = locs at hS ⊢
  refine lv_aload_n hx hb d_Web_neighbours_0 rfl (lv_at hl 0 rfl) ?_
  refine va_get (D := (dC, dI)) (ci := 1) (v := .ref aw_near) (C := R_Web) (T := F_Web) (N := 1) hx hb hts (fun w h => List.mem_cons_of_mem _ (in_Web w h)) hown hK hP 0 rfl rfl 0 (by decide) (hts _ (List.mem_cons_of_mem _ mw_1_31)) (fun _ h9 => h9) rfl d_Web_neighbours_1 ?_
  refine lv_iload_n hx hb d_Web_neighbours_4 rfl (lv_at hl 1 rfl) ?_
  refine va_iald (D := (dC, dI)) hx hb hK hP 1 0 rfl rfl (hin) d_Web_neighbours_5 ?_
  exact W.iret (v := zw_near (Int32.toNatClampNeg va)) hx hb hr (fun t ht hW => ⟨⟨zw_near (Int32.toNatClampNeg va), (), rfl, rfl, by rw [ht]; exact hP, va_K.moved hW.alike hK, hD⟩, hS.F ht⟩) hS.2.2 d_Web_neighbours_6
set_option maxHeartbeats 4000000 in
set_option maxRecDepth 100000 in
theorem c_join (l : Launch) (dC : Nat → ClassId) (dI : Nat → Nat → Nat) (sz : Nat) (aw aw_near : Nat) (kw_near : ClassId) (zw_near : Nat → Int32) (va vb : Int32) (hia : vp_in va 11) (hib : vp_in vb 11) : Met l y_Web_join w_Web_join ({ frames := 0, cells := 0, slots := 0, locals := 0 }) (Pre_ dC dI sz [.ref aw, .int va, .int vb] [(aw, .inr (1, [.ref aw_near])), (aw_near, .inl (kw_near, 11, .inl zw_near))] [(kw_near, .int)]) (va_Qv (fun (u : (Nat → Int32)) => u = f_join zw_near va vb) (fun u t => End_ dC dI (va_A [(aw, .inr (1, [.ref aw_near])), (aw_near, .inl (kw_near, 11, .inl zw_near))] sz) [(kw_near, .int)] [(aw, .inr (1, [.ref aw_near])), (aw_near, .inl (kw_near, 11, .inl u))] t) (va_A [(aw, .inr (1, [.ref aw_near])), (aw_near, .inl (kw_near, 11, .inl zw_near))] sz)) 0 0 (va_A [(aw, .inr (1, [.ref aw_near])), (aw_near, .inl (kw_near, 11, .inl zw_near))] sz) := by
  refine Met.ofW (cc := b_Web_join) (maxL := 3) (ret := none) (by decide) rfl ?_
  intro p e s m args below meth c s₁ B hml hv
  obtain ⟨hargs, hsz, hP, hK, hD0, hN⟩ := hv
  have hx := B.exec
  have hb := B.bytes
  have hr := B.returns
  have hts := atoms_spec (ws := w_Web_join) B.pre
  have hown : s.vm.findClass R_Web = some m.cls := findClass_of_methodNamed B.named
  have hlocks := B.notSynchronized
  subst hsz
  have hD := hD0.self (sz := s.heap.size)
  generalize hAe : va_A [(aw, .inr (1, [.ref aw_near])), (aw_near, .inl (kw_near, 11, .inl zw_near))] s.heap.size = A at hD ⊢
  have hA : ∀ q : Nat, s.heap.size ≤ q → A q := fun q h => by rw [← hAe]; exact Or.inr h
  have hS : va_S A s.heap s.heap [] := va_S.rf
  have hl := lv_entry ([.ref aw, .int va, .int vb]) (n := 3) (Nat.le_of_ble_eq_true rfl)
  refine W.eq (congrArg (fun a => entryFrame m a 3) hargs) ?_
  rw [lg_entry_eq]
  generalize (lg_sl ([.ref aw, .int va, .int vb]) ++ List.replicate (3 - (lg_sl ([.ref aw, .int va, .int vb])).length) Slot.unset).toArray = ls at hl ⊢
  have hl : lv_has ls 3 [(0, .ref aw), (1, .int va), (2, .int vb)] := hl
  generalize hH0 : ([] : List Loc) = locs at hS ⊢
  refine lv_aload_n hx hb d_Web_join_0 rfl (lv_at hl 0 rfl) ?_
  refine va_get (D := (dC, dI)) (ci := 1) (v := .ref aw_near) (C := R_Web) (T := F_Web) (N := 1) hx hb hts (fun w h => List.mem_cons_of_mem _ (in_Web w h)) hown hK hP 0 rfl rfl 0 (by decide) (hts _ (List.mem_cons_of_mem _ mw_1_31)) (fun _ h9 => h9) rfl d_Web_join_1 ?_
  refine lv_iload_n hx hb d_Web_join_4 rfl (lv_at hl 1 rfl) ?_
  refine lv_dup2_11 hx hb d_Web_join_5 rfl rfl ?_
  refine va_iald (D := (dC, dI)) hx hb hK hP 1 0 rfl rfl (hia) d_Web_join_6 ?_
  refine lv_iconst (v := 1) hx hb d_Web_join_7 (by decide) ?_
  refine lv_iload_n hx hb d_Web_join_8 rfl (lv_at hl 2 rfl) ?_
  refine lv_ishl hx hb d_Web_join_9 ?_
  refine lv_ior hx hb d_Web_join_10 ?_
  refine va_iast (D := (dC, dI)) hx hb hK hP hD hS 1 0 rfl rfl (hia) d_Web_join_11 (fun H locs hP hD hS => ?_)
  have hP : va_P (dC, dI) classes [(aw, .inr (1, [.ref aw_near])), (aw_near, .inl (kw_near, 11, .inl (upd zw_near (Int32.toNatClampNeg va) ((zw_near (Int32.toNatClampNeg va)) ||| ((1 : Int32) <<< (vb &&& 31))))))] H := hP
  have hD : va_D A [(aw, .inr (1, [.ref aw_near])), (aw_near, .inl (kw_near, 11, .inl (upd zw_near (Int32.toNatClampNeg va) ((zw_near (Int32.toNatClampNeg va)) ||| ((1 : Int32) <<< (vb &&& 31))))))] := hD
  refine lv_aload_n hx hb d_Web_join_12 rfl (lv_at hl 0 rfl) ?_
  refine va_get (D := (dC, dI)) (ci := 1) (v := .ref aw_near) (C := R_Web) (T := F_Web) (N := 1) hx hb hts (fun w h => List.mem_cons_of_mem _ (in_Web w h)) hown hK hP 0 rfl rfl 0 (by decide) (hts _ (List.mem_cons_of_mem _ mw_1_31)) (fun _ h9 => h9) rfl d_Web_join_13 ?_
  refine lv_iload_n hx hb d_Web_join_16 rfl (lv_at hl 2 rfl) ?_
  refine lv_dup2_11 hx hb d_Web_join_17 rfl rfl ?_
  refine va_iald (D := (dC, dI)) hx hb hK hP 1 0 rfl rfl (hib) d_Web_join_18 ?_
  refine lv_iconst (v := 1) hx hb d_Web_join_19 (by decide) ?_
  refine lv_iload_n hx hb d_Web_join_20 rfl (lv_at hl 1 rfl) ?_
  refine lv_ishl hx hb d_Web_join_21 ?_
  refine lv_ior hx hb d_Web_join_22 ?_
  refine va_iast (D := (dC, dI)) hx hb hK hP hD hS 1 0 rfl rfl (hib) d_Web_join_23 (fun H locs hP hD hS => ?_)
  have hP : va_P (dC, dI) classes [(aw, .inr (1, [.ref aw_near])), (aw_near, .inl (kw_near, 11, .inl (upd (upd zw_near (Int32.toNatClampNeg va) ((zw_near (Int32.toNatClampNeg va)) ||| ((1 : Int32) <<< (vb &&& 31)))) (Int32.toNatClampNeg vb) (((upd zw_near (Int32.toNatClampNeg va) ((zw_near (Int32.toNatClampNeg va)) ||| ((1 : Int32) <<< (vb &&& 31)))) (Int32.toNatClampNeg vb)) ||| ((1 : Int32) <<< (va &&& 31))))))] H := hP
  have hD : va_D A [(aw, .inr (1, [.ref aw_near])), (aw_near, .inl (kw_near, 11, .inl (upd (upd zw_near (Int32.toNatClampNeg va) ((zw_near (Int32.toNatClampNeg va)) ||| ((1 : Int32) <<< (vb &&& 31)))) (Int32.toNatClampNeg vb) (((upd zw_near (Int32.toNatClampNeg va) ((zw_near (Int32.toNatClampNeg va)) ||| ((1 : Int32) <<< (vb &&& 31)))) (Int32.toNatClampNeg vb)) ||| ((1 : Int32) <<< (va &&& 31))))))] := hD
  exact W.vret hx hb hr (fun t ht hW => ⟨⟨(upd (upd zw_near (Int32.toNatClampNeg va) ((zw_near (Int32.toNatClampNeg va)) ||| ((1 : Int32) <<< (vb &&& 31)))) (Int32.toNatClampNeg vb) (((upd zw_near (Int32.toNatClampNeg va) ((zw_near (Int32.toNatClampNeg va)) ||| ((1 : Int32) <<< (vb &&& 31)))) (Int32.toNatClampNeg vb)) ||| ((1 : Int32) <<< (va &&& 31)))), rfl, rfl, by rw [ht]; exact hP, va_K.moved hW.alike hK, hD⟩, hS.F ht⟩) hS.2.2 d_Web_join_24
