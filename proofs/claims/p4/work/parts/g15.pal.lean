set_option maxHeartbeats 4000000 in
set_option maxRecDepth 100000 in
theorem c_shadeOfG (l : Launch) (dC : Nat → ClassId) (dI : Nat → Nat → Nat) (sz : Nat) (aq aq_shades : Nat) (kq_shades : ClassId) (zq_there : Int32) (zq_allowed : Int32) (zq_shades : Nat → Int32) (v1 : Int32) (R : Int32) (hR : F_shadeOfG zq_shades v1 = some R) : Met l y_Pal_shadeOf w_Pal_shadeOf ({ frames := 0, cells := 0, slots := 0, locals := 0 }) (Pre_ dC dI sz [.ref aq, .int v1] [(aq, .inr (3, [.int zq_there, .int zq_allowed, .ref aq_shades])), (aq_shades, .inl (kq_shades, 10, .inl zq_shades))] [(kq_shades, .int)]) (va_Qi (fun (r : Int32) (u : Unit) => r = R) (fun u t => End_ dC dI (va_A [(aq, .inr (3, [.int zq_there, .int zq_allowed, .ref aq_shades])), (aq_shades, .inl (kq_shades, 10, .inl zq_shades))] sz) [(kq_shades, .int)] [(aq, .inr (3, [.int zq_there, .int zq_allowed, .ref aq_shades])), (aq_shades, .inl (kq_shades, 10, .inl zq_shades))] t) (va_A [(aq, .inr (3, [.int zq_there, .int zq_allowed, .ref aq_shades])), (aq_shades, .inl (kq_shades, 10, .inl zq_shades))] sz)) 0 0 (va_A [(aq, .inr (3, [.int zq_there, .int zq_allowed, .ref aq_shades])), (aq_shades, .inl (kq_shades, 10, .inl zq_shades))] sz) := by
  refine Met.ofW (cc := b_Pal_shadeOf) (maxL := 2) (ret := (some .int)) (by decide) rfl ?_
  intro p e s m args below meth c s₁ B hml hv
  obtain ⟨hargs, hsz, hP, hK, hD0, hN⟩ := hv
  have hx := B.exec
  have hb := B.bytes
  have hr := B.returns
  have hts := atoms_spec (ws := w_Pal_shadeOf) B.pre
  have hown : s.vm.findClass R_Pal = some m.cls := findClass_of_methodNamed B.named
  have hlocks := B.notSynchronized
  subst hsz
  have hD := hD0.self (sz := s.heap.size)
  generalize hAe : va_A [(aq, .inr (3, [.int zq_there, .int zq_allowed, .ref aq_shades])), (aq_shades, .inl (kq_shades, 10, .inl zq_shades))] s.heap.size = A at hD ⊢
  have hA : ∀ q : Nat, s.heap.size ≤ q → A q := fun q h => by rw [← hAe]; exact Or.inr h
  have hS : va_S A s.heap s.heap [] := va_S.rf
  have hl := lv_entry ([.ref aq, .int v1]) (n := 2) (Nat.le_of_ble_eq_true rfl)
  refine W.eq (congrArg (fun a => entryFrame m a 2) hargs) ?_
  rw [lg_entry_eq]
  generalize (lg_sl ([.ref aq, .int v1]) ++ List.replicate (2 - (lg_sl ([.ref aq, .int v1])).length) Slot.unset).toArray = ls at hl ⊢
  have hl : lv_has ls 2 [(0, .ref aq), (1, .int v1)] := hl
  generalize hH0 : ([] : List Loc) = locs at hS ⊢
  have hI := hR.symm
  rw [F_shadeOfG] at hI
  refine lv_aload_n hx hb d_Pal_shadeOf_0 rfl (lv_at hl 0 rfl) ?_
  refine va_get (D := (dC, dI)) (ci := 3) (v := .ref aq_shades) (C := R_Pal) (T := F_Pal) (N := 3) hx hb hts (fun w h => List.mem_cons_of_mem _ (in_Pal w h)) hown hK hP 0 rfl rfl 2 (by decide) (hts _ (List.mem_cons_of_mem _ mw_1_75)) (fun _ h9 => h9) rfl d_Pal_shadeOf_1 ?_
  refine lv_iload_n hx hb d_Pal_shadeOf_4 rfl (lv_at hl 1 rfl) ?_
  have hi_5 := ob_in hI
  have hI := ob_th hI
  refine va_iald (D := (dC, dI)) hx hb hK hP 1 0 rfl rfl hi_5 d_Pal_shadeOf_5 ?_
  exact W.iret (v := zq_shades (Int32.toNatClampNeg v1)) hx hb hr (fun t ht hW => ⟨⟨zq_shades (Int32.toNatClampNeg v1), (), rfl, (Option.some.inj hI).symm, by rw [ht]; exact hP, va_K.moved hW.alike hK, hD⟩, hS.F ht⟩) hS.2.2 d_Pal_shadeOf_6
set_option maxHeartbeats 4000000 in
set_option maxRecDepth 100000 in
theorem c_hasLaterG (l : Launch) (dC : Nat → ClassId) (dI : Nat → Nat → Nat) (sz : Nat) (aw aw_near : Nat) (kw_near : ClassId) (zw_near : Nat → Int32) (v1 : Int32) (R : Int32) (hR : F_hasLaterG zw_near v1 = some R) : Met l y_Pal_hasLaterNeighbour w_Pal_hasLaterNeighbour ({ frames := 1, cells := 0, slots := 0, locals := 21 }) (Pre_ dC dI sz [.ref aw, .int v1] [(aw, .inr (1, [.ref aw_near])), (aw_near, .inl (kw_near, 11, .inl zw_near))] [(kw_near, .int)]) (va_Qi (fun (r : Int32) (u : Unit) => (r = R) ∧ z01 r) (fun u t => End_ dC dI (va_A [(aw, .inr (1, [.ref aw_near])), (aw_near, .inl (kw_near, 11, .inl zw_near))] sz) [(kw_near, .int)] [(aw, .inr (1, [.ref aw_near])), (aw_near, .inl (kw_near, 11, .inl zw_near))] t) (va_A [(aw, .inr (1, [.ref aw_near])), (aw_near, .inl (kw_near, 11, .inl zw_near))] sz)) 0 0 (va_A [(aw, .inr (1, [.ref aw_near])), (aw_near, .inl (kw_near, 11, .inl zw_near))] sz) := by
  refine Met.ofW (cc := b_Pal_hasLaterNeighbour) (maxL := 2) (ret := (some .boolean)) (by decide) rfl ?_
  intro p e s m args below meth c s₁ B hml hv
  obtain ⟨hargs, hsz, hP, hK, hD0, hN⟩ := hv
  have hx := B.exec
  have hb := B.bytes
  have hr := B.returns
  have hts := atoms_spec (ws := w_Pal_hasLaterNeighbour) B.pre
  have hown : s.vm.findClass R_Pal = some m.cls := findClass_of_methodNamed B.named
  have hlocks := B.notSynchronized
  subst hsz
  have hD := hD0.self (sz := s.heap.size)
  generalize hAe : va_A [(aw, .inr (1, [.ref aw_near])), (aw_near, .inl (kw_near, 11, .inl zw_near))] s.heap.size = A at hD ⊢
  have hA : ∀ q : Nat, s.heap.size ≤ q → A q := fun q h => by rw [← hAe]; exact Or.inr h
  have hS : va_S A s.heap s.heap [] := va_S.rf
  have hl := lv_entry ([.ref aw, .int v1]) (n := 2) (Nat.le_of_ble_eq_true rfl)
  refine W.eq (congrArg (fun a => entryFrame m a 2) hargs) ?_
  rw [lg_entry_eq]
  generalize (lg_sl ([.ref aw, .int v1]) ++ List.replicate (2 - (lg_sl ([.ref aw, .int v1])).length) Slot.unset).toArray = ls at hl ⊢
  have hl : lv_has ls 2 [(0, .ref aw), (1, .int v1)] := hl
  generalize hH0 : ([] : List Loc) = locs at hS ⊢
  have hI := hR.symm
  rw [F_hasLaterG] at hI
  refine lv_aload_n hx hb d_Pal_hasLaterNeighbour_0 rfl (lv_at hl 0 rfl) ?_
  refine lv_iload_n hx hb d_Pal_hasLaterNeighbour_1 rfl (lv_at hl 1 rfl) ?_
  obtain ⟨p_2, hg_2, hI⟩ := ob_bd hI
  have hPc := hP.sub (ws' := [(aw, .inr (1, [.ref aw_near])), (aw_near, .inl (kw_near, 11, .inl zw_near))]) [0, 1] rfl
  have hDc := hD.sub (ws' := [(aw, .inr (1, [.ref aw_near])), (aw_near, .inl (kw_near, 11, .inl zw_near))]) [0, 1] (by decide) rfl
  have hKc := hK.sub (tys' := [(kw_near, .int)]) [0] rfl
  have hFc := va_free (wc := [(aw, .inr (1, [.ref aw_near])), (aw_near, .inl (kw_near, 11, .inl zw_near))]) hD hS hA [0, 1] rfl
  refine va_calli (va_runV (As := [.int v1]) (rest := []) ⟨hx, hb, hml, hown, hts⟩ (c_neighboursG l dC dI s.heap.size aw aw_near kw_near zw_near v1 p_2 hg_2) (cwV 1 hts (gi4 mw_2_43 mw_1_179 mw_1_180 mw_1_2 mw_1_181) rfl rfl rfl (by decide +kernel) ⟨Nat.le_of_ble_eq_true rfl, Nat.le_of_ble_eq_true rfl⟩) ⟨fb_, va_recv (q0 := 0) (ci := 1) hK hP rfl rfl, pre_ hPc hKc hDc hN⟩ rfl rfl hl.1 rfl (lv_room (Nat.le_of_ble_eq_true rfl)) d_Pal_hasLaterNeighbour_2 ⟨Nat.le_of_ble_eq_true rfl, Nat.le_of_ble_eq_true rfl⟩) hS (fun q _ h => hFc q h) hFc (fun r_2 u t H locs ht hvm hp_2 hB hz1 hk1 hS => ?_)
  obtain ⟨hP1, -, hD1⟩ := hB
  rw [ht] at hP1
  obtain ⟨hP, hD⟩ := va_join (wr := []) (w1 := [(aw, .inr (1, [.ref aw_near])), (aw_near, .inl (kw_near, 11, .inl zw_near))]) hP hD [0, 1] [] rfl rfl (by decide) (by decide) hk1 hFc hP1 hD1
  have hp_2 : (r_2) = p_2 := hp_2
  subst hp_2
  have hP : va_P (dC, dI) classes [(aw, .inr (1, [.ref aw_near])), (aw_near, .inl (kw_near, 11, .inl zw_near))] H := hP
  have hD : va_D A [(aw, .inr (1, [.ref aw_near])), (aw_near, .inl (kw_near, 11, .inl zw_near))] := hD
  refine lv_iload_n hx hb d_Pal_hasLaterNeighbour_5 rfl (lv_at hl 1 rfl) ?_
  refine lv_ishr hx hb d_Pal_hasLaterNeighbour_6 ?_
  refine lv_if_eq (tgt := 14) hx hb d_Pal_hasLaterNeighbour_7 rfl (fun hc_7 => ?_) (fun hc_7 => ?_)
  · skip
    have hI := hI.trans (if_pos hc_7)
    refine lv_iconst (v := 0) hx hb d_Pal_hasLaterNeighbour_14 (by decide) ?_
    exact W.zret (v := 0) (ty := .boolean) hx hb hr (nr01 (Or.inl rfl)) (fun t ht hW => ⟨⟨0, (), rfl, ⟨(Option.some.inj hI).symm, (Or.inl rfl)⟩, by rw [ht]; exact hP, va_K.moved hW.alike hK, hD⟩, hS.F ht⟩) hS.2.2 d_Pal_hasLaterNeighbour_15
  · skip
    have hI := hI.trans (if_neg hc_7)
    refine lv_iconst (v := 1) hx hb d_Pal_hasLaterNeighbour_10 (by decide) ?_
    refine lv_goto (tgt := 15) hx hb d_Pal_hasLaterNeighbour_11 rfl ?_
    exact W.zret (v := 1) (ty := .boolean) hx hb hr (nr01 (Or.inr rfl)) (fun t ht hW => ⟨⟨1, (), rfl, ⟨(Option.some.inj hI).symm, (Or.inr rfl)⟩, by rw [ht]; exact hP, va_K.moved hW.alike hK, hD⟩, hS.F ht⟩) hS.2.2 d_Pal_hasLaterNeighbour_15
set_option maxHeartbeats 4000000 in
set_option maxRecDepth 100000 in
theorem c_isFreeG (l : Launch) (dC : Nat → ClassId) (dI : Nat → Nat → Nat) (sz : Nat) (aq aw aq_shades aw_near : Nat) (kq_shades kw_near : ClassId) (zq_there : Int32) (zq_allowed : Int32) (zq_shades : Nat → Int32) (zw_near : Nat → Int32) (v2 v3 : Int32) (R : Int32) (hR : F_isFreeG zq_shades zw_near v2 v3 = some R) : Met l y_Pal_isFree w_Pal_isFree ({ frames := 1, cells := 0, slots := 0, locals := 21 }) (Pre_ dC dI sz [.ref aq, .ref aw, .int v2, .int v3] [(aq, .inr (3, [.int zq_there, .int zq_allowed, .ref aq_shades])), (aq_shades, .inl (kq_shades, 10, .inl zq_shades)), (aw, .inr (1, [.ref aw_near])), (aw_near, .inl (kw_near, 11, .inl zw_near))] [(kq_shades, .int), (kw_near, .int)]) (va_Qi (fun (r : Int32) (u : Unit) => (r = R) ∧ z01 r) (fun u t => End_ dC dI (va_A [(aq, .inr (3, [.int zq_there, .int zq_allowed, .ref aq_shades])), (aq_shades, .inl (kq_shades, 10, .inl zq_shades)), (aw, .inr (1, [.ref aw_near])), (aw_near, .inl (kw_near, 11, .inl zw_near))] sz) [(kq_shades, .int), (kw_near, .int)] [(aq, .inr (3, [.int zq_there, .int zq_allowed, .ref aq_shades])), (aq_shades, .inl (kq_shades, 10, .inl zq_shades)), (aw, .inr (1, [.ref aw_near])), (aw_near, .inl (kw_near, 11, .inl zw_near))] t) (va_A [(aq, .inr (3, [.int zq_there, .int zq_allowed, .ref aq_shades])), (aq_shades, .inl (kq_shades, 10, .inl zq_shades)), (aw, .inr (1, [.ref aw_near])), (aw_near, .inl (kw_near, 11, .inl zw_near))] sz)) 0 0 (va_A [(aq, .inr (3, [.int zq_there, .int zq_allowed, .ref aq_shades])), (aq_shades, .inl (kq_shades, 10, .inl zq_shades)), (aw, .inr (1, [.ref aw_near])), (aw_near, .inl (kw_near, 11, .inl zw_near))] sz) := by
  refine Met.ofW (cc := b_Pal_isFree) (maxL := 5) (ret := (some .boolean)) (by decide) rfl ?_
  intro p e s m args below meth c s₁ B hml hv
  obtain ⟨hargs, hsz, hP, hK, hD0, hN⟩ := hv
  have hx := B.exec
  have hb := B.bytes
  have hr := B.returns
  have hts := atoms_spec (ws := w_Pal_isFree) B.pre
  have hown : s.vm.findClass R_Pal = some m.cls := findClass_of_methodNamed B.named
  have hlocks := B.notSynchronized
  subst hsz
  have hD := hD0.self (sz := s.heap.size)
  generalize hAe : va_A [(aq, .inr (3, [.int zq_there, .int zq_allowed, .ref aq_shades])), (aq_shades, .inl (kq_shades, 10, .inl zq_shades)), (aw, .inr (1, [.ref aw_near])), (aw_near, .inl (kw_near, 11, .inl zw_near))] s.heap.size = A at hD ⊢
  have hA : ∀ q : Nat, s.heap.size ≤ q → A q := fun q h => by rw [← hAe]; exact Or.inr h
  have hS : va_S A s.heap s.heap [] := va_S.rf
  have hl := lv_entry ([.ref aq, .ref aw, .int v2, .int v3]) (n := 5) (Nat.le_of_ble_eq_true rfl)
  refine W.eq (congrArg (fun a => entryFrame m a 5) hargs) ?_
  rw [lg_entry_eq]
  generalize (lg_sl ([.ref aq, .ref aw, .int v2, .int v3]) ++ List.replicate (5 - (lg_sl ([.ref aq, .ref aw, .int v2, .int v3])).length) Slot.unset).toArray = ls at hl ⊢
  have hl : lv_has ls 5 [(0, .ref aq), (1, .ref aw), (2, .int v2), (3, .int v3)] := hl
  generalize hH0 : ([] : List Loc) = locs at hS ⊢
  have hI := hR.symm
  rw [F_isFreeG] at hI
  refine lv_iconst (v := 0) hx hb d_Pal_isFree_0 (by decide) ?_
  refine lv_istore (lv' := [(4, .int 0), (0, .ref aq), (1, .ref aw), (2, .int v2), (3, .int v3)]) hx hb d_Pal_isFree_1 hl (by decide) rfl (fun ls hl => ?_)
  obtain ⟨K_3, hK_3⟩ : ∃ K : Int32 → Option (Int32), K = (fun v4_3 => some ((1 : Int32))) := ⟨_, rfl⟩
  have X_3 : ∀ (k_3 : Nat) (v4_3 : Int32) (H : Heap) (locs : List Loc) (ls : Array Slot), some R = K_3 v4_3 → va_P (dC, dI) classes [(aq, .inr (3, [.int zq_there, .int zq_allowed, .ref aq_shades])), (aq_shades, .inl (kq_shades, 10, .inl zq_shades)), (aw, .inr (1, [.ref aw_near])), (aw_near, .inl (kw_near, 11, .inl zw_near))] H → va_D A [(aq, .inr (3, [.int zq_there, .int zq_allowed, .ref aq_shades])), (aq_shades, .inl (kq_shades, 10, .inl zq_shades)), (aw, .inr (1, [.ref aw_near])), (aw_near, .inl (kw_near, 11, .inl zw_near))] → va_S A s.heap H locs → lv_has ls 5 [(0, .ref aq), (1, .ref aw), (2, .int v2), (3, .int v3), (4, .int v4_3)] → W p l e (headSpec w_Pal_isFree ({ frames := 1, cells := 0, slots := 0, locals := 21 })).room s m args below meth c H locs 0 0 (MQ below (va_Qi (fun (r : Int32) (u : Unit) => (r = R) ∧ z01 r) (fun u t => End_ dC dI A [(kq_shades, .int), (kw_near, .int)] [(aq, .inr (3, [.int zq_there, .int zq_allowed, .ref aq_shades])), (aq_shades, .inl (kq_shades, 10, .inl zq_shades)), (aw, .inr (1, [.ref aw_near])), (aw_near, .inl (kw_near, 11, .inl zw_near))] t) A) args s 0 0 A) (F0 m 41 ls []) := by
    intro k_3 v4_3 H locs ls hI hP hD hS hl
    rw [hK_3] at hI
    refine lv_iconst (v := 1) hx hb d_Pal_isFree_41 (by decide) ?_
    exact W.zret (v := 1) (ty := .boolean) hx hb hr (nr01 (Or.inr rfl)) (fun t ht hW => ⟨⟨1, (), rfl, ⟨(Option.some.inj hI).symm, (Or.inr rfl)⟩, by rw [ht]; exact hP, va_K.moved hW.alike hK, hD⟩, hS.F ht⟩) hS.2.2 d_Pal_isFree_42
  have L_3 : ∀ (n_3 k_3 : Nat) (v4_3 : Int32) (H : Heap) (locs : List Loc) (ls : Array Slot), some R = F_isFreeG_L3 K_3 zq_shades zw_near v2 v3 n_3 v4_3 → va_P (dC, dI) classes [(aq, .inr (3, [.int zq_there, .int zq_allowed, .ref aq_shades])), (aq_shades, .inl (kq_shades, 10, .inl zq_shades)), (aw, .inr (1, [.ref aw_near])), (aw_near, .inl (kw_near, 11, .inl zw_near))] H → va_D A [(aq, .inr (3, [.int zq_there, .int zq_allowed, .ref aq_shades])), (aq_shades, .inl (kq_shades, 10, .inl zq_shades)), (aw, .inr (1, [.ref aw_near])), (aw_near, .inl (kw_near, 11, .inl zw_near))] → va_S A s.heap H locs → lv_has ls 5 [(0, .ref aq), (1, .ref aw), (2, .int v2), (3, .int v3), (4, .int v4_3)] → W p l e (headSpec w_Pal_isFree ({ frames := 1, cells := 0, slots := 0, locals := 21 })).room s m args below meth c H locs 0 0 (MQ below (va_Qi (fun (r : Int32) (u : Unit) => (r = R) ∧ z01 r) (fun u t => End_ dC dI A [(kq_shades, .int), (kw_near, .int)] [(aq, .inr (3, [.int zq_there, .int zq_allowed, .ref aq_shades])), (aq_shades, .inl (kq_shades, 10, .inl zq_shades)), (aw, .inr (1, [.ref aw_near])), (aw_near, .inl (kw_near, 11, .inl zw_near))] t) A) args s 0 0 A) (F0 m 3 ls []) := by
    intro n_3
    induction n_3 with
    | zero =>
      intro k_3 v4_3 H locs ls hI hP hD hS hl
      rw [F_isFreeG_L3] at hI
      exact absurd hI (ob_no _)
    | succ n_3 ih_3 =>
      intro k_3 v4_3 H locs ls hI hP hD hS hl
      rw [F_isFreeG_L3] at hI
      refine lv_iload hx hb d_Pal_isFree_3 (lv_at hl 4 rfl) ?_
      refine lv_iload_n hx hb d_Pal_isFree_5 rfl (lv_at hl 3 rfl) ?_
      refine lv_icmp_ge (tgt := 41) hx hb d_Pal_isFree_6 rfl (fun hc_6 => ?_) (fun hc_6 => ?_)
      · skip
        have hI := hI.trans (if_pos hc_6)
        have hl := lv_sub hl [0, 1, 2, 3, 4] rfl
        exact X_3 0 _ _ _ _ hI hP hD hS hl
      · skip
        have hI := hI.trans (if_neg hc_6)
        refine lv_aload_n hx hb d_Pal_isFree_9 rfl (lv_at hl 1 rfl) ?_
        refine lv_iload_n hx hb d_Pal_isFree_10 rfl (lv_at hl 3 rfl) ?_
        obtain ⟨p_11, hg_11, hI⟩ := ob_bd hI
        have hPc := hP.sub (ws' := [(aw, .inr (1, [.ref aw_near])), (aw_near, .inl (kw_near, 11, .inl zw_near))]) [2, 3] rfl
        have hDc := hD.sub (ws' := [(aw, .inr (1, [.ref aw_near])), (aw_near, .inl (kw_near, 11, .inl zw_near))]) [2, 3] (by decide) rfl
        have hKc := hK.sub (tys' := [(kw_near, .int)]) [1] rfl
        have hFc := va_free (wc := [(aw, .inr (1, [.ref aw_near])), (aw_near, .inl (kw_near, 11, .inl zw_near))]) hD hS hA [2, 3] rfl
        refine va_calli (va_runV (As := [.int v3]) (rest := []) ⟨hx, hb, hml, hown, hts⟩ (c_neighboursG l dC dI H.size aw aw_near kw_near zw_near v3 p_11 hg_11) (cwV 1 hts (gi4 mw_2_43 mw_1_179 mw_1_180 mw_1_2 mw_1_181) rfl rfl rfl (by decide +kernel) ⟨Nat.le_of_ble_eq_true rfl, Nat.le_of_ble_eq_true rfl⟩) ⟨fb_, va_recv (q0 := 2) (ci := 1) hK hP rfl rfl, pre_ hPc hKc hDc hN⟩ rfl rfl hl.1 rfl (lv_room (Nat.le_of_ble_eq_true rfl)) d_Pal_isFree_11 ⟨Nat.le_of_ble_eq_true rfl, Nat.le_of_ble_eq_true rfl⟩) hS (fun q _ h => hFc q h) hFc (fun r_11 u t H locs ht hvm hp_11 hB hz1 hk1 hS => ?_)
        obtain ⟨hP1, -, hD1⟩ := hB
        rw [ht] at hP1
        obtain ⟨hP, hD⟩ := va_join (wr := [(aq, .inr (3, [.int zq_there, .int zq_allowed, .ref aq_shades])), (aq_shades, .inl (kq_shades, 10, .inl zq_shades))]) (w1 := [(aw, .inr (1, [.ref aw_near])), (aw_near, .inl (kw_near, 11, .inl zw_near))]) hP hD [2, 3] [0, 1] rfl rfl (by decide) (by decide) hk1 hFc hP1 hD1
        have hp_11 : (r_11) = p_11 := hp_11
        subst hp_11
        have hP : va_P (dC, dI) classes [(aq, .inr (3, [.int zq_there, .int zq_allowed, .ref aq_shades])), (aq_shades, .inl (kq_shades, 10, .inl zq_shades)), (aw, .inr (1, [.ref aw_near])), (aw_near, .inl (kw_near, 11, .inl zw_near))] H := hP
        have hD : va_D A [(aq, .inr (3, [.int zq_there, .int zq_allowed, .ref aq_shades])), (aq_shades, .inl (kq_shades, 10, .inl zq_shades)), (aw, .inr (1, [.ref aw_near])), (aw_near, .inl (kw_near, 11, .inl zw_near))] := hD
        refine lv_iload hx hb d_Pal_isFree_14 (lv_at hl 4 rfl) ?_
        have hPc := hP.sub (ws' := []) [] rfl
        have hDc := hD.sub (ws' := []) [] (by decide) rfl
        have hKc := hK.sub (tys' := []) [] rfl
        have hFc := va_free (wc := []) hD hS hA [] rfl
        refine va_calli (va_runSN (As := [.int r_11, .int v4_3]) (rest := []) ⟨hx, hb, hml, hown, hts⟩ (c_has l dC dI H.size r_11 v4_3) (⟨va_cnB 2 hts (gi0 mw_1_150) rfl rfl rfl (hN (R_Pal, 26, y_PS_has, R_PS) (by decide +kernel)) (hts _ (List.mem_cons_of_mem _ mw_1_1)) (by decide +kernel) ⟨Nat.le_of_ble_eq_true rfl, Nat.le_of_ble_eq_true rfl⟩, hts _ (List.mem_cons_of_mem _ mw_1_149), trivial⟩) ⟨fb_, pre_ hPc hKc hDc hN⟩ rfl rfl hl.1 rfl (lv_room (Nat.le_of_ble_eq_true rfl)) d_Pal_isFree_16 ⟨Nat.le_of_ble_eq_true rfl, Nat.le_of_ble_eq_true rfl⟩) hS (fun q _ h => hFc q h) hFc (fun r_16 u t H locs ht hvm hp_16 hB hz1 hk1 hS => ?_)
        obtain ⟨hP1, -, hD1⟩ := hB
        rw [ht] at hP1
        obtain ⟨hP, hD⟩ := va_join (wr := [(aq, .inr (3, [.int zq_there, .int zq_allowed, .ref aq_shades])), (aq_shades, .inl (kq_shades, 10, .inl zq_shades)), (aw, .inr (1, [.ref aw_near])), (aw_near, .inl (kw_near, 11, .inl zw_near))]) (w1 := []) hP hD [] [0, 1, 2, 3] rfl rfl (by decide) (by decide) hk1 hFc hP1 hD1
        have hp_16 : r_16 = f_has r_11 v4_3 := hp_16
        subst hp_16
        have hP : va_P (dC, dI) classes [(aq, .inr (3, [.int zq_there, .int zq_allowed, .ref aq_shades])), (aq_shades, .inl (kq_shades, 10, .inl zq_shades)), (aw, .inr (1, [.ref aw_near])), (aw_near, .inl (kw_near, 11, .inl zw_near))] H := hP
        have hD : va_D A [(aq, .inr (3, [.int zq_there, .int zq_allowed, .ref aq_shades])), (aq_shades, .inl (kq_shades, 10, .inl zq_shades)), (aw, .inr (1, [.ref aw_near])), (aw_near, .inl (kw_near, 11, .inl zw_near))] := hD
        refine lv_if_eq (tgt := 35) hx hb d_Pal_isFree_19 rfl (fun hc_19 => ?_) (fun hc_19 => ?_)
        · skip
          have hI := hI.trans (if_pos hc_19)
          refine lv_iinc (lv' := [(4, .int (v4_3 + 1)), (0, .ref aq), (1, .ref aw), (2, .int v2), (3, .int v3)]) (k := 4) hx hb d_Pal_isFree_35 hl rfl (z_inc1 _) (by decide) rfl (fun ls hl => ?_)
          refine lv_goto (tgt := 3) hx hb d_Pal_isFree_38 rfl ?_
          have hl := lv_sub hl [1, 2, 3, 4, 0] rfl
          exact ih_3 0 _ _ _ _ hI hP hD hS hl
        · skip
          have hI := hI.trans (if_neg hc_19)
          refine lv_aload_n hx hb d_Pal_isFree_22 rfl (lv_at hl 0 rfl) ?_
          refine va_get (D := (dC, dI)) (ci := 3) (v := .ref aq_shades) (C := R_Pal) (T := F_Pal) (N := 3) hx hb hts (fun w h => List.mem_cons_of_mem _ (in_Pal w h)) hown hK hP 0 rfl rfl 2 (by decide) (hts _ (List.mem_cons_of_mem _ mw_1_75)) (fun _ h9 => h9) rfl d_Pal_isFree_23 ?_
          refine lv_iload hx hb d_Pal_isFree_26 (lv_at hl 4 rfl) ?_
          have hi_28 := ob_in hI
          have hI := ob_th hI
          refine va_iald (D := (dC, dI)) hx hb hK hP 1 0 rfl rfl hi_28 d_Pal_isFree_28 ?_
          refine lv_iload_n hx hb d_Pal_isFree_29 rfl (lv_at hl 2 rfl) ?_
          refine lv_icmp_ne (tgt := 35) hx hb d_Pal_isFree_30 rfl (fun hc_30 => ?_) (fun hc_30 => ?_)
          · skip
            have hI := hI.trans (if_neg hc_30)
            refine lv_iinc (lv' := [(4, .int (v4_3 + 1)), (0, .ref aq), (1, .ref aw), (2, .int v2), (3, .int v3)]) (k := 4) hx hb d_Pal_isFree_35 hl rfl (z_inc1 _) (by decide) rfl (fun ls hl => ?_)
            refine lv_goto (tgt := 3) hx hb d_Pal_isFree_38 rfl ?_
            have hl := lv_sub hl [1, 2, 3, 4, 0] rfl
            exact ih_3 0 _ _ _ _ hI hP hD hS hl
          · skip
            have hI := hI.trans (if_pos hc_30)
            refine lv_iconst (v := 0) hx hb d_Pal_isFree_33 (by decide) ?_
            exact W.zret (v := 0) (ty := .boolean) hx hb hr (nr01 (Or.inl rfl)) (fun t ht hW => ⟨⟨0, (), rfl, ⟨(Option.some.inj hI).symm, (Or.inl rfl)⟩, by rw [ht]; exact hP, va_K.moved hW.alike hK, hD⟩, hS.F ht⟩) hS.2.2 d_Pal_isFree_34
  have hl : lv_has ls 5 [(0, .ref aq), (1, .ref aw), (2, .int v2), (3, .int v3), (4, .int 0)] := by first | exact lv_sub hl [1, 2, 3, 4, 0] rfl | (rw [nI_succ]; exact lv_sub hl [1, 2, 3, 4, 0] rfl)
  exact L_3 64 0 _ _ _ _ (by rw [hK_3]; exact hI) hP hD hS hl
