set_option maxHeartbeats 4000000 in
set_option maxRecDepth 100000 in
theorem c_fillP (l : Launch) (dC : Nat → ClassId) (dI : Nat → Nat → Nat) (sz : Nat) (ab : Nat) (kb : ClassId) (zb : Nat → Int32) (vv : Int32) : Met l y_Arr_fill w_Arr_fill ({ frames := 0, cells := 0, slots := 0, locals := 0 }) (Pre_ dC dI sz [.ref ab, .int vv] [(ab, .inl (kb, 11, .inl zb))] [(kb, .int)]) (va_Qv (fun (u : (Nat → Int32)) => u = f_fill 11 vv zb) (fun u t => End_ dC dI (va_A [(ab, .inl (kb, 11, .inl zb))] sz) [(kb, .int)] [(ab, .inl (kb, 11, .inl u))] t) (va_A [(ab, .inl (kb, 11, .inl zb))] sz)) 0 0 (va_A [(ab, .inl (kb, 11, .inl zb))] sz) := by
  refine Met.ofW (cc := b_Arr_fill) (maxL := 4) (ret := none) (by decide) rfl ?_
  intro p e s m args below meth c s₁ B hml hv
  obtain ⟨hargs, hsz, hP, hK, hD0, hN⟩ := hv
  have hx := B.exec
  have hb := B.bytes
  have hr := B.returns
  have hts := atoms_spec (ws := w_Arr_fill) B.pre
  have hown : s.vm.findClass R_Arr = some m.cls := findClass_of_methodNamed B.named
  have hlocks := B.notSynchronized
  subst hsz
  have hD := hD0.self (sz := s.heap.size)
  generalize hAe : va_A [(ab, .inl (kb, 11, .inl zb))] s.heap.size = A at hD ⊢
  have hA : ∀ q : Nat, s.heap.size ≤ q → A q := fun q h => by rw [← hAe]; exact Or.inr h
  have hS : va_S A s.heap s.heap [] := va_S.rf
  have hl := lv_entry ([.ref ab, .int vv]) (n := 4) (Nat.le_of_ble_eq_true rfl)
  refine W.eq (congrArg (fun a => entryFrame m a 4) hargs) ?_
  rw [lg_entry_eq]
  generalize (lg_sl ([.ref ab, .int vv]) ++ List.replicate (4 - (lg_sl ([.ref ab, .int vv])).length) Slot.unset).toArray = ls at hl ⊢
  have hl : lv_has ls 4 [(0, .ref ab), (1, .int vv)] := hl
  generalize hH0 : ([] : List Loc) = locs at hS ⊢
  refine lv_iconst (v := 0) hx hb d_Arr_fill_0 (by decide) ?_
  refine lv_istore_n (lv' := [(2, .int 0), (0, .ref ab), (1, .int vv)]) hx hb d_Arr_fill_1 rfl hl (by decide) rfl (fun ls hl => ?_)
  refine lv_aload_n hx hb d_Arr_fill_2 rfl (lv_at hl 1 rfl) ?_
  refine va_alen (D := (dC, dI)) (v := nI 11) hx hb hK hP 0 0 rfl rfl rfl d_Arr_fill_3 ?_
  refine lv_istore_n (lv' := [(3, .int (nI 11)), (2, .int 0), (0, .ref ab), (1, .int vv)]) hx hb d_Arr_fill_4 rfl hl (by decide) rfl (fun ls hl => ?_)
  have X_5 : ∀ (k_5 : Nat) (wb_5 : Nat → Int32) (H : Heap) (locs : List Loc) (ls : Array Slot), (wb_5 = f_fill 11 vv zb) → va_P (dC, dI) classes [(ab, .inl (kb, 11, .inl wb_5))] H → va_D A [(ab, .inl (kb, 11, .inl wb_5))] → va_S A s.heap H locs → lv_has ls 4 [(0, .ref ab), (1, .int vv), (2, .int (nI k_5)), (3, .int (nI 11))] → W p l e (headSpec w_Arr_fill ({ frames := 0, cells := 0, slots := 0, locals := 0 })).room s m args below meth c H locs 0 0 (MQ below (va_Qv (fun (u : (Nat → Int32)) => u = f_fill 11 vv zb) (fun u t => End_ dC dI A [(kb, .int)] [(ab, .inl (kb, 11, .inl u))] t) A) args s 0 0 A) (F0 m 20 ls []) := by
    intro k_5 wb_5 H locs ls hI_5 hP hD hS hl
    exact W.vret hx hb hr (fun t ht hW => ⟨⟨(wb_5), rfl, hI_5, by rw [ht]; exact hP, va_K.moved hW.alike hK, hD⟩, hS.F ht⟩) hS.2.2 d_Arr_fill_20
  have L_5 : ∀ (n_5 k_5 : Nat) (wb_5 : Nat → Int32) (H : Heap) (locs : List Loc) (ls : Array Slot), k_5 + n_5 = 11 → (wb_5 = f_fill k_5 vv zb) → va_P (dC, dI) classes [(ab, .inl (kb, 11, .inl wb_5))] H → va_D A [(ab, .inl (kb, 11, .inl wb_5))] → va_S A s.heap H locs → lv_has ls 4 [(0, .ref ab), (1, .int vv), (2, .int (nI k_5)), (3, .int (nI 11))] → W p l e (headSpec w_Arr_fill ({ frames := 0, cells := 0, slots := 0, locals := 0 })).room s m args below meth c H locs 0 0 (MQ below (va_Qv (fun (u : (Nat → Int32)) => u = f_fill 11 vv zb) (fun u t => End_ dC dI A [(kb, .int)] [(ab, .inl (kb, 11, .inl u))] t) A) args s 0 0 A) (F0 m 5 ls []) := by
    intro n_5
    induction n_5 with
    | zero =>
      intro k_5 wb_5 H locs ls hkn_5 hI_5 hP hD hS hl
      refine lv_iload_n hx hb d_Arr_fill_5 rfl (lv_at hl 2 rfl) ?_
      refine lv_iload_n hx hb d_Arr_fill_6 rfl (lv_at hl 3 rfl) ?_
      refine lv_icmp_ge (tgt := 20) hx hb d_Arr_fill_7 rfl (fun hc_7 => ?_) (fun hc_7 => absurd (z_exit rfl hkn_5) hc_7)
      have hl := lv_sub hl [0, 1, 2, 3] rfl
      exact X_5 _ _ _ _ _ (by rw [hI_5, show k_5 = 11 by omega]) hP hD hS hl
    | succ n_5 ih_5 =>
      intro k_5 wb_5 H locs ls hkn_5 hI_5 hP hD hS hl
      refine lv_iload_n hx hb d_Arr_fill_5 rfl (lv_at hl 2 rfl) ?_
      refine lv_iload_n hx hb d_Arr_fill_6 rfl (lv_at hl 3 rfl) ?_
      refine lv_icmp_ge (tgt := 20) hx hb d_Arr_fill_7 rfl (fun hc_7 => absurd hc_7 (z_stay rfl hkn_5 (by decide))) (fun hc_7 => ?_)
      refine lv_aload_n hx hb d_Arr_fill_10 rfl (lv_at hl 0 rfl) ?_
      refine lv_iload_n hx hb d_Arr_fill_11 rfl (lv_at hl 2 rfl) ?_
      refine lv_iload_n hx hb d_Arr_fill_12 rfl (lv_at hl 1 rfl) ?_
      refine va_iast (D := (dC, dI)) hx hb hK hP hD hS 0 0 rfl rfl (vp_in_nI (by omega) (by decide)) d_Arr_fill_13 (fun H locs hP hD hS => ?_)
      have hP : va_P (dC, dI) classes [(ab, .inl (kb, 11, .inl (upd wb_5 (Int32.toNatClampNeg (nI k_5)) vv)))] H := hP
      have hD : va_D A [(ab, .inl (kb, 11, .inl (upd wb_5 (Int32.toNatClampNeg (nI k_5)) vv)))] := hD
      refine lv_iinc (lv' := [(2, .int (nI (k_5 + 1))), (0, .ref ab), (1, .int vv), (3, .int (nI 11))]) (k := 2) hx hb d_Arr_fill_14 hl rfl (z_inc _) (by decide) rfl (fun ls hl => ?_)
      refine lv_goto (tgt := 5) hx hb d_Arr_fill_17 rfl ?_
      have hl := lv_sub hl [1, 2, 0, 3] rfl
      exact ih_5 _ _ _ _ _ (by omega) (by rw [hI_5]; exact fill_upd (by omega)) hP hD hS hl
  have hl : lv_has ls 4 [(0, .ref ab), (1, .int vv), (2, .int (nI 0)), (3, .int (nI 11))] := by first | exact lv_sub hl [2, 3, 1, 0] rfl | (rw [nI_succ]; exact lv_sub hl [2, 3, 1, 0] rfl)
  exact L_5 11 0 _ _ _ _ rfl fill_0 hP hD hS hl
set_option maxHeartbeats 4000000 in
set_option maxRecDepth 100000 in
theorem c_isNode (l : Launch) (dC : Nat → ClassId) (dI : Nat → Nat → Nat) (sz : Nat) (vi : Int32) : Met l y_Mod_isNode w_Mod_isNode ({ frames := 0, cells := 0, slots := 0, locals := 0 }) (Pre_ dC dI sz [.int vi] [] []) (va_Qi (fun (r : Int32) (u : Unit) => r = f_isNN vi) (fun u t => End_ dC dI (va_A [] sz) [] [] t) (va_A [] sz)) 0 0 (va_A [] sz) := by
  refine Met.ofW (cc := b_Mod_isNode) (maxL := 1) (ret := (some .boolean)) (by decide) rfl ?_
  intro p e s m args below meth c s₁ B hml hv
  obtain ⟨hargs, hsz, hP, hK, hD0, hN⟩ := hv
  have hx := B.exec
  have hb := B.bytes
  have hr := B.returns
  have hts := atoms_spec (ws := w_Mod_isNode) B.pre
  have hown : s.vm.findClass R_Mod = some m.cls := findClass_of_methodNamed B.named
  have hlocks := B.notSynchronized
  subst hsz
  have hD := hD0.self (sz := s.heap.size)
  generalize hAe : va_A [] s.heap.size = A at hD ⊢
  have hA : ∀ q : Nat, s.heap.size ≤ q → A q := fun q h => by rw [← hAe]; exact Or.inr h
  have hS : va_S A s.heap s.heap [] := va_S.rf
  have hl := lv_entry ([.int vi]) (n := 1) (Nat.le_of_ble_eq_true rfl)
  refine W.eq (congrArg (fun a => entryFrame m a 1) hargs) ?_
  rw [lg_entry_eq]
  generalize (lg_sl ([.int vi]) ++ List.replicate (1 - (lg_sl ([.int vi])).length) Slot.unset).toArray = ls at hl ⊢
  have hl : lv_has ls 1 [(0, .int vi)] := hl
  generalize hH0 : ([] : List Loc) = locs at hS ⊢
  refine lv_iload_n hx hb d_Mod_isNode_0 rfl (lv_at hl 0 rfl) ?_
  refine lv_if_lt (tgt := 14) hx hb d_Mod_isNode_1 rfl (fun hc_1 => ?_) (fun hc_1 => ?_)
  · skip
    refine lv_iconst (v := 0) hx hb d_Mod_isNode_14 (by decide) ?_
    exact W.zret (v := 0) (ty := .boolean) hx hb hr rfl (fun t ht hW => ⟨⟨0, (), rfl, (by rw [f_isNN, if_pos hc_1]), by rw [ht]; exact hP, va_K.moved hW.alike hK, hD⟩, hS.F ht⟩) hS.2.2 d_Mod_isNode_15
  · skip
    refine lv_iload_n hx hb d_Mod_isNode_4 rfl (lv_at hl 0 rfl) ?_
    refine lv_bipush (v := 10) hx hb d_Mod_isNode_5 (by decide) ?_
    refine lv_icmp_ge (tgt := 14) hx hb d_Mod_isNode_7 rfl (fun hc_7 => ?_) (fun hc_7 => ?_)
    · skip
      refine lv_iconst (v := 0) hx hb d_Mod_isNode_14 (by decide) ?_
      exact W.zret (v := 0) (ty := .boolean) hx hb hr rfl (fun t ht hW => ⟨⟨0, (), rfl, (by rw [f_isNN, if_neg hc_1, if_pos hc_7]), by rw [ht]; exact hP, va_K.moved hW.alike hK, hD⟩, hS.F ht⟩) hS.2.2 d_Mod_isNode_15
    · skip
      refine lv_iconst (v := 1) hx hb d_Mod_isNode_10 (by decide) ?_
      refine lv_goto (tgt := 15) hx hb d_Mod_isNode_11 rfl ?_
      exact W.zret (v := 1) (ty := .boolean) hx hb hr rfl (fun t ht hW => ⟨⟨1, (), rfl, (by rw [f_isNN, if_neg hc_1, if_neg hc_7]), by rw [ht]; exact hP, va_K.moved hW.alike hK, hD⟩, hS.F ht⟩) hS.2.2 d_Mod_isNode_15
