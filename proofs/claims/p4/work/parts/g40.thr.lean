set_option maxHeartbeats 4000000 in
set_option maxRecDepth 100000 in
theorem c_nodeT (l : Launch) (hfl : l.stackTraces = false) (s0 : State) (h0 : T0 s0) (dC : Nat → ClassId) (dI : Nat → Nat → Nat) (sz : Nat) (ax ax_lessEnd ax_moreEnd ax_web ax_planeTest ax_palette ax_desk : Nat) (zx_nodeBits : Int32) (zx_lineBits : Int32) (v1 : Int32) (R : Nat × Int32 × Int32) (hR : F_nodeT zx_nodeBits v1 = some R) : xMet l y_PS_node w_PS_node ({ frames := 6, cells := 1, slots := 6, locals := 90 }) (PreX_ s0 dC dI sz [.ref ax, .int v1] [(ax, .inr (0, [.int zx_nodeBits, .int zx_lineBits, .ref ax_lessEnd, .ref ax_moreEnd, .ref ax_web, .ref ax_planeTest, .ref ax_palette, .ref ax_desk]))] []) (va_Qi (fun (r : Int32) (u : Int32) => ((0 : Nat), r, u) = R) (fun u t => End_ dC dI (va_A [(ax, .inr (0, [.int zx_nodeBits, .int zx_lineBits, .ref ax_lessEnd, .ref ax_moreEnd, .ref ax_web, .ref ax_planeTest, .ref ax_palette, .ref ax_desk]))] sz) [] [(ax, .inr (0, [.int u, .int zx_lineBits, .ref ax_lessEnd, .ref ax_moreEnd, .ref ax_web, .ref ax_planeTest, .ref ax_palette, .ref ax_desk]))] t) (va_A [(ax, .inr (0, [.int zx_nodeBits, .int zx_lineBits, .ref ax_lessEnd, .ref ax_moreEnd, .ref ax_web, .ref ax_planeTest, .ref ax_palette, .ref ax_desk]))] sz)) (xX (fun E (u : Int32) t => ((E = "java/lang/IndexOutOfBoundsException" ∧ ((1 : Nat), (0 : Int32), u) = R) ∨ (E = "java/lang/IllegalStateException" ∧ ((2 : Nat), (0 : Int32), u) = R)) ∧ End_ dC dI (va_A [(ax, .inr (0, [.int zx_nodeBits, .int zx_lineBits, .ref ax_lessEnd, .ref ax_moreEnd, .ref ax_web, .ref ax_planeTest, .ref ax_palette, .ref ax_desk]))] sz) [] [(ax, .inr (0, [.int u, .int zx_lineBits, .ref ax_lessEnd, .ref ax_moreEnd, .ref ax_web, .ref ax_planeTest, .ref ax_palette, .ref ax_desk]))] t) (va_A [(ax, .inr (0, [.int zx_nodeBits, .int zx_lineBits, .ref ax_lessEnd, .ref ax_moreEnd, .ref ax_web, .ref ax_planeTest, .ref ax_palette, .ref ax_desk]))] sz)) 1 6 (va_A [(ax, .inr (0, [.int zx_nodeBits, .int zx_lineBits, .ref ax_lessEnd, .ref ax_moreEnd, .ref ax_web, .ref ax_planeTest, .ref ax_palette, .ref ax_desk]))] sz) := by
  refine xMet.ofW (cc := b_PS_node) (maxL := 2) (ret := (some .int)) (by decide) rfl ?_
  intro p e s m args below meth c s₁ B hml hex hv
  obtain ⟨hargs9, hsz9, hP9, hK9, hD9, hN9, hO, hlo⟩ := hv
  have hv : Pre_ dC dI sz [.ref ax, .int v1] [(ax, .inr (0, [.int zx_nodeBits, .int zx_lineBits, .ref ax_lessEnd, .ref ax_moreEnd, .ref ax_web, .ref ax_planeTest, .ref ax_palette, .ref ax_desk]))] [] args s := ⟨hargs9, hsz9, hP9, hK9, hD9, hN9⟩
  have lo_x : s0.heap.size ≤ ax := hlo (ax, .inr (0, [.int zx_nodeBits, .int zx_lineBits, .ref ax_lessEnd, .ref ax_moreEnd, .ref ax_web, .ref ax_planeTest, .ref ax_palette, .ref ax_desk])) (List.mem_of_getElem? (i := 0) rfl)
  obtain ⟨hargs, hsz, hP, hK, hD0, hN⟩ := hv
  have hx := B.exec
  have hb := B.bytes
  have hr := B.returns
  have hts := atoms_spec (ws := w_PS_node) B.pre
  have hown : s.vm.findClass R_PS = some m.cls := findClass_of_methodNamed B.named
  have hlocks := B.notSynchronized
  subst hsz
  have hD := hD0.self (sz := s.heap.size)
  generalize hAe : va_A [(ax, .inr (0, [.int zx_nodeBits, .int zx_lineBits, .ref ax_lessEnd, .ref ax_moreEnd, .ref ax_web, .ref ax_planeTest, .ref ax_palette, .ref ax_desk]))] s.heap.size = A at hD ⊢
  have hA : ∀ q : Nat, s.heap.size ≤ q → A q := fun q h => by rw [← hAe]; exact Or.inr h
  have hS : va_S A s.heap s.heap [] := va_S.rf
  have hl := lv_entry ([.ref ax, .int v1]) (n := 2) (Nat.le_of_ble_eq_true rfl)
  refine W.eq (congrArg (fun a => entryFrame m a 2) hargs) ?_
  rw [lg_entry_eq]
  generalize (lg_sl ([.ref ax, .int v1]) ++ List.replicate (2 - (lg_sl ([.ref ax, .int v1])).length) Slot.unset).toArray = ls at hl ⊢
  have hl : lv_has ls 2 [(0, .ref ax), (1, .int v1)] := hl
  generalize hH0 : ([] : List Loc) = locs at hS ⊢
  have hI := hR.symm
  rw [F_nodeT] at hI
  refine lv_iload_n hx hb d_PS_node_0 rfl (lv_at hl 1 rfl) ?_
  have hPc := hP.sub (ws' := []) [] rfl
  have hDc := hD.sub (ws' := []) [] (by decide) rfl
  have hKc := hK.sub (tys' := []) [] rfl
  have hFc := va_free (wc := []) hD hS hA [] rfl
  refine va_calli (va_runS (As := [.int v1]) (rest := []) ⟨hx, hb, hml, hown, hts⟩ (c_isNN l dC dI s.heap.size v1) (cwS 1 hts (gi3 mw_2_121 mw_2_122 mw_1_1 mw_2_123) rfl rfl rfl (by decide +kernel) ⟨Nat.le_of_ble_eq_true rfl, Nat.le_of_ble_eq_true rfl⟩) ⟨fb_, pre_ hPc hKc hDc hN⟩ rfl rfl hl.1 rfl (lv_room (Nat.le_of_ble_eq_true rfl)) d_PS_node_1 ⟨Nat.le_of_ble_eq_true rfl, Nat.le_of_ble_eq_true rfl⟩) hS (fun q _ h => hFc q h) hFc (fun r_1 u t H locs ht hvm hp_1 hB hz1 hk1 hS => ?_)
  obtain ⟨hP1, -, hD1⟩ := hB
  rw [ht] at hP1
  obtain ⟨hP, hD⟩ := va_join (wr := [(ax, .inr (0, [.int zx_nodeBits, .int zx_lineBits, .ref ax_lessEnd, .ref ax_moreEnd, .ref ax_web, .ref ax_planeTest, .ref ax_palette, .ref ax_desk]))]) (w1 := []) hP hD [] [0] rfl rfl (by decide) (by decide) hk1 hFc hP1 hD1
  have hp_1 : r_1 = f_isNN v1 := hp_1
  subst hp_1
  have hP : va_P (dC, dI) classes [(ax, .inr (0, [.int zx_nodeBits, .int zx_lineBits, .ref ax_lessEnd, .ref ax_moreEnd, .ref ax_web, .ref ax_planeTest, .ref ax_palette, .ref ax_desk]))] H := hP
  have hD : va_D A [(ax, .inr (0, [.int zx_nodeBits, .int zx_lineBits, .ref ax_lessEnd, .ref ax_moreEnd, .ref ax_web, .ref ax_planeTest, .ref ax_palette, .ref ax_desk]))] := hD
  refine lv_if_ne (tgt := 17) hx hb d_PS_node_4 rfl (fun hc_4 => ?_) (fun hc_4 => ?_)
  · skip
    have hI := hI.trans (if_neg hc_4)
    refine lv_aload_n hx hb d_PS_node_17 rfl (lv_at hl 0 rfl) ?_
    refine va_get (D := (dC, dI)) (ci := 0) (v := .int zx_nodeBits) (C := R_PS) (T := F_PS) (N := 8) hx hb hts (fun w h => List.mem_cons_of_mem _ (in_PS w h)) hown hK hP 0 rfl rfl 0 (by decide) (hts _ (List.mem_cons_of_mem _ mw_1_96)) (fun _ h9 => h9) rfl d_PS_node_18 ?_
    refine lv_iload_n hx hb d_PS_node_21 rfl (lv_at hl 1 rfl) ?_
    have hPc := hP.sub (ws' := []) [] rfl
    have hDc := hD.sub (ws' := []) [] (by decide) rfl
    have hKc := hK.sub (tys' := []) [] rfl
    have hFc := va_free (wc := []) hD hS hA [] rfl
    refine va_calli (va_runS (As := [.int zx_nodeBits, .int v1]) (rest := []) ⟨hx, hb, hml, hown, hts⟩ (c_has l dC dI H.size zx_nodeBits v1) (cwS 2 hts (gi3 mw_1_148 mw_1_149 mw_1_1 mw_1_150) rfl rfl rfl (by decide +kernel) ⟨Nat.le_of_ble_eq_true rfl, Nat.le_of_ble_eq_true rfl⟩) ⟨fb_, pre_ hPc hKc hDc hN⟩ rfl rfl hl.1 rfl (lv_room (Nat.le_of_ble_eq_true rfl)) d_PS_node_22 ⟨Nat.le_of_ble_eq_true rfl, Nat.le_of_ble_eq_true rfl⟩) hS (fun q _ h => hFc q h) hFc (fun r_22 u t H locs ht hvm hp_22 hB hz1 hk1 hS => ?_)
    obtain ⟨hP1, -, hD1⟩ := hB
    rw [ht] at hP1
    obtain ⟨hP, hD⟩ := va_join (wr := [(ax, .inr (0, [.int zx_nodeBits, .int zx_lineBits, .ref ax_lessEnd, .ref ax_moreEnd, .ref ax_web, .ref ax_planeTest, .ref ax_palette, .ref ax_desk]))]) (w1 := []) hP hD [] [0] rfl rfl (by decide) (by decide) hk1 hFc hP1 hD1
    have hp_22 : r_22 = f_has zx_nodeBits v1 := hp_22
    subst hp_22
    have hP : va_P (dC, dI) classes [(ax, .inr (0, [.int zx_nodeBits, .int zx_lineBits, .ref ax_lessEnd, .ref ax_moreEnd, .ref ax_web, .ref ax_planeTest, .ref ax_palette, .ref ax_desk]))] H := hP
    have hD : va_D A [(ax, .inr (0, [.int zx_nodeBits, .int zx_lineBits, .ref ax_lessEnd, .ref ax_moreEnd, .ref ax_web, .ref ax_planeTest, .ref ax_palette, .ref ax_desk]))] := hD
    refine lv_if_eq (tgt := 38) hx hb d_PS_node_25 rfl (fun hc_25 => ?_) (fun hc_25 => ?_)
    · skip
      have hI := hI.trans (if_pos hc_25)
      refine lv_aload_n hx hb d_PS_node_38 rfl (lv_at hl 0 rfl) ?_
      refine lv_dup hx hb d_PS_node_39 rfl ?_
      refine va_get (D := (dC, dI)) (ci := 0) (v := .int zx_nodeBits) (C := R_PS) (T := F_PS) (N := 8) hx hb hts (fun w h => List.mem_cons_of_mem _ (in_PS w h)) hown hK hP 0 rfl rfl 0 (by decide) (hts _ (List.mem_cons_of_mem _ mw_1_96)) (fun _ h9 => h9) rfl d_PS_node_40 ?_
      refine lv_iconst (v := 1) hx hb d_PS_node_43 (by decide) ?_
      refine lv_iload_n hx hb d_PS_node_44 rfl (lv_at hl 1 rfl) ?_
      refine lv_ishl hx hb d_PS_node_45 ?_
      refine lv_ior hx hb d_PS_node_46 ?_
      refine va_put (D := (dC, dI)) (ci := 0) (v := .int (zx_nodeBits ||| (((1 : Int32)) <<< (v1 &&& 31)))) (ty := .int) (C := R_PS) (T := F_PS) (N := 8) hx hb hts (fun w h => List.mem_cons_of_mem _ (in_PS w h)) t_PS t_PS_ok n_PS hown hK hP hD hS 0 rfl rfl 0 (by decide) (hts _ (List.mem_cons_of_mem _ mw_1_96)) (fun _ h9 => h9) rfl (by decide +kernel) rfl rfl (Nat.le_of_ble_eq_true rfl) d_PS_node_47 (fun H locs hP hD hS => ?_)
      have hP : va_P (dC, dI) classes [(ax, .inr (0, [.int (zx_nodeBits ||| (((1 : Int32)) <<< (v1 &&& 31))), .int zx_lineBits, .ref ax_lessEnd, .ref ax_moreEnd, .ref ax_web, .ref ax_planeTest, .ref ax_palette, .ref ax_desk]))] H := hP
      have hD : va_D A [(ax, .inr (0, [.int (zx_nodeBits ||| (((1 : Int32)) <<< (v1 &&& 31))), .int zx_lineBits, .ref ax_lessEnd, .ref ax_moreEnd, .ref ax_web, .ref ax_planeTest, .ref ax_palette, .ref ax_desk]))] := hD
      refine lv_aload_n hx hb d_PS_node_50 rfl (lv_at hl 0 rfl) ?_
      refine va_get (D := (dC, dI)) (ci := 0) (v := .int (zx_nodeBits ||| (((1 : Int32)) <<< (v1 &&& 31)))) (C := R_PS) (T := F_PS) (N := 8) hx hb hts (fun w h => List.mem_cons_of_mem _ (in_PS w h)) hown hK hP 0 rfl rfl 0 (by decide) (hts _ (List.mem_cons_of_mem _ mw_1_96)) (fun _ h9 => h9) rfl d_PS_node_51 ?_
      have hPc := hP.sub (ws' := []) [] rfl
      have hDc := hD.sub (ws' := []) [] (by decide) rfl
      have hKc := hK.sub (tys' := []) [] rfl
      have hFc := va_free (wc := []) hD hS hA [] rfl
      refine va_calli (va_runS (As := [.int (zx_nodeBits ||| (((1 : Int32)) <<< (v1 &&& 31)))]) (rest := []) ⟨hx, hb, hml, hown, hts⟩ (c_bitCount l dC dI H.size (zx_nodeBits ||| (((1 : Int32)) <<< (v1 &&& 31)))) (va_cwS 1 hts (gi3 mw_1_216 mw_1_164 mw_1_12 mw_1_165) rfl rfl rfl (by decide +kernel) ⟨Nat.le_of_ble_eq_true rfl, Nat.le_of_ble_eq_true rfl⟩) ⟨fb_, pre_ hPc hKc hDc hN⟩ rfl rfl hl.1 rfl (lv_room (Nat.le_of_ble_eq_true rfl)) d_PS_node_54 ⟨Nat.le_of_ble_eq_true rfl, Nat.le_of_ble_eq_true rfl⟩) hS (fun q _ h => hFc q h) hFc (fun r_54 u t H locs ht hvm hp_54 hB hz1 hk1 hS => ?_)
      obtain ⟨hP1, -, hD1⟩ := hB
      rw [ht] at hP1
      obtain ⟨hP, hD⟩ := va_join (wr := [(ax, .inr (0, [.int (zx_nodeBits ||| (((1 : Int32)) <<< (v1 &&& 31))), .int zx_lineBits, .ref ax_lessEnd, .ref ax_moreEnd, .ref ax_web, .ref ax_planeTest, .ref ax_palette, .ref ax_desk]))]) (w1 := []) hP hD [] [0] rfl rfl (by decide) (by decide) hk1 hFc hP1 hD1
      have hp_54 : r_54 = f_bc (zx_nodeBits ||| (((1 : Int32)) <<< (v1 &&& 31))) := hp_54
      subst hp_54
      have hP : va_P (dC, dI) classes [(ax, .inr (0, [.int (zx_nodeBits ||| (((1 : Int32)) <<< (v1 &&& 31))), .int zx_lineBits, .ref ax_lessEnd, .ref ax_moreEnd, .ref ax_web, .ref ax_planeTest, .ref ax_palette, .ref ax_desk]))] H := hP
      have hD : va_D A [(ax, .inr (0, [.int (zx_nodeBits ||| (((1 : Int32)) <<< (v1 &&& 31))), .int zx_lineBits, .ref ax_lessEnd, .ref ax_moreEnd, .ref ax_web, .ref ax_planeTest, .ref ax_palette, .ref ax_desk]))] := hD
      refine x_ret ?_
      refine W.widen (k := 1) (n := 6) (Nat.le_of_ble_eq_true rfl) (Nat.le_of_ble_eq_true rfl) ?_
      exact W.iret (v := f_bc (zx_nodeBits ||| (((1 : Int32)) <<< (v1 &&& 31)))) hx hb hr (fun t ht hW => ⟨⟨f_bc (zx_nodeBits ||| (((1 : Int32)) <<< (v1 &&& 31))), (zx_nodeBits ||| (((1 : Int32)) <<< (v1 &&& 31))), rfl, (Option.some.inj hI).symm, by rw [ht]; exact hP, va_K.moved hW.alike hK, hD⟩, hS.F ht⟩) hS.2.2 d_PS_node_57
    · skip
      have hI := hI.trans (if_neg hc_25)
      obtain ⟨sa, hst0⟩ := h0.2 (R_PS, 68, "the node is there") (by decide +kernel)
      have hok := og_keep hO hlo hAe hS
      exact x_throw (own := R_PS) (cls := "java/lang/IllegalStateException") (text := "the node is there") (names := ["java/lang/RuntimeException", "java/lang/Exception"]) (ik := 66) (is := 68) (ic := 70) (sa := sa) hx hb hfl hown (by decide +kernel) (by decide +kernel) (hts _ (List.mem_cons_of_mem _ mw_2_193)) (hts _ (List.mem_cons_of_mem _ mw_1_11)) (hst0.warm hO.1) (fun s9 hv9 hh9 => thr_at h0 ⟨by rw [hv9]; exact hO.1, by rw [hh9]; exact hok.1, fun q hq => by rw [hh9]; exact hok.2 q hq⟩ (Bundle.ownAtoms R_PS 70 "java/lang/IllegalStateException" ["java/lang/RuntimeException", "java/lang/Exception"]) (List.mem_of_getElem? (i := 1) rfl)) (hl.1.trans hml.symm) d_PS_node_28 d_PS_node_31 d_PS_node_32 d_PS_node_34 d_PS_node_37 hex (Nat.le_of_ble_eq_true rfl) (Nat.le_of_ble_eq_true rfl) (Nat.le_of_ble_eq_true rfl) (Nat.le_of_ble_eq_true rfl) hlocks (fun t ha hz hk => ⟨(zx_nodeBits), ⟨Or.inr (⟨rfl, (Option.some.inj hI).symm⟩), thr_P hP hk, va_K.moved ha hK, hD⟩, thr_F hS hz hk⟩) hS.2.2 (Nat.le_of_ble_eq_true rfl) (Nat.le_of_ble_eq_true rfl)
  · skip
    have hI := hI.trans (if_pos hc_4)
    obtain ⟨sa, hst0⟩ := h0.2 (R_PS, 57, "no such node") (by decide +kernel)
    have hok := og_keep hO hlo hAe hS
    exact x_throw (own := R_PS) (cls := "java/lang/IndexOutOfBoundsException") (text := "no such node") (names := ["java/lang/RuntimeException", "java/lang/Exception"]) (ik := 55) (is := 57) (ic := 59) (sa := sa) hx hb hfl hown (by decide +kernel) (by decide +kernel) (hts _ (List.mem_cons_of_mem _ mw_2_124)) (hts _ (List.mem_cons_of_mem _ mw_1_10)) (hst0.warm hO.1) (fun s9 hv9 hh9 => thr_at h0 ⟨by rw [hv9]; exact hO.1, by rw [hh9]; exact hok.1, fun q hq => by rw [hh9]; exact hok.2 q hq⟩ (Bundle.ownAtoms R_PS 59 "java/lang/IndexOutOfBoundsException" ["java/lang/RuntimeException", "java/lang/Exception"]) (List.mem_of_getElem? (i := 0) rfl)) (hl.1.trans hml.symm) d_PS_node_7 d_PS_node_10 d_PS_node_11 d_PS_node_13 d_PS_node_16 hex (Nat.le_of_ble_eq_true rfl) (Nat.le_of_ble_eq_true rfl) (Nat.le_of_ble_eq_true rfl) (Nat.le_of_ble_eq_true rfl) hlocks (fun t ha hz hk => ⟨(zx_nodeBits), ⟨Or.inl ⟨rfl, (Option.some.inj hI).symm⟩, thr_P hP hk, va_K.moved ha hK, hD⟩, thr_F hS hz hk⟩) hS.2.2 (Nat.le_of_ble_eq_true rfl) (Nat.le_of_ble_eq_true rfl)
set_option maxHeartbeats 4000000 in
set_option maxRecDepth 100000 in
theorem c_lineT (l : Launch) (hfl : l.stackTraces = false) (s0 : State) (h0 : T0 s0) (dC : Nat → ClassId) (dI : Nat → Nat → Nat) (sz : Nat) (ax ax_lessEnd ax_moreEnd ax_web ax_planeTest ax_palette ax_desk : Nat) (kx_lessEnd kx_moreEnd : ClassId) (zx_nodeBits : Int32) (zx_lineBits : Int32) (zx_lessEnd : Nat → Int32) (zx_moreEnd : Nat → Int32) (v1 v2 : Int32) (R : Nat × Int32 × Int32 × (Nat → Int32) × (Nat → Int32)) (hR : F_lineT zx_nodeBits zx_lineBits zx_lessEnd zx_moreEnd v1 v2 = some R) : xMet l y_PS_line w_PS_line ({ frames := 6, cells := 1, slots := 6, locals := 90 }) (PreX_ s0 dC dI sz [.ref ax, .int v1, .int v2] [(ax, .inr (0, [.int zx_nodeBits, .int zx_lineBits, .ref ax_lessEnd, .ref ax_moreEnd, .ref ax_web, .ref ax_planeTest, .ref ax_palette, .ref ax_desk])), (ax_lessEnd, .inl (kx_lessEnd, 24, .inl zx_lessEnd)), (ax_moreEnd, .inl (kx_moreEnd, 24, .inl zx_moreEnd))] [(kx_lessEnd, .int), (kx_moreEnd, .int)]) (va_Qi (fun (r : Int32) (u : Int32 × (Nat → Int32) × (Nat → Int32)) => ((0 : Nat), r, u) = R) (fun u t => End_ dC dI (va_A [(ax, .inr (0, [.int zx_nodeBits, .int zx_lineBits, .ref ax_lessEnd, .ref ax_moreEnd, .ref ax_web, .ref ax_planeTest, .ref ax_palette, .ref ax_desk])), (ax_lessEnd, .inl (kx_lessEnd, 24, .inl zx_lessEnd)), (ax_moreEnd, .inl (kx_moreEnd, 24, .inl zx_moreEnd))] sz) [(kx_lessEnd, .int), (kx_moreEnd, .int)] [(ax, .inr (0, [.int zx_nodeBits, .int u.1, .ref ax_lessEnd, .ref ax_moreEnd, .ref ax_web, .ref ax_planeTest, .ref ax_palette, .ref ax_desk])), (ax_lessEnd, .inl (kx_lessEnd, 24, .inl u.2.1)), (ax_moreEnd, .inl (kx_moreEnd, 24, .inl u.2.2))] t) (va_A [(ax, .inr (0, [.int zx_nodeBits, .int zx_lineBits, .ref ax_lessEnd, .ref ax_moreEnd, .ref ax_web, .ref ax_planeTest, .ref ax_palette, .ref ax_desk])), (ax_lessEnd, .inl (kx_lessEnd, 24, .inl zx_lessEnd)), (ax_moreEnd, .inl (kx_moreEnd, 24, .inl zx_moreEnd))] sz)) (xX (fun E (u : Int32 × (Nat → Int32) × (Nat → Int32)) t => ((E = "java/util/NoSuchElementException" ∧ ((3 : Nat), (0 : Int32), u) = R) ∨ (E = "java/lang/IllegalArgumentException" ∧ ((4 : Nat), (0 : Int32), u) = R) ∨ (E = "java/lang/IllegalStateException" ∧ ((2 : Nat), (0 : Int32), u) = R)) ∧ End_ dC dI (va_A [(ax, .inr (0, [.int zx_nodeBits, .int zx_lineBits, .ref ax_lessEnd, .ref ax_moreEnd, .ref ax_web, .ref ax_planeTest, .ref ax_palette, .ref ax_desk])), (ax_lessEnd, .inl (kx_lessEnd, 24, .inl zx_lessEnd)), (ax_moreEnd, .inl (kx_moreEnd, 24, .inl zx_moreEnd))] sz) [(kx_lessEnd, .int), (kx_moreEnd, .int)] [(ax, .inr (0, [.int zx_nodeBits, .int u.1, .ref ax_lessEnd, .ref ax_moreEnd, .ref ax_web, .ref ax_planeTest, .ref ax_palette, .ref ax_desk])), (ax_lessEnd, .inl (kx_lessEnd, 24, .inl u.2.1)), (ax_moreEnd, .inl (kx_moreEnd, 24, .inl u.2.2))] t) (va_A [(ax, .inr (0, [.int zx_nodeBits, .int zx_lineBits, .ref ax_lessEnd, .ref ax_moreEnd, .ref ax_web, .ref ax_planeTest, .ref ax_palette, .ref ax_desk])), (ax_lessEnd, .inl (kx_lessEnd, 24, .inl zx_lessEnd)), (ax_moreEnd, .inl (kx_moreEnd, 24, .inl zx_moreEnd))] sz)) 1 6 (va_A [(ax, .inr (0, [.int zx_nodeBits, .int zx_lineBits, .ref ax_lessEnd, .ref ax_moreEnd, .ref ax_web, .ref ax_planeTest, .ref ax_palette, .ref ax_desk])), (ax_lessEnd, .inl (kx_lessEnd, 24, .inl zx_lessEnd)), (ax_moreEnd, .inl (kx_moreEnd, 24, .inl zx_moreEnd))] sz) := by
  refine xMet.ofW (cc := b_PS_line) (maxL := 4) (ret := (some .int)) (by decide) rfl ?_
  intro p e s m args below meth c s₁ B hml hex hv
  obtain ⟨hargs9, hsz9, hP9, hK9, hD9, hN9, hO, hlo⟩ := hv
  have hv : Pre_ dC dI sz [.ref ax, .int v1, .int v2] [(ax, .inr (0, [.int zx_nodeBits, .int zx_lineBits, .ref ax_lessEnd, .ref ax_moreEnd, .ref ax_web, .ref ax_planeTest, .ref ax_palette, .ref ax_desk])), (ax_lessEnd, .inl (kx_lessEnd, 24, .inl zx_lessEnd)), (ax_moreEnd, .inl (kx_moreEnd, 24, .inl zx_moreEnd))] [(kx_lessEnd, .int), (kx_moreEnd, .int)] args s := ⟨hargs9, hsz9, hP9, hK9, hD9, hN9⟩
  have lo_x : s0.heap.size ≤ ax := hlo (ax, .inr (0, [.int zx_nodeBits, .int zx_lineBits, .ref ax_lessEnd, .ref ax_moreEnd, .ref ax_web, .ref ax_planeTest, .ref ax_palette, .ref ax_desk])) (List.mem_of_getElem? (i := 0) rfl)
  have lo_x_lessEnd : s0.heap.size ≤ ax_lessEnd := hlo (ax_lessEnd, .inl (kx_lessEnd, 24, .inl zx_lessEnd)) (List.mem_of_getElem? (i := 1) rfl)
  have lo_x_moreEnd : s0.heap.size ≤ ax_moreEnd := hlo (ax_moreEnd, .inl (kx_moreEnd, 24, .inl zx_moreEnd)) (List.mem_of_getElem? (i := 2) rfl)
  obtain ⟨hargs, hsz, hP, hK, hD0, hN⟩ := hv
  have hx := B.exec
  have hb := B.bytes
  have hr := B.returns
  have hts := atoms_spec (ws := w_PS_line) B.pre
  have hown : s.vm.findClass R_PS = some m.cls := findClass_of_methodNamed B.named
  have hlocks := B.notSynchronized
  subst hsz
  have hD := hD0.self (sz := s.heap.size)
  generalize hAe : va_A [(ax, .inr (0, [.int zx_nodeBits, .int zx_lineBits, .ref ax_lessEnd, .ref ax_moreEnd, .ref ax_web, .ref ax_planeTest, .ref ax_palette, .ref ax_desk])), (ax_lessEnd, .inl (kx_lessEnd, 24, .inl zx_lessEnd)), (ax_moreEnd, .inl (kx_moreEnd, 24, .inl zx_moreEnd))] s.heap.size = A at hD ⊢
  have hA : ∀ q : Nat, s.heap.size ≤ q → A q := fun q h => by rw [← hAe]; exact Or.inr h
  have hS : va_S A s.heap s.heap [] := va_S.rf
  have hl := lv_entry ([.ref ax, .int v1, .int v2]) (n := 4) (Nat.le_of_ble_eq_true rfl)
  refine W.eq (congrArg (fun a => entryFrame m a 4) hargs) ?_
  rw [lg_entry_eq]
  generalize (lg_sl ([.ref ax, .int v1, .int v2]) ++ List.replicate (4 - (lg_sl ([.ref ax, .int v1, .int v2])).length) Slot.unset).toArray = ls at hl ⊢
  have hl : lv_has ls 4 [(0, .ref ax), (1, .int v1), (2, .int v2)] := hl
  generalize hH0 : ([] : List Loc) = locs at hS ⊢
  have hI := hR.symm
  rw [F_lineT] at hI
  refine lv_aload_n hx hb d_PS_line_0 rfl (lv_at hl 0 rfl) ?_
  refine lv_iload_n hx hb d_PS_line_1 rfl (lv_at hl 1 rfl) ?_
  have hPc := hP.sub (ws' := [(ax, .inr (0, [.int zx_nodeBits, .int zx_lineBits, .ref ax_lessEnd, .ref ax_moreEnd, .ref ax_web, .ref ax_planeTest, .ref ax_palette, .ref ax_desk]))]) [0] rfl
  have hDc := hD.sub (ws' := [(ax, .inr (0, [.int zx_nodeBits, .int zx_lineBits, .ref ax_lessEnd, .ref ax_moreEnd, .ref ax_web, .ref ax_planeTest, .ref ax_palette, .ref ax_desk]))]) [0] (by decide) rfl
  have hKc := hK.sub (tys' := []) [] rfl
  have hFc := va_free (wc := [(ax, .inr (0, [.int zx_nodeBits, .int zx_lineBits, .ref ax_lessEnd, .ref ax_moreEnd, .ref ax_web, .ref ax_planeTest, .ref ax_palette, .ref ax_desk]))]) hD hS hA [0] rfl
  refine va_calli (va_runV (As := [.int v1]) (rest := []) ⟨hx, hb, hml, hown, hts⟩ (c_nodeIsThere l dC dI s.heap.size ax ax_lessEnd ax_moreEnd ax_web ax_planeTest ax_palette ax_desk zx_nodeBits zx_lineBits v1) (cwV 1 hts (gi4 mw_2_218 mw_2_220 mw_p_26 mw_1_1 mw_2_221) rfl rfl rfl (by decide +kernel) ⟨Nat.le_of_ble_eq_true rfl, Nat.le_of_ble_eq_true rfl⟩) ⟨fb_, va_recv (q0 := 0) (ci := 0) hK hP rfl rfl, pre_ hPc hKc hDc hN⟩ rfl rfl hl.1 rfl (lv_room (Nat.le_of_ble_eq_true rfl)) d_PS_line_2 ⟨Nat.le_of_ble_eq_true rfl, Nat.le_of_ble_eq_true rfl⟩) hS (fun q _ h => hFc q h) hFc (fun r_2 u t H locs ht hvm hp_2 hB hz1 hk1 hS => ?_)
  obtain ⟨hP1, -, hD1⟩ := hB
  rw [ht] at hP1
  obtain ⟨hP, hD⟩ := va_join (wr := [(ax_lessEnd, .inl (kx_lessEnd, 24, .inl zx_lessEnd)), (ax_moreEnd, .inl (kx_moreEnd, 24, .inl zx_moreEnd))]) (w1 := [(ax, .inr (0, [.int zx_nodeBits, .int zx_lineBits, .ref ax_lessEnd, .ref ax_moreEnd, .ref ax_web, .ref ax_planeTest, .ref ax_palette, .ref ax_desk]))]) hP hD [0] [1, 2] rfl rfl (by decide) (by decide) hk1 hFc hP1 hD1
  have hp_2 : r_2 = f_nit zx_nodeBits v1 := hp_2
  subst hp_2
  have hP : va_P (dC, dI) classes [(ax_lessEnd, .inl (kx_lessEnd, 24, .inl zx_lessEnd)), (ax_moreEnd, .inl (kx_moreEnd, 24, .inl zx_moreEnd)), (ax, .inr (0, [.int zx_nodeBits, .int zx_lineBits, .ref ax_lessEnd, .ref ax_moreEnd, .ref ax_web, .ref ax_planeTest, .ref ax_palette, .ref ax_desk]))] H := hP
  have hD : va_D A [(ax_lessEnd, .inl (kx_lessEnd, 24, .inl zx_lessEnd)), (ax_moreEnd, .inl (kx_moreEnd, 24, .inl zx_moreEnd)), (ax, .inr (0, [.int zx_nodeBits, .int zx_lineBits, .ref ax_lessEnd, .ref ax_moreEnd, .ref ax_web, .ref ax_planeTest, .ref ax_palette, .ref ax_desk]))] := hD
  refine lv_if_eq (tgt := 16) hx hb d_PS_line_5 rfl (fun hc_5 => ?_) (fun hc_5 => ?_)
  · skip
    have hI := hI.trans (if_pos hc_5)
    have hP := hP.sub (ws' := [(ax, .inr (0, [.int zx_nodeBits, .int zx_lineBits, .ref ax_lessEnd, .ref ax_moreEnd, .ref ax_web, .ref ax_planeTest, .ref ax_palette, .ref ax_desk])), (ax_lessEnd, .inl (kx_lessEnd, 24, .inl zx_lessEnd)), (ax_moreEnd, .inl (kx_moreEnd, 24, .inl zx_moreEnd))]) [2, 0, 1] rfl
    have hD := hD.sub (ws' := [(ax, .inr (0, [.int zx_nodeBits, .int zx_lineBits, .ref ax_lessEnd, .ref ax_moreEnd, .ref ax_web, .ref ax_planeTest, .ref ax_palette, .ref ax_desk])), (ax_lessEnd, .inl (kx_lessEnd, 24, .inl zx_lessEnd)), (ax_moreEnd, .inl (kx_moreEnd, 24, .inl zx_moreEnd))]) [2, 0, 1] (by decide) rfl
    obtain ⟨sa, hst0⟩ := h0.2 (R_PS, 82, "a node is not there") (by decide +kernel)
    have hok := og_keep hO hlo hAe hS
    exact x_throwN (own := R_PS) (cls := "java/util/NoSuchElementException") (text := "a node is not there") (ik := 80) (is := 82) (ic := 84) (sa := sa) hx hb hfl hown (by decide +kernel) (hts _ (List.mem_cons_of_mem _ mw_2_222)) (hts _ (List.mem_cons_of_mem _ mw_1_13)) (hst0.warm hO.1) (fun s9 hv9 hh9 => thr_at h0 ⟨by rw [hv9]; exact hO.1, by rw [hh9]; exact hok.1, fun q hq => by rw [hh9]; exact hok.2 q hq⟩ (nsAtoms R_PS 84 "java/util/NoSuchElementException") (List.mem_of_getElem? (i := 2) rfl)) (hl.1.trans hml.symm) d_PS_line_16 d_PS_line_19 d_PS_line_20 d_PS_line_22 d_PS_line_25 hex (Nat.le_of_ble_eq_true rfl) (Nat.le_of_ble_eq_true rfl) (Nat.le_of_ble_eq_true rfl) (Nat.le_of_ble_eq_true rfl) hlocks (fun t ha hz hk => ⟨(zx_lineBits, zx_lessEnd, zx_moreEnd), ⟨Or.inl ⟨rfl, (Option.some.inj hI).symm⟩, thr_P hP hk, va_K.moved ha hK, hD⟩, thr_F hS hz hk⟩) hS.2.2 (Nat.le_of_ble_eq_true rfl) (Nat.le_of_ble_eq_true rfl)
  · skip
    have hI := hI.trans (if_neg hc_5)
    refine lv_aload_n hx hb d_PS_line_8 rfl (lv_at hl 0 rfl) ?_
    refine lv_iload_n hx hb d_PS_line_9 rfl (lv_at hl 2 rfl) ?_
    have hPc := hP.sub (ws' := [(ax, .inr (0, [.int zx_nodeBits, .int zx_lineBits, .ref ax_lessEnd, .ref ax_moreEnd, .ref ax_web, .ref ax_planeTest, .ref ax_palette, .ref ax_desk]))]) [2] rfl
    have hDc := hD.sub (ws' := [(ax, .inr (0, [.int zx_nodeBits, .int zx_lineBits, .ref ax_lessEnd, .ref ax_moreEnd, .ref ax_web, .ref ax_planeTest, .ref ax_palette, .ref ax_desk]))]) [2] (by decide) rfl
    have hKc := hK.sub (tys' := []) [] rfl
    have hFc := va_free (wc := [(ax, .inr (0, [.int zx_nodeBits, .int zx_lineBits, .ref ax_lessEnd, .ref ax_moreEnd, .ref ax_web, .ref ax_planeTest, .ref ax_palette, .ref ax_desk]))]) hD hS hA [2] rfl
    refine va_calli (va_runV (As := [.int v2]) (rest := []) ⟨hx, hb, hml, hown, hts⟩ (c_nodeIsThere l dC dI H.size ax ax_lessEnd ax_moreEnd ax_web ax_planeTest ax_palette ax_desk zx_nodeBits zx_lineBits v2) (cwV 1 hts (gi4 mw_2_218 mw_2_220 mw_p_26 mw_1_1 mw_2_221) rfl rfl rfl (by decide +kernel) ⟨Nat.le_of_ble_eq_true rfl, Nat.le_of_ble_eq_true rfl⟩) ⟨fb_, va_recv (q0 := 2) (ci := 0) hK hP rfl rfl, pre_ hPc hKc hDc hN⟩ rfl rfl hl.1 rfl (lv_room (Nat.le_of_ble_eq_true rfl)) d_PS_line_10 ⟨Nat.le_of_ble_eq_true rfl, Nat.le_of_ble_eq_true rfl⟩) hS (fun q _ h => hFc q h) hFc (fun r_10 u t H locs ht hvm hp_10 hB hz1 hk1 hS => ?_)
    obtain ⟨hP1, -, hD1⟩ := hB
    rw [ht] at hP1
    obtain ⟨hP, hD⟩ := va_join (wr := [(ax_lessEnd, .inl (kx_lessEnd, 24, .inl zx_lessEnd)), (ax_moreEnd, .inl (kx_moreEnd, 24, .inl zx_moreEnd))]) (w1 := [(ax, .inr (0, [.int zx_nodeBits, .int zx_lineBits, .ref ax_lessEnd, .ref ax_moreEnd, .ref ax_web, .ref ax_planeTest, .ref ax_palette, .ref ax_desk]))]) hP hD [2] [0, 1] rfl rfl (by decide) (by decide) hk1 hFc hP1 hD1
    have hp_10 : r_10 = f_nit zx_nodeBits v2 := hp_10
    subst hp_10
    have hP : va_P (dC, dI) classes [(ax_lessEnd, .inl (kx_lessEnd, 24, .inl zx_lessEnd)), (ax_moreEnd, .inl (kx_moreEnd, 24, .inl zx_moreEnd)), (ax, .inr (0, [.int zx_nodeBits, .int zx_lineBits, .ref ax_lessEnd, .ref ax_moreEnd, .ref ax_web, .ref ax_planeTest, .ref ax_palette, .ref ax_desk]))] H := hP
    have hD : va_D A [(ax_lessEnd, .inl (kx_lessEnd, 24, .inl zx_lessEnd)), (ax_moreEnd, .inl (kx_moreEnd, 24, .inl zx_moreEnd)), (ax, .inr (0, [.int zx_nodeBits, .int zx_lineBits, .ref ax_lessEnd, .ref ax_moreEnd, .ref ax_web, .ref ax_planeTest, .ref ax_palette, .ref ax_desk]))] := hD
    refine lv_if_ne (tgt := 26) hx hb d_PS_line_13 rfl (fun hc_13 => ?_) (fun hc_13 => ?_)
    · skip
      have hI := hI.trans (if_neg hc_13)
      refine lv_iload_n hx hb d_PS_line_26 rfl (lv_at hl 1 rfl) ?_
      refine lv_iload_n hx hb d_PS_line_27 rfl (lv_at hl 2 rfl) ?_
      refine lv_icmp_ne (tgt := 41) hx hb d_PS_line_28 rfl (fun hc_28 => ?_) (fun hc_28 => ?_)
      · skip
        have hI := hI.trans (if_neg hc_28)
        refine lv_aload_n hx hb d_PS_line_41 rfl (lv_at hl 0 rfl) ?_
        obtain ⟨p_42, hg_42, hI⟩ := ob_bd hI
        have hPc := hP.sub (ws' := [(ax, .inr (0, [.int zx_nodeBits, .int zx_lineBits, .ref ax_lessEnd, .ref ax_moreEnd, .ref ax_web, .ref ax_planeTest, .ref ax_palette, .ref ax_desk]))]) [2] rfl
        have hDc := hD.sub (ws' := [(ax, .inr (0, [.int zx_nodeBits, .int zx_lineBits, .ref ax_lessEnd, .ref ax_moreEnd, .ref ax_web, .ref ax_planeTest, .ref ax_palette, .ref ax_desk]))]) [2] (by decide) rfl
        have hKc := hK.sub (tys' := []) [] rfl
        have hFc := va_free (wc := [(ax, .inr (0, [.int zx_nodeBits, .int zx_lineBits, .ref ax_lessEnd, .ref ax_moreEnd, .ref ax_web, .ref ax_planeTest, .ref ax_palette, .ref ax_desk]))]) hD hS hA [2] rfl
        refine va_calli (va_runV (As := []) (rest := []) ⟨hx, hb, hml, hown, hts⟩ (c_freeNumberG l dC dI H.size ax ax_lessEnd ax_moreEnd ax_web ax_planeTest ax_palette ax_desk zx_nodeBits zx_lineBits p_42 hg_42) (cwV 0 hts (gi4 mw_3_14 mw_3_16 mw_p_27 mw_1_1 mw_3_17) rfl rfl rfl (by decide +kernel) ⟨Nat.le_of_ble_eq_true rfl, Nat.le_of_ble_eq_true rfl⟩) ⟨fb_, va_recv (q0 := 2) (ci := 0) hK hP rfl rfl, pre_ hPc hKc hDc hN⟩ rfl rfl hl.1 rfl (lv_room (Nat.le_of_ble_eq_true rfl)) d_PS_line_42 ⟨Nat.le_of_ble_eq_true rfl, Nat.le_of_ble_eq_true rfl⟩) hS (fun q _ h => hFc q h) hFc (fun r_42 u t H locs ht hvm hp_42 hB hz1 hk1 hS => ?_)
        obtain ⟨hP1, -, hD1⟩ := hB
        rw [ht] at hP1
        obtain ⟨hP, hD⟩ := va_join (wr := [(ax_lessEnd, .inl (kx_lessEnd, 24, .inl zx_lessEnd)), (ax_moreEnd, .inl (kx_moreEnd, 24, .inl zx_moreEnd))]) (w1 := [(ax, .inr (0, [.int zx_nodeBits, .int zx_lineBits, .ref ax_lessEnd, .ref ax_moreEnd, .ref ax_web, .ref ax_planeTest, .ref ax_palette, .ref ax_desk]))]) hP hD [2] [0, 1] rfl rfl (by decide) (by decide) hk1 hFc hP1 hD1
        have hp_42 : (r_42) = p_42 := hp_42
        subst hp_42
        have hP : va_P (dC, dI) classes [(ax_lessEnd, .inl (kx_lessEnd, 24, .inl zx_lessEnd)), (ax_moreEnd, .inl (kx_moreEnd, 24, .inl zx_moreEnd)), (ax, .inr (0, [.int zx_nodeBits, .int zx_lineBits, .ref ax_lessEnd, .ref ax_moreEnd, .ref ax_web, .ref ax_planeTest, .ref ax_palette, .ref ax_desk]))] H := hP
        have hD : va_D A [(ax_lessEnd, .inl (kx_lessEnd, 24, .inl zx_lessEnd)), (ax_moreEnd, .inl (kx_moreEnd, 24, .inl zx_moreEnd)), (ax, .inr (0, [.int zx_nodeBits, .int zx_lineBits, .ref ax_lessEnd, .ref ax_moreEnd, .ref ax_web, .ref ax_planeTest, .ref ax_palette, .ref ax_desk]))] := hD
        refine lv_istore_n (lv' := [(3, .int r_42), (0, .ref ax), (1, .int v1), (2, .int v2)]) hx hb d_PS_line_45 rfl hl (by decide) rfl (fun ls hl => ?_)
        refine lv_iload_n hx hb d_PS_line_46 rfl (lv_at hl 0 rfl) ?_
        refine lv_iconst (v := -1) hx hb d_PS_line_47 (by decide) ?_
        refine lv_icmp_eq (tgt := 60) hx hb d_PS_line_48 rfl (fun hc_48 => ?_) (fun hc_48 => ?_)
        · skip
          have hI := hI.trans (if_pos hc_48)
          have hP := hP.sub (ws' := [(ax, .inr (0, [.int zx_nodeBits, .int zx_lineBits, .ref ax_lessEnd, .ref ax_moreEnd, .ref ax_web, .ref ax_planeTest, .ref ax_palette, .ref ax_desk])), (ax_lessEnd, .inl (kx_lessEnd, 24, .inl zx_lessEnd)), (ax_moreEnd, .inl (kx_moreEnd, 24, .inl zx_moreEnd))]) [2, 0, 1] rfl
          have hD := hD.sub (ws' := [(ax, .inr (0, [.int zx_nodeBits, .int zx_lineBits, .ref ax_lessEnd, .ref ax_moreEnd, .ref ax_web, .ref ax_planeTest, .ref ax_palette, .ref ax_desk])), (ax_lessEnd, .inl (kx_lessEnd, 24, .inl zx_lessEnd)), (ax_moreEnd, .inl (kx_moreEnd, 24, .inl zx_moreEnd))]) [2, 0, 1] (by decide) rfl
          obtain ⟨sa, hst0⟩ := h0.2 (R_PS, 97, "no line can come") (by decide +kernel)
          have hok := og_keep hO hlo hAe hS
          exact x_throw (own := R_PS) (cls := "java/lang/IllegalStateException") (text := "no line can come") (names := ["java/lang/RuntimeException", "java/lang/Exception"]) (ik := 66) (is := 97) (ic := 70) (sa := sa) hx hb hfl hown (by decide +kernel) (by decide +kernel) (hts _ (List.mem_cons_of_mem _ mw_2_193)) (hts _ (List.mem_cons_of_mem _ mw_1_11)) (hst0.warm hO.1) (fun s9 hv9 hh9 => thr_at h0 ⟨by rw [hv9]; exact hO.1, by rw [hh9]; exact hok.1, fun q hq => by rw [hh9]; exact hok.2 q hq⟩ (Bundle.ownAtoms R_PS 70 "java/lang/IllegalStateException" ["java/lang/RuntimeException", "java/lang/Exception"]) (List.mem_of_getElem? (i := 1) rfl)) (hl.1.trans hml.symm) d_PS_line_60 d_PS_line_63 d_PS_line_64 d_PS_line_66 d_PS_line_69 hex (Nat.le_of_ble_eq_true rfl) (Nat.le_of_ble_eq_true rfl) (Nat.le_of_ble_eq_true rfl) (Nat.le_of_ble_eq_true rfl) hlocks (fun t ha hz hk => ⟨(zx_lineBits, zx_lessEnd, zx_moreEnd), ⟨Or.inr (Or.inr (⟨rfl, (Option.some.inj hI).symm⟩)), thr_P hP hk, va_K.moved ha hK, hD⟩, thr_F hS hz hk⟩) hS.2.2 (Nat.le_of_ble_eq_true rfl) (Nat.le_of_ble_eq_true rfl)
        · skip
          have hI := hI.trans (if_neg hc_48)
          refine lv_aload_n hx hb d_PS_line_51 rfl (lv_at hl 1 rfl) ?_
          refine lv_iload_n hx hb d_PS_line_52 rfl (lv_at hl 2 rfl) ?_
          refine lv_iload_n hx hb d_PS_line_53 rfl (lv_at hl 3 rfl) ?_
          obtain ⟨p_54, hg_54, hI⟩ := ob_bd hI
          have hPc := hP.sub (ws' := [(ax, .inr (0, [.int zx_nodeBits, .int zx_lineBits, .ref ax_lessEnd, .ref ax_moreEnd, .ref ax_web, .ref ax_planeTest, .ref ax_palette, .ref ax_desk])), (ax_lessEnd, .inl (kx_lessEnd, 24, .inl zx_lessEnd)), (ax_moreEnd, .inl (kx_moreEnd, 24, .inl zx_moreEnd))]) [2, 0, 1] rfl
          have hDc := hD.sub (ws' := [(ax, .inr (0, [.int zx_nodeBits, .int zx_lineBits, .ref ax_lessEnd, .ref ax_moreEnd, .ref ax_web, .ref ax_planeTest, .ref ax_palette, .ref ax_desk])), (ax_lessEnd, .inl (kx_lessEnd, 24, .inl zx_lessEnd)), (ax_moreEnd, .inl (kx_moreEnd, 24, .inl zx_moreEnd))]) [2, 0, 1] (by decide) rfl
          have hKc := hK.sub (tys' := [(kx_lessEnd, .int), (kx_moreEnd, .int)]) [0, 1] rfl
          have hFc := va_free (wc := [(ax, .inr (0, [.int zx_nodeBits, .int zx_lineBits, .ref ax_lessEnd, .ref ax_moreEnd, .ref ax_web, .ref ax_planeTest, .ref ax_palette, .ref ax_desk])), (ax_lessEnd, .inl (kx_lessEnd, 24, .inl zx_lessEnd)), (ax_moreEnd, .inl (kx_moreEnd, 24, .inl zx_moreEnd))]) hD hS hA [2, 0, 1] rfl
          refine va_calli (va_runV (As := [.int v1, .int v2]) (rest := []) ⟨hx, hb, hml, hown, hts⟩ (c_joinedG l dC dI H.size ax ax_lessEnd ax_moreEnd ax_web ax_planeTest ax_palette ax_desk kx_lessEnd kx_moreEnd zx_nodeBits zx_lineBits zx_lessEnd zx_moreEnd v1 v2 p_54 hg_54) (cwV 2 hts (gi4 mw_1_225 mw_1_227 mw_p_11 mw_1_1 mw_1_228) rfl rfl rfl (by decide +kernel) ⟨Nat.le_of_ble_eq_true rfl, Nat.le_of_ble_eq_true rfl⟩) ⟨fb_, va_recv (q0 := 2) (ci := 0) hK hP rfl rfl, pre_ hPc hKc hDc hN⟩ rfl rfl hl.1 rfl (lv_room (Nat.le_of_ble_eq_true rfl)) d_PS_line_54 ⟨Nat.le_of_ble_eq_true rfl, Nat.le_of_ble_eq_true rfl⟩) hS (fun q _ h => hFc q h) hFc (fun r_54 u t H locs ht hvm hp_54 hB hz1 hk1 hS => ?_)
          obtain ⟨hP1, -, hD1⟩ := hB
          rw [ht] at hP1
          obtain ⟨hP, hD⟩ := va_join (wr := []) (w1 := [(ax, .inr (0, [.int zx_nodeBits, .int zx_lineBits, .ref ax_lessEnd, .ref ax_moreEnd, .ref ax_web, .ref ax_planeTest, .ref ax_palette, .ref ax_desk])), (ax_lessEnd, .inl (kx_lessEnd, 24, .inl zx_lessEnd)), (ax_moreEnd, .inl (kx_moreEnd, 24, .inl zx_moreEnd))]) hP hD [2, 0, 1] [] rfl rfl (by decide) (by decide) hk1 hFc hP1 hD1
          obtain ⟨hp_54, hz_54⟩ := hp_54
          have hp_54 : (r_54) = p_54 := hp_54
          subst hp_54
          have hP : va_P (dC, dI) classes [(ax, .inr (0, [.int zx_nodeBits, .int zx_lineBits, .ref ax_lessEnd, .ref ax_moreEnd, .ref ax_web, .ref ax_planeTest, .ref ax_palette, .ref ax_desk])), (ax_lessEnd, .inl (kx_lessEnd, 24, .inl zx_lessEnd)), (ax_moreEnd, .inl (kx_moreEnd, 24, .inl zx_moreEnd))] H := hP
          have hD : va_D A [(ax, .inr (0, [.int zx_nodeBits, .int zx_lineBits, .ref ax_lessEnd, .ref ax_moreEnd, .ref ax_web, .ref ax_planeTest, .ref ax_palette, .ref ax_desk])), (ax_lessEnd, .inl (kx_lessEnd, 24, .inl zx_lessEnd)), (ax_moreEnd, .inl (kx_moreEnd, 24, .inl zx_moreEnd))] := hD
          refine lv_if_eq (tgt := 70) hx hb d_PS_line_57 rfl (fun hc_57 => ?_) (fun hc_57 => ?_)
          · skip
            have hI := hI.trans (if_pos hc_57)
            refine lv_aload_n hx hb d_PS_line_70 rfl (lv_at hl 1 rfl) ?_
            refine va_get (D := (dC, dI)) (ci := 0) (v := .ref ax_lessEnd) (C := R_PS) (T := F_PS) (N := 8) hx hb hts (fun w h => List.mem_cons_of_mem _ (in_PS w h)) hown hK hP 0 rfl rfl 2 (by decide) (hts _ (List.mem_cons_of_mem _ mw_1_98)) (fun _ h9 => h9) rfl d_PS_line_71 ?_
            refine lv_iload_n hx hb d_PS_line_74 rfl (lv_at hl 0 rfl) ?_
            refine lv_iload_n hx hb d_PS_line_75 rfl (lv_at hl 2 rfl) ?_
            refine lv_iload_n hx hb d_PS_line_76 rfl (lv_at hl 3 rfl) ?_
            refine va_mmin hx hb (hml.trans hl.1.symm) hown (hts _ (List.mem_cons_of_mem _ mw_3_19)) (hts _ (List.mem_cons_of_mem _ mw_2_74)) (hts _ (List.mem_cons_of_mem _ mw_1_15)) (hts _ (List.mem_cons_of_mem _ mw_2_75)) (Nat.le_of_ble_eq_true rfl) (Nat.le_of_ble_eq_true rfl) (Nat.le_of_ble_eq_true rfl) (Nat.le_of_ble_eq_true rfl) d_PS_line_77 ?_
            have hi_80 := ob_in hI
            have hI := ob_th hI
            refine va_iast (D := (dC, dI)) hx hb hK hP hD hS 1 0 rfl rfl hi_80 d_PS_line_80 (fun H locs hP hD hS => ?_)
            have hP : va_P (dC, dI) classes [(ax, .inr (0, [.int zx_nodeBits, .int zx_lineBits, .ref ax_lessEnd, .ref ax_moreEnd, .ref ax_web, .ref ax_planeTest, .ref ax_palette, .ref ax_desk])), (ax_lessEnd, .inl (kx_lessEnd, 24, .inl (upd zx_lessEnd (Int32.toNatClampNeg r_42) (if v2 < v1 then v2 else v1)))), (ax_moreEnd, .inl (kx_moreEnd, 24, .inl zx_moreEnd))] H := hP
            have hD : va_D A [(ax, .inr (0, [.int zx_nodeBits, .int zx_lineBits, .ref ax_lessEnd, .ref ax_moreEnd, .ref ax_web, .ref ax_planeTest, .ref ax_palette, .ref ax_desk])), (ax_lessEnd, .inl (kx_lessEnd, 24, .inl (upd zx_lessEnd (Int32.toNatClampNeg r_42) (if v2 < v1 then v2 else v1)))), (ax_moreEnd, .inl (kx_moreEnd, 24, .inl zx_moreEnd))] := hD
            refine lv_aload_n hx hb d_PS_line_81 rfl (lv_at hl 1 rfl) ?_
            refine va_get (D := (dC, dI)) (ci := 0) (v := .ref ax_moreEnd) (C := R_PS) (T := F_PS) (N := 8) hx hb hts (fun w h => List.mem_cons_of_mem _ (in_PS w h)) hown hK hP 0 rfl rfl 3 (by decide) (hts _ (List.mem_cons_of_mem _ mw_1_99)) (fun _ h9 => h9) rfl d_PS_line_82 ?_
            refine lv_iload_n hx hb d_PS_line_85 rfl (lv_at hl 0 rfl) ?_
            refine lv_iload_n hx hb d_PS_line_86 rfl (lv_at hl 2 rfl) ?_
            refine lv_iload_n hx hb d_PS_line_87 rfl (lv_at hl 3 rfl) ?_
            refine va_mmax hx hb (hml.trans hl.1.symm) hown (hts _ (List.mem_cons_of_mem _ mw_3_20)) (hts _ (List.mem_cons_of_mem _ mw_2_45)) (hts _ (List.mem_cons_of_mem _ mw_1_15)) (hts _ (List.mem_cons_of_mem _ mw_2_46)) (Nat.le_of_ble_eq_true rfl) (Nat.le_of_ble_eq_true rfl) (Nat.le_of_ble_eq_true rfl) (Nat.le_of_ble_eq_true rfl) d_PS_line_88 ?_
            refine va_iast (D := (dC, dI)) hx hb hK hP hD hS 2 1 rfl rfl hi_80 d_PS_line_91 (fun H locs hP hD hS => ?_)
            have hP : va_P (dC, dI) classes [(ax, .inr (0, [.int zx_nodeBits, .int zx_lineBits, .ref ax_lessEnd, .ref ax_moreEnd, .ref ax_web, .ref ax_planeTest, .ref ax_palette, .ref ax_desk])), (ax_lessEnd, .inl (kx_lessEnd, 24, .inl (upd zx_lessEnd (Int32.toNatClampNeg r_42) (if v2 < v1 then v2 else v1)))), (ax_moreEnd, .inl (kx_moreEnd, 24, .inl (upd zx_moreEnd (Int32.toNatClampNeg r_42) (if v1 < v2 then v2 else v1))))] H := hP
            have hD : va_D A [(ax, .inr (0, [.int zx_nodeBits, .int zx_lineBits, .ref ax_lessEnd, .ref ax_moreEnd, .ref ax_web, .ref ax_planeTest, .ref ax_palette, .ref ax_desk])), (ax_lessEnd, .inl (kx_lessEnd, 24, .inl (upd zx_lessEnd (Int32.toNatClampNeg r_42) (if v2 < v1 then v2 else v1)))), (ax_moreEnd, .inl (kx_moreEnd, 24, .inl (upd zx_moreEnd (Int32.toNatClampNeg r_42) (if v1 < v2 then v2 else v1))))] := hD
            refine lv_aload_n hx hb d_PS_line_92 rfl (lv_at hl 1 rfl) ?_
            refine lv_dup hx hb d_PS_line_93 rfl ?_
            refine va_get (D := (dC, dI)) (ci := 0) (v := .int zx_lineBits) (C := R_PS) (T := F_PS) (N := 8) hx hb hts (fun w h => List.mem_cons_of_mem _ (in_PS w h)) hown hK hP 0 rfl rfl 1 (by decide) (hts _ (List.mem_cons_of_mem _ mw_1_97)) (fun _ h9 => h9) rfl d_PS_line_94 ?_
            refine lv_iconst (v := 1) hx hb d_PS_line_97 (by decide) ?_
            refine lv_iload_n hx hb d_PS_line_98 rfl (lv_at hl 0 rfl) ?_
            refine lv_ishl hx hb d_PS_line_99 ?_
            refine lv_ior hx hb d_PS_line_100 ?_
            refine va_put (D := (dC, dI)) (ci := 0) (v := .int (zx_lineBits ||| (((1 : Int32)) <<< (r_42 &&& 31)))) (ty := .int) (C := R_PS) (T := F_PS) (N := 8) hx hb hts (fun w h => List.mem_cons_of_mem _ (in_PS w h)) t_PS t_PS_ok n_PS hown hK hP hD hS 0 rfl rfl 1 (by decide) (hts _ (List.mem_cons_of_mem _ mw_1_97)) (fun _ h9 => h9) rfl (by decide +kernel) rfl rfl (Nat.le_of_ble_eq_true rfl) d_PS_line_101 (fun H locs hP hD hS => ?_)
            have hP : va_P (dC, dI) classes [(ax, .inr (0, [.int zx_nodeBits, .int (zx_lineBits ||| (((1 : Int32)) <<< (r_42 &&& 31))), .ref ax_lessEnd, .ref ax_moreEnd, .ref ax_web, .ref ax_planeTest, .ref ax_palette, .ref ax_desk])), (ax_lessEnd, .inl (kx_lessEnd, 24, .inl (upd zx_lessEnd (Int32.toNatClampNeg r_42) (if v2 < v1 then v2 else v1)))), (ax_moreEnd, .inl (kx_moreEnd, 24, .inl (upd zx_moreEnd (Int32.toNatClampNeg r_42) (if v1 < v2 then v2 else v1))))] H := hP
            have hD : va_D A [(ax, .inr (0, [.int zx_nodeBits, .int (zx_lineBits ||| (((1 : Int32)) <<< (r_42 &&& 31))), .ref ax_lessEnd, .ref ax_moreEnd, .ref ax_web, .ref ax_planeTest, .ref ax_palette, .ref ax_desk])), (ax_lessEnd, .inl (kx_lessEnd, 24, .inl (upd zx_lessEnd (Int32.toNatClampNeg r_42) (if v2 < v1 then v2 else v1)))), (ax_moreEnd, .inl (kx_moreEnd, 24, .inl (upd zx_moreEnd (Int32.toNatClampNeg r_42) (if v1 < v2 then v2 else v1))))] := hD
            refine lv_iload_n hx hb d_PS_line_104 rfl (lv_at hl 0 rfl) ?_
            refine x_ret ?_
            refine W.widen (k := 1) (n := 6) (Nat.le_of_ble_eq_true rfl) (Nat.le_of_ble_eq_true rfl) ?_
            exact W.iret (v := r_42) hx hb hr (fun t ht hW => ⟨⟨r_42, (zx_lineBits ||| (((1 : Int32)) <<< (r_42 &&& 31)), upd zx_lessEnd (Int32.toNatClampNeg r_42) (if v2 < v1 then v2 else v1), upd zx_moreEnd (Int32.toNatClampNeg r_42) (if v1 < v2 then v2 else v1)), rfl, (Option.some.inj hI).symm, by rw [ht]; exact hP, va_K.moved hW.alike hK, hD⟩, hS.F ht⟩) hS.2.2 d_PS_line_105
          · skip
            have hI := hI.trans (if_neg hc_57)
            obtain ⟨sa, hst0⟩ := h0.2 (R_PS, 97, "no line can come") (by decide +kernel)
            have hok := og_keep hO hlo hAe hS
            exact x_throw (own := R_PS) (cls := "java/lang/IllegalStateException") (text := "no line can come") (names := ["java/lang/RuntimeException", "java/lang/Exception"]) (ik := 66) (is := 97) (ic := 70) (sa := sa) hx hb hfl hown (by decide +kernel) (by decide +kernel) (hts _ (List.mem_cons_of_mem _ mw_2_193)) (hts _ (List.mem_cons_of_mem _ mw_1_11)) (hst0.warm hO.1) (fun s9 hv9 hh9 => thr_at h0 ⟨by rw [hv9]; exact hO.1, by rw [hh9]; exact hok.1, fun q hq => by rw [hh9]; exact hok.2 q hq⟩ (Bundle.ownAtoms R_PS 70 "java/lang/IllegalStateException" ["java/lang/RuntimeException", "java/lang/Exception"]) (List.mem_of_getElem? (i := 1) rfl)) (hl.1.trans hml.symm) d_PS_line_60 d_PS_line_63 d_PS_line_64 d_PS_line_66 d_PS_line_69 hex (Nat.le_of_ble_eq_true rfl) (Nat.le_of_ble_eq_true rfl) (Nat.le_of_ble_eq_true rfl) (Nat.le_of_ble_eq_true rfl) hlocks (fun t ha hz hk => ⟨(zx_lineBits, zx_lessEnd, zx_moreEnd), ⟨Or.inr (Or.inr (⟨rfl, (Option.some.inj hI).symm⟩)), thr_P hP hk, va_K.moved ha hK, hD⟩, thr_F hS hz hk⟩) hS.2.2 (Nat.le_of_ble_eq_true rfl) (Nat.le_of_ble_eq_true rfl)
      · skip
        have hI := hI.trans (if_pos hc_28)
        have hP := hP.sub (ws' := [(ax, .inr (0, [.int zx_nodeBits, .int zx_lineBits, .ref ax_lessEnd, .ref ax_moreEnd, .ref ax_web, .ref ax_planeTest, .ref ax_palette, .ref ax_desk])), (ax_lessEnd, .inl (kx_lessEnd, 24, .inl zx_lessEnd)), (ax_moreEnd, .inl (kx_moreEnd, 24, .inl zx_moreEnd))]) [2, 0, 1] rfl
        have hD := hD.sub (ws' := [(ax, .inr (0, [.int zx_nodeBits, .int zx_lineBits, .ref ax_lessEnd, .ref ax_moreEnd, .ref ax_web, .ref ax_planeTest, .ref ax_palette, .ref ax_desk])), (ax_lessEnd, .inl (kx_lessEnd, 24, .inl zx_lessEnd)), (ax_moreEnd, .inl (kx_moreEnd, 24, .inl zx_moreEnd))]) [2, 0, 1] (by decide) rfl
        obtain ⟨sa, hst0⟩ := h0.2 (R_PS, 87, "the nodes are the same") (by decide +kernel)
        have hok := og_keep hO hlo hAe hS
        exact x_throw (own := R_PS) (cls := "java/lang/IllegalArgumentException") (text := "the nodes are the same") (names := ["java/lang/RuntimeException", "java/lang/Exception"]) (ik := 85) (is := 87) (ic := 89) (sa := sa) hx hb hfl hown (by decide +kernel) (by decide +kernel) (hts _ (List.mem_cons_of_mem _ mw_2_238)) (hts _ (List.mem_cons_of_mem _ mw_1_14)) (hst0.warm hO.1) (fun s9 hv9 hh9 => thr_at h0 ⟨by rw [hv9]; exact hO.1, by rw [hh9]; exact hok.1, fun q hq => by rw [hh9]; exact hok.2 q hq⟩ (Bundle.ownAtoms R_PS 89 "java/lang/IllegalArgumentException" ["java/lang/RuntimeException", "java/lang/Exception"]) (List.mem_of_getElem? (i := 3) rfl)) (hl.1.trans hml.symm) d_PS_line_31 d_PS_line_34 d_PS_line_35 d_PS_line_37 d_PS_line_40 hex (Nat.le_of_ble_eq_true rfl) (Nat.le_of_ble_eq_true rfl) (Nat.le_of_ble_eq_true rfl) (Nat.le_of_ble_eq_true rfl) hlocks (fun t ha hz hk => ⟨(zx_lineBits, zx_lessEnd, zx_moreEnd), ⟨Or.inr (Or.inl ⟨rfl, (Option.some.inj hI).symm⟩), thr_P hP hk, va_K.moved ha hK, hD⟩, thr_F hS hz hk⟩) hS.2.2 (Nat.le_of_ble_eq_true rfl) (Nat.le_of_ble_eq_true rfl)
    · skip
      have hI := hI.trans (if_pos hc_13)
      have hP := hP.sub (ws' := [(ax, .inr (0, [.int zx_nodeBits, .int zx_lineBits, .ref ax_lessEnd, .ref ax_moreEnd, .ref ax_web, .ref ax_planeTest, .ref ax_palette, .ref ax_desk])), (ax_lessEnd, .inl (kx_lessEnd, 24, .inl zx_lessEnd)), (ax_moreEnd, .inl (kx_moreEnd, 24, .inl zx_moreEnd))]) [2, 0, 1] rfl
      have hD := hD.sub (ws' := [(ax, .inr (0, [.int zx_nodeBits, .int zx_lineBits, .ref ax_lessEnd, .ref ax_moreEnd, .ref ax_web, .ref ax_planeTest, .ref ax_palette, .ref ax_desk])), (ax_lessEnd, .inl (kx_lessEnd, 24, .inl zx_lessEnd)), (ax_moreEnd, .inl (kx_moreEnd, 24, .inl zx_moreEnd))]) [2, 0, 1] (by decide) rfl
      obtain ⟨sa, hst0⟩ := h0.2 (R_PS, 82, "a node is not there") (by decide +kernel)
      have hok := og_keep hO hlo hAe hS
      exact x_throwN (own := R_PS) (cls := "java/util/NoSuchElementException") (text := "a node is not there") (ik := 80) (is := 82) (ic := 84) (sa := sa) hx hb hfl hown (by decide +kernel) (hts _ (List.mem_cons_of_mem _ mw_2_222)) (hts _ (List.mem_cons_of_mem _ mw_1_13)) (hst0.warm hO.1) (fun s9 hv9 hh9 => thr_at h0 ⟨by rw [hv9]; exact hO.1, by rw [hh9]; exact hok.1, fun q hq => by rw [hh9]; exact hok.2 q hq⟩ (nsAtoms R_PS 84 "java/util/NoSuchElementException") (List.mem_of_getElem? (i := 2) rfl)) (hl.1.trans hml.symm) d_PS_line_16 d_PS_line_19 d_PS_line_20 d_PS_line_22 d_PS_line_25 hex (Nat.le_of_ble_eq_true rfl) (Nat.le_of_ble_eq_true rfl) (Nat.le_of_ble_eq_true rfl) (Nat.le_of_ble_eq_true rfl) hlocks (fun t ha hz hk => ⟨(zx_lineBits, zx_lessEnd, zx_moreEnd), ⟨Or.inl ⟨rfl, (Option.some.inj hI).symm⟩, thr_P hP hk, va_K.moved ha hK, hD⟩, thr_F hS hz hk⟩) hS.2.2 (Nat.le_of_ble_eq_true rfl) (Nat.le_of_ble_eq_true rfl)
set_option maxHeartbeats 4000000 in
set_option maxRecDepth 100000 in
theorem c_cutT (l : Launch) (hfl : l.stackTraces = false) (s0 : State) (h0 : T0 s0) (dC : Nat → ClassId) (dI : Nat → Nat → Nat) (sz : Nat) (ax ax_lessEnd ax_moreEnd ax_web ax_planeTest ax_palette ax_desk : Nat) (zx_nodeBits : Int32) (zx_lineBits : Int32) (v1 : Int32) (R : Nat × Int32 × Int32) (hR : F_cutT zx_lineBits v1 = some R) : xMet l y_PS_cut w_PS_cut ({ frames := 6, cells := 1, slots := 6, locals := 90 }) (PreX_ s0 dC dI sz [.ref ax, .int v1] [(ax, .inr (0, [.int zx_nodeBits, .int zx_lineBits, .ref ax_lessEnd, .ref ax_moreEnd, .ref ax_web, .ref ax_planeTest, .ref ax_palette, .ref ax_desk]))] []) (va_Qi (fun (r : Int32) (u : Int32) => ((0 : Nat), r, u) = R) (fun u t => End_ dC dI (va_A [(ax, .inr (0, [.int zx_nodeBits, .int zx_lineBits, .ref ax_lessEnd, .ref ax_moreEnd, .ref ax_web, .ref ax_planeTest, .ref ax_palette, .ref ax_desk]))] sz) [] [(ax, .inr (0, [.int zx_nodeBits, .int u, .ref ax_lessEnd, .ref ax_moreEnd, .ref ax_web, .ref ax_planeTest, .ref ax_palette, .ref ax_desk]))] t) (va_A [(ax, .inr (0, [.int zx_nodeBits, .int zx_lineBits, .ref ax_lessEnd, .ref ax_moreEnd, .ref ax_web, .ref ax_planeTest, .ref ax_palette, .ref ax_desk]))] sz)) (xX (fun E (u : Int32) t => ((E = "java/util/NoSuchElementException" ∧ ((3 : Nat), (0 : Int32), u) = R)) ∧ End_ dC dI (va_A [(ax, .inr (0, [.int zx_nodeBits, .int zx_lineBits, .ref ax_lessEnd, .ref ax_moreEnd, .ref ax_web, .ref ax_planeTest, .ref ax_palette, .ref ax_desk]))] sz) [] [(ax, .inr (0, [.int zx_nodeBits, .int u, .ref ax_lessEnd, .ref ax_moreEnd, .ref ax_web, .ref ax_planeTest, .ref ax_palette, .ref ax_desk]))] t) (va_A [(ax, .inr (0, [.int zx_nodeBits, .int zx_lineBits, .ref ax_lessEnd, .ref ax_moreEnd, .ref ax_web, .ref ax_planeTest, .ref ax_palette, .ref ax_desk]))] sz)) 1 6 (va_A [(ax, .inr (0, [.int zx_nodeBits, .int zx_lineBits, .ref ax_lessEnd, .ref ax_moreEnd, .ref ax_web, .ref ax_planeTest, .ref ax_palette, .ref ax_desk]))] sz) := by
  refine xMet.ofW (cc := b_PS_cut) (maxL := 2) (ret := (some .int)) (by decide) rfl ?_
  intro p e s m args below meth c s₁ B hml hex hv
  obtain ⟨hargs9, hsz9, hP9, hK9, hD9, hN9, hO, hlo⟩ := hv
  have hv : Pre_ dC dI sz [.ref ax, .int v1] [(ax, .inr (0, [.int zx_nodeBits, .int zx_lineBits, .ref ax_lessEnd, .ref ax_moreEnd, .ref ax_web, .ref ax_planeTest, .ref ax_palette, .ref ax_desk]))] [] args s := ⟨hargs9, hsz9, hP9, hK9, hD9, hN9⟩
  have lo_x : s0.heap.size ≤ ax := hlo (ax, .inr (0, [.int zx_nodeBits, .int zx_lineBits, .ref ax_lessEnd, .ref ax_moreEnd, .ref ax_web, .ref ax_planeTest, .ref ax_palette, .ref ax_desk])) (List.mem_of_getElem? (i := 0) rfl)
  obtain ⟨hargs, hsz, hP, hK, hD0, hN⟩ := hv
  have hx := B.exec
  have hb := B.bytes
  have hr := B.returns
  have hts := atoms_spec (ws := w_PS_cut) B.pre
  have hown : s.vm.findClass R_PS = some m.cls := findClass_of_methodNamed B.named
  have hlocks := B.notSynchronized
  subst hsz
  have hD := hD0.self (sz := s.heap.size)
  generalize hAe : va_A [(ax, .inr (0, [.int zx_nodeBits, .int zx_lineBits, .ref ax_lessEnd, .ref ax_moreEnd, .ref ax_web, .ref ax_planeTest, .ref ax_palette, .ref ax_desk]))] s.heap.size = A at hD ⊢
  have hA : ∀ q : Nat, s.heap.size ≤ q → A q := fun q h => by rw [← hAe]; exact Or.inr h
  have hS : va_S A s.heap s.heap [] := va_S.rf
  have hl := lv_entry ([.ref ax, .int v1]) (n := 2) (Nat.le_of_ble_eq_true rfl)
  refine W.eq (congrArg (fun a => entryFrame m a 2) hargs) ?_
  rw [lg_entry_eq]
  generalize (lg_sl ([.ref ax, .int v1]) ++ List.replicate (2 - (lg_sl ([.ref ax, .int v1])).length) Slot.unset).toArray = ls at hl ⊢
  have hl : lv_has ls 2 [(0, .ref ax), (1, .int v1)] := hl
  generalize hH0 : ([] : List Loc) = locs at hS ⊢
  have hI := hR.symm
  rw [F_cutT] at hI
  refine lv_aload_n hx hb d_PS_cut_0 rfl (lv_at hl 0 rfl) ?_
  refine lv_iload_n hx hb d_PS_cut_1 rfl (lv_at hl 1 rfl) ?_
  have hPc := hP.sub (ws' := [(ax, .inr (0, [.int zx_nodeBits, .int zx_lineBits, .ref ax_lessEnd, .ref ax_moreEnd, .ref ax_web, .ref ax_planeTest, .ref ax_palette, .ref ax_desk]))]) [0] rfl
  have hDc := hD.sub (ws' := [(ax, .inr (0, [.int zx_nodeBits, .int zx_lineBits, .ref ax_lessEnd, .ref ax_moreEnd, .ref ax_web, .ref ax_planeTest, .ref ax_palette, .ref ax_desk]))]) [0] (by decide) rfl
  have hKc := hK.sub (tys' := []) [] rfl
  have hFc := va_free (wc := [(ax, .inr (0, [.int zx_nodeBits, .int zx_lineBits, .ref ax_lessEnd, .ref ax_moreEnd, .ref ax_web, .ref ax_planeTest, .ref ax_palette, .ref ax_desk]))]) hD hS hA [0] rfl
  refine va_calli (va_runV (As := [.int v1]) (rest := []) ⟨hx, hb, hml, hown, hts⟩ (c_lineIsThere l dC dI s.heap.size ax ax_lessEnd ax_moreEnd ax_web ax_planeTest ax_palette ax_desk zx_nodeBits zx_lineBits v1) (cwV 1 hts (gi4 mw_3_28 mw_3_30 mw_p_28 mw_1_1 mw_3_31) rfl rfl rfl (by decide +kernel) ⟨Nat.le_of_ble_eq_true rfl, Nat.le_of_ble_eq_true rfl⟩) ⟨fb_, va_recv (q0 := 0) (ci := 0) hK hP rfl rfl, pre_ hPc hKc hDc hN⟩ rfl rfl hl.1 rfl (lv_room (Nat.le_of_ble_eq_true rfl)) d_PS_cut_2 ⟨Nat.le_of_ble_eq_true rfl, Nat.le_of_ble_eq_true rfl⟩) hS (fun q _ h => hFc q h) hFc (fun r_2 u t H locs ht hvm hp_2 hB hz1 hk1 hS => ?_)
  obtain ⟨hP1, -, hD1⟩ := hB
  rw [ht] at hP1
  obtain ⟨hP, hD⟩ := va_join (wr := []) (w1 := [(ax, .inr (0, [.int zx_nodeBits, .int zx_lineBits, .ref ax_lessEnd, .ref ax_moreEnd, .ref ax_web, .ref ax_planeTest, .ref ax_palette, .ref ax_desk]))]) hP hD [0] [] rfl rfl (by decide) (by decide) hk1 hFc hP1 hD1
  have hp_2 : r_2 = f_lit zx_lineBits v1 := hp_2
  subst hp_2
  have hP : va_P (dC, dI) classes [(ax, .inr (0, [.int zx_nodeBits, .int zx_lineBits, .ref ax_lessEnd, .ref ax_moreEnd, .ref ax_web, .ref ax_planeTest, .ref ax_palette, .ref ax_desk]))] H := hP
  have hD : va_D A [(ax, .inr (0, [.int zx_nodeBits, .int zx_lineBits, .ref ax_lessEnd, .ref ax_moreEnd, .ref ax_web, .ref ax_planeTest, .ref ax_palette, .ref ax_desk]))] := hD
  refine lv_if_ne (tgt := 18) hx hb d_PS_cut_5 rfl (fun hc_5 => ?_) (fun hc_5 => ?_)
  · skip
    have hI := hI.trans (if_neg hc_5)
    refine lv_aload_n hx hb d_PS_cut_18 rfl (lv_at hl 0 rfl) ?_
    refine lv_dup hx hb d_PS_cut_19 rfl ?_
    refine va_get (D := (dC, dI)) (ci := 0) (v := .int zx_lineBits) (C := R_PS) (T := F_PS) (N := 8) hx hb hts (fun w h => List.mem_cons_of_mem _ (in_PS w h)) hown hK hP 0 rfl rfl 1 (by decide) (hts _ (List.mem_cons_of_mem _ mw_1_97)) (fun _ h9 => h9) rfl d_PS_cut_20 ?_
    refine lv_iconst (v := 1) hx hb d_PS_cut_23 (by decide) ?_
    refine lv_iload_n hx hb d_PS_cut_24 rfl (lv_at hl 1 rfl) ?_
    refine lv_ishl hx hb d_PS_cut_25 ?_
    refine lv_iconst (v := -1) hx hb d_PS_cut_26 (by decide) ?_
    refine lv_ixor hx hb d_PS_cut_27 ?_
    refine lv_iand hx hb d_PS_cut_28 ?_
    refine va_put (D := (dC, dI)) (ci := 0) (v := .int (zx_lineBits &&& ((((1 : Int32)) <<< (v1 &&& 31)) ^^^ ((-1))))) (ty := .int) (C := R_PS) (T := F_PS) (N := 8) hx hb hts (fun w h => List.mem_cons_of_mem _ (in_PS w h)) t_PS t_PS_ok n_PS hown hK hP hD hS 0 rfl rfl 1 (by decide) (hts _ (List.mem_cons_of_mem _ mw_1_97)) (fun _ h9 => h9) rfl (by decide +kernel) rfl rfl (Nat.le_of_ble_eq_true rfl) d_PS_cut_29 (fun H locs hP hD hS => ?_)
    have hP : va_P (dC, dI) classes [(ax, .inr (0, [.int zx_nodeBits, .int (zx_lineBits &&& ((((1 : Int32)) <<< (v1 &&& 31)) ^^^ ((-1)))), .ref ax_lessEnd, .ref ax_moreEnd, .ref ax_web, .ref ax_planeTest, .ref ax_palette, .ref ax_desk]))] H := hP
    have hD : va_D A [(ax, .inr (0, [.int zx_nodeBits, .int (zx_lineBits &&& ((((1 : Int32)) <<< (v1 &&& 31)) ^^^ ((-1)))), .ref ax_lessEnd, .ref ax_moreEnd, .ref ax_web, .ref ax_planeTest, .ref ax_palette, .ref ax_desk]))] := hD
    refine lv_aload_n hx hb d_PS_cut_32 rfl (lv_at hl 0 rfl) ?_
    refine va_get (D := (dC, dI)) (ci := 0) (v := .int (zx_lineBits &&& ((((1 : Int32)) <<< (v1 &&& 31)) ^^^ ((-1))))) (C := R_PS) (T := F_PS) (N := 8) hx hb hts (fun w h => List.mem_cons_of_mem _ (in_PS w h)) hown hK hP 0 rfl rfl 1 (by decide) (hts _ (List.mem_cons_of_mem _ mw_1_97)) (fun _ h9 => h9) rfl d_PS_cut_33 ?_
    have hPc := hP.sub (ws' := []) [] rfl
    have hDc := hD.sub (ws' := []) [] (by decide) rfl
    have hKc := hK.sub (tys' := []) [] rfl
    have hFc := va_free (wc := []) hD hS hA [] rfl
    refine va_calli (va_runS (As := [.int (zx_lineBits &&& ((((1 : Int32)) <<< (v1 &&& 31)) ^^^ ((-1))))]) (rest := []) ⟨hx, hb, hml, hown, hts⟩ (c_bitCount l dC dI H.size (zx_lineBits &&& ((((1 : Int32)) <<< (v1 &&& 31)) ^^^ ((-1))))) (va_cwS 1 hts (gi3 mw_1_216 mw_1_164 mw_1_12 mw_1_165) rfl rfl rfl (by decide +kernel) ⟨Nat.le_of_ble_eq_true rfl, Nat.le_of_ble_eq_true rfl⟩) ⟨fb_, pre_ hPc hKc hDc hN⟩ rfl rfl hl.1 rfl (lv_room (Nat.le_of_ble_eq_true rfl)) d_PS_cut_36 ⟨Nat.le_of_ble_eq_true rfl, Nat.le_of_ble_eq_true rfl⟩) hS (fun q _ h => hFc q h) hFc (fun r_36 u t H locs ht hvm hp_36 hB hz1 hk1 hS => ?_)
    obtain ⟨hP1, -, hD1⟩ := hB
    rw [ht] at hP1
    obtain ⟨hP, hD⟩ := va_join (wr := [(ax, .inr (0, [.int zx_nodeBits, .int (zx_lineBits &&& ((((1 : Int32)) <<< (v1 &&& 31)) ^^^ ((-1)))), .ref ax_lessEnd, .ref ax_moreEnd, .ref ax_web, .ref ax_planeTest, .ref ax_palette, .ref ax_desk]))]) (w1 := []) hP hD [] [0] rfl rfl (by decide) (by decide) hk1 hFc hP1 hD1
    have hp_36 : r_36 = f_bc (zx_lineBits &&& ((((1 : Int32)) <<< (v1 &&& 31)) ^^^ ((-1)))) := hp_36
    subst hp_36
    have hP : va_P (dC, dI) classes [(ax, .inr (0, [.int zx_nodeBits, .int (zx_lineBits &&& ((((1 : Int32)) <<< (v1 &&& 31)) ^^^ ((-1)))), .ref ax_lessEnd, .ref ax_moreEnd, .ref ax_web, .ref ax_planeTest, .ref ax_palette, .ref ax_desk]))] H := hP
    have hD : va_D A [(ax, .inr (0, [.int zx_nodeBits, .int (zx_lineBits &&& ((((1 : Int32)) <<< (v1 &&& 31)) ^^^ ((-1)))), .ref ax_lessEnd, .ref ax_moreEnd, .ref ax_web, .ref ax_planeTest, .ref ax_palette, .ref ax_desk]))] := hD
    refine x_ret ?_
    refine W.widen (k := 1) (n := 6) (Nat.le_of_ble_eq_true rfl) (Nat.le_of_ble_eq_true rfl) ?_
    exact W.iret (v := f_bc (zx_lineBits &&& ((((1 : Int32)) <<< (v1 &&& 31)) ^^^ ((-1))))) hx hb hr (fun t ht hW => ⟨⟨f_bc (zx_lineBits &&& ((((1 : Int32)) <<< (v1 &&& 31)) ^^^ ((-1)))), (zx_lineBits &&& ((((1 : Int32)) <<< (v1 &&& 31)) ^^^ ((-1)))), rfl, (Option.some.inj hI).symm, by rw [ht]; exact hP, va_K.moved hW.alike hK, hD⟩, hS.F ht⟩) hS.2.2 d_PS_cut_39
  · skip
    have hI := hI.trans (if_pos hc_5)
    obtain ⟨sa, hst0⟩ := h0.2 (R_PS, 111, "the line is not there") (by decide +kernel)
    have hok := og_keep hO hlo hAe hS
    exact x_throwN (own := R_PS) (cls := "java/util/NoSuchElementException") (text := "the line is not there") (ik := 80) (is := 111) (ic := 84) (sa := sa) hx hb hfl hown (by decide +kernel) (hts _ (List.mem_cons_of_mem _ mw_2_222)) (hts _ (List.mem_cons_of_mem _ mw_1_13)) (hst0.warm hO.1) (fun s9 hv9 hh9 => thr_at h0 ⟨by rw [hv9]; exact hO.1, by rw [hh9]; exact hok.1, fun q hq => by rw [hh9]; exact hok.2 q hq⟩ (nsAtoms R_PS 84 "java/util/NoSuchElementException") (List.mem_of_getElem? (i := 2) rfl)) (hl.1.trans hml.symm) d_PS_cut_8 d_PS_cut_11 d_PS_cut_12 d_PS_cut_14 d_PS_cut_17 hex (Nat.le_of_ble_eq_true rfl) (Nat.le_of_ble_eq_true rfl) (Nat.le_of_ble_eq_true rfl) (Nat.le_of_ble_eq_true rfl) hlocks (fun t ha hz hk => ⟨(zx_lineBits), ⟨⟨rfl, (Option.some.inj hI).symm⟩, thr_P hP hk, va_K.moved ha hK, hD⟩, thr_F hS hz hk⟩) hS.2.2 (Nat.le_of_ble_eq_true rfl) (Nat.le_of_ble_eq_true rfl)
set_option maxHeartbeats 4000000 in
set_option maxRecDepth 100000 in
theorem c_dropT (l : Launch) (hfl : l.stackTraces = false) (s0 : State) (h0 : T0 s0) (dC : Nat → ClassId) (dI : Nat → Nat → Nat) (sz : Nat) (ax ax_lessEnd ax_moreEnd ax_web ax_planeTest ax_palette ax_desk : Nat) (kx_lessEnd kx_moreEnd : ClassId) (zx_nodeBits : Int32) (zx_lineBits : Int32) (zx_lessEnd : Nat → Int32) (zx_moreEnd : Nat → Int32) (v1 : Int32) (R : Nat × Int32 × Int32 × Int32) (hR : F_dropT zx_nodeBits zx_lineBits zx_lessEnd zx_moreEnd v1 = some R) : xMet l y_PS_drop w_PS_drop ({ frames := 6, cells := 1, slots := 6, locals := 90 }) (PreX_ s0 dC dI sz [.ref ax, .int v1] [(ax, .inr (0, [.int zx_nodeBits, .int zx_lineBits, .ref ax_lessEnd, .ref ax_moreEnd, .ref ax_web, .ref ax_planeTest, .ref ax_palette, .ref ax_desk])), (ax_lessEnd, .inl (kx_lessEnd, 24, .inl zx_lessEnd)), (ax_moreEnd, .inl (kx_moreEnd, 24, .inl zx_moreEnd))] [(kx_lessEnd, .int), (kx_moreEnd, .int)]) (va_Qi (fun (r : Int32) (u : Int32 × Int32) => ((0 : Nat), r, u) = R) (fun u t => End_ dC dI (va_A [(ax, .inr (0, [.int zx_nodeBits, .int zx_lineBits, .ref ax_lessEnd, .ref ax_moreEnd, .ref ax_web, .ref ax_planeTest, .ref ax_palette, .ref ax_desk])), (ax_lessEnd, .inl (kx_lessEnd, 24, .inl zx_lessEnd)), (ax_moreEnd, .inl (kx_moreEnd, 24, .inl zx_moreEnd))] sz) [(kx_lessEnd, .int), (kx_moreEnd, .int)] [(ax, .inr (0, [.int u.1, .int u.2, .ref ax_lessEnd, .ref ax_moreEnd, .ref ax_web, .ref ax_planeTest, .ref ax_palette, .ref ax_desk])), (ax_lessEnd, .inl (kx_lessEnd, 24, .inl zx_lessEnd)), (ax_moreEnd, .inl (kx_moreEnd, 24, .inl zx_moreEnd))] t) (va_A [(ax, .inr (0, [.int zx_nodeBits, .int zx_lineBits, .ref ax_lessEnd, .ref ax_moreEnd, .ref ax_web, .ref ax_planeTest, .ref ax_palette, .ref ax_desk])), (ax_lessEnd, .inl (kx_lessEnd, 24, .inl zx_lessEnd)), (ax_moreEnd, .inl (kx_moreEnd, 24, .inl zx_moreEnd))] sz)) (xX (fun E (u : Int32 × Int32) t => ((E = "java/util/NoSuchElementException" ∧ ((3 : Nat), (0 : Int32), u) = R)) ∧ End_ dC dI (va_A [(ax, .inr (0, [.int zx_nodeBits, .int zx_lineBits, .ref ax_lessEnd, .ref ax_moreEnd, .ref ax_web, .ref ax_planeTest, .ref ax_palette, .ref ax_desk])), (ax_lessEnd, .inl (kx_lessEnd, 24, .inl zx_lessEnd)), (ax_moreEnd, .inl (kx_moreEnd, 24, .inl zx_moreEnd))] sz) [(kx_lessEnd, .int), (kx_moreEnd, .int)] [(ax, .inr (0, [.int u.1, .int u.2, .ref ax_lessEnd, .ref ax_moreEnd, .ref ax_web, .ref ax_planeTest, .ref ax_palette, .ref ax_desk])), (ax_lessEnd, .inl (kx_lessEnd, 24, .inl zx_lessEnd)), (ax_moreEnd, .inl (kx_moreEnd, 24, .inl zx_moreEnd))] t) (va_A [(ax, .inr (0, [.int zx_nodeBits, .int zx_lineBits, .ref ax_lessEnd, .ref ax_moreEnd, .ref ax_web, .ref ax_planeTest, .ref ax_palette, .ref ax_desk])), (ax_lessEnd, .inl (kx_lessEnd, 24, .inl zx_lessEnd)), (ax_moreEnd, .inl (kx_moreEnd, 24, .inl zx_moreEnd))] sz)) 1 6 (va_A [(ax, .inr (0, [.int zx_nodeBits, .int zx_lineBits, .ref ax_lessEnd, .ref ax_moreEnd, .ref ax_web, .ref ax_planeTest, .ref ax_palette, .ref ax_desk])), (ax_lessEnd, .inl (kx_lessEnd, 24, .inl zx_lessEnd)), (ax_moreEnd, .inl (kx_moreEnd, 24, .inl zx_moreEnd))] sz) := by
  refine xMet.ofW (cc := b_PS_drop) (maxL := 3) (ret := (some .int)) (by decide) rfl ?_
  intro p e s m args below meth c s₁ B hml hex hv
  obtain ⟨hargs9, hsz9, hP9, hK9, hD9, hN9, hO, hlo⟩ := hv
  have hv : Pre_ dC dI sz [.ref ax, .int v1] [(ax, .inr (0, [.int zx_nodeBits, .int zx_lineBits, .ref ax_lessEnd, .ref ax_moreEnd, .ref ax_web, .ref ax_planeTest, .ref ax_palette, .ref ax_desk])), (ax_lessEnd, .inl (kx_lessEnd, 24, .inl zx_lessEnd)), (ax_moreEnd, .inl (kx_moreEnd, 24, .inl zx_moreEnd))] [(kx_lessEnd, .int), (kx_moreEnd, .int)] args s := ⟨hargs9, hsz9, hP9, hK9, hD9, hN9⟩
  have lo_x : s0.heap.size ≤ ax := hlo (ax, .inr (0, [.int zx_nodeBits, .int zx_lineBits, .ref ax_lessEnd, .ref ax_moreEnd, .ref ax_web, .ref ax_planeTest, .ref ax_palette, .ref ax_desk])) (List.mem_of_getElem? (i := 0) rfl)
  have lo_x_lessEnd : s0.heap.size ≤ ax_lessEnd := hlo (ax_lessEnd, .inl (kx_lessEnd, 24, .inl zx_lessEnd)) (List.mem_of_getElem? (i := 1) rfl)
  have lo_x_moreEnd : s0.heap.size ≤ ax_moreEnd := hlo (ax_moreEnd, .inl (kx_moreEnd, 24, .inl zx_moreEnd)) (List.mem_of_getElem? (i := 2) rfl)
  obtain ⟨hargs, hsz, hP, hK, hD0, hN⟩ := hv
  have hx := B.exec
  have hb := B.bytes
  have hr := B.returns
  have hts := atoms_spec (ws := w_PS_drop) B.pre
  have hown : s.vm.findClass R_PS = some m.cls := findClass_of_methodNamed B.named
  have hlocks := B.notSynchronized
  subst hsz
  have hD := hD0.self (sz := s.heap.size)
  generalize hAe : va_A [(ax, .inr (0, [.int zx_nodeBits, .int zx_lineBits, .ref ax_lessEnd, .ref ax_moreEnd, .ref ax_web, .ref ax_planeTest, .ref ax_palette, .ref ax_desk])), (ax_lessEnd, .inl (kx_lessEnd, 24, .inl zx_lessEnd)), (ax_moreEnd, .inl (kx_moreEnd, 24, .inl zx_moreEnd))] s.heap.size = A at hD ⊢
  have hA : ∀ q : Nat, s.heap.size ≤ q → A q := fun q h => by rw [← hAe]; exact Or.inr h
  have hS : va_S A s.heap s.heap [] := va_S.rf
  have hl := lv_entry ([.ref ax, .int v1]) (n := 3) (Nat.le_of_ble_eq_true rfl)
  refine W.eq (congrArg (fun a => entryFrame m a 3) hargs) ?_
  rw [lg_entry_eq]
  generalize (lg_sl ([.ref ax, .int v1]) ++ List.replicate (3 - (lg_sl ([.ref ax, .int v1])).length) Slot.unset).toArray = ls at hl ⊢
  have hl : lv_has ls 3 [(0, .ref ax), (1, .int v1)] := hl
  generalize hH0 : ([] : List Loc) = locs at hS ⊢
  have hI := hR.symm
  rw [F_dropT] at hI
  refine lv_aload_n hx hb d_PS_drop_0 rfl (lv_at hl 0 rfl) ?_
  refine lv_iload_n hx hb d_PS_drop_1 rfl (lv_at hl 1 rfl) ?_
  have hPc := hP.sub (ws' := [(ax, .inr (0, [.int zx_nodeBits, .int zx_lineBits, .ref ax_lessEnd, .ref ax_moreEnd, .ref ax_web, .ref ax_planeTest, .ref ax_palette, .ref ax_desk]))]) [0] rfl
  have hDc := hD.sub (ws' := [(ax, .inr (0, [.int zx_nodeBits, .int zx_lineBits, .ref ax_lessEnd, .ref ax_moreEnd, .ref ax_web, .ref ax_planeTest, .ref ax_palette, .ref ax_desk]))]) [0] (by decide) rfl
  have hKc := hK.sub (tys' := []) [] rfl
  have hFc := va_free (wc := [(ax, .inr (0, [.int zx_nodeBits, .int zx_lineBits, .ref ax_lessEnd, .ref ax_moreEnd, .ref ax_web, .ref ax_planeTest, .ref ax_palette, .ref ax_desk]))]) hD hS hA [0] rfl
  refine va_calli (va_runV (As := [.int v1]) (rest := []) ⟨hx, hb, hml, hown, hts⟩ (c_nodeIsThere l dC dI s.heap.size ax ax_lessEnd ax_moreEnd ax_web ax_planeTest ax_palette ax_desk zx_nodeBits zx_lineBits v1) (cwV 1 hts (gi4 mw_2_218 mw_2_220 mw_p_26 mw_1_1 mw_2_221) rfl rfl rfl (by decide +kernel) ⟨Nat.le_of_ble_eq_true rfl, Nat.le_of_ble_eq_true rfl⟩) ⟨fb_, va_recv (q0 := 0) (ci := 0) hK hP rfl rfl, pre_ hPc hKc hDc hN⟩ rfl rfl hl.1 rfl (lv_room (Nat.le_of_ble_eq_true rfl)) d_PS_drop_2 ⟨Nat.le_of_ble_eq_true rfl, Nat.le_of_ble_eq_true rfl⟩) hS (fun q _ h => hFc q h) hFc (fun r_2 u t H locs ht hvm hp_2 hB hz1 hk1 hS => ?_)
  obtain ⟨hP1, -, hD1⟩ := hB
  rw [ht] at hP1
  obtain ⟨hP, hD⟩ := va_join (wr := [(ax_lessEnd, .inl (kx_lessEnd, 24, .inl zx_lessEnd)), (ax_moreEnd, .inl (kx_moreEnd, 24, .inl zx_moreEnd))]) (w1 := [(ax, .inr (0, [.int zx_nodeBits, .int zx_lineBits, .ref ax_lessEnd, .ref ax_moreEnd, .ref ax_web, .ref ax_planeTest, .ref ax_palette, .ref ax_desk]))]) hP hD [0] [1, 2] rfl rfl (by decide) (by decide) hk1 hFc hP1 hD1
  have hp_2 : r_2 = f_nit zx_nodeBits v1 := hp_2
  subst hp_2
  have hP : va_P (dC, dI) classes [(ax_lessEnd, .inl (kx_lessEnd, 24, .inl zx_lessEnd)), (ax_moreEnd, .inl (kx_moreEnd, 24, .inl zx_moreEnd)), (ax, .inr (0, [.int zx_nodeBits, .int zx_lineBits, .ref ax_lessEnd, .ref ax_moreEnd, .ref ax_web, .ref ax_planeTest, .ref ax_palette, .ref ax_desk]))] H := hP
  have hD : va_D A [(ax_lessEnd, .inl (kx_lessEnd, 24, .inl zx_lessEnd)), (ax_moreEnd, .inl (kx_moreEnd, 24, .inl zx_moreEnd)), (ax, .inr (0, [.int zx_nodeBits, .int zx_lineBits, .ref ax_lessEnd, .ref ax_moreEnd, .ref ax_web, .ref ax_planeTest, .ref ax_palette, .ref ax_desk]))] := hD
  refine lv_if_ne (tgt := 18) hx hb d_PS_drop_5 rfl (fun hc_5 => ?_) (fun hc_5 => ?_)
  · skip
    have hI := hI.trans (if_neg hc_5)
    refine lv_aload_n hx hb d_PS_drop_18 rfl (lv_at hl 0 rfl) ?_
    refine lv_iload_n hx hb d_PS_drop_19 rfl (lv_at hl 1 rfl) ?_
    obtain ⟨p_20, hg_20, hI⟩ := ob_bd hI
    have hPc := hP.sub (ws' := [(ax, .inr (0, [.int zx_nodeBits, .int zx_lineBits, .ref ax_lessEnd, .ref ax_moreEnd, .ref ax_web, .ref ax_planeTest, .ref ax_palette, .ref ax_desk])), (ax_lessEnd, .inl (kx_lessEnd, 24, .inl zx_lessEnd)), (ax_moreEnd, .inl (kx_moreEnd, 24, .inl zx_moreEnd))]) [2, 0, 1] rfl
    have hDc := hD.sub (ws' := [(ax, .inr (0, [.int zx_nodeBits, .int zx_lineBits, .ref ax_lessEnd, .ref ax_moreEnd, .ref ax_web, .ref ax_planeTest, .ref ax_palette, .ref ax_desk])), (ax_lessEnd, .inl (kx_lessEnd, 24, .inl zx_lessEnd)), (ax_moreEnd, .inl (kx_moreEnd, 24, .inl zx_moreEnd))]) [2, 0, 1] (by decide) rfl
    have hKc := hK.sub (tys' := [(kx_lessEnd, .int), (kx_moreEnd, .int)]) [0, 1] rfl
    have hFc := va_free (wc := [(ax, .inr (0, [.int zx_nodeBits, .int zx_lineBits, .ref ax_lessEnd, .ref ax_moreEnd, .ref ax_web, .ref ax_planeTest, .ref ax_palette, .ref ax_desk])), (ax_lessEnd, .inl (kx_lessEnd, 24, .inl zx_lessEnd)), (ax_moreEnd, .inl (kx_moreEnd, 24, .inl zx_moreEnd))]) hD hS hA [2, 0, 1] rfl
    refine va_calli (va_runV (As := [.int v1]) (rest := []) ⟨hx, hb, hml, hown, hts⟩ (c_linesOfG l dC dI H.size ax ax_lessEnd ax_moreEnd ax_web ax_planeTest ax_palette ax_desk kx_lessEnd kx_moreEnd zx_nodeBits zx_lineBits zx_lessEnd zx_moreEnd v1 p_20 hg_20) (cwV 1 hts (gi4 mw_1_229 mw_1_231 mw_p_12 mw_1_1 mw_1_232) rfl rfl rfl (by decide +kernel) ⟨Nat.le_of_ble_eq_true rfl, Nat.le_of_ble_eq_true rfl⟩) ⟨fb_, va_recv (q0 := 2) (ci := 0) hK hP rfl rfl, pre_ hPc hKc hDc hN⟩ rfl rfl hl.1 rfl (lv_room (Nat.le_of_ble_eq_true rfl)) d_PS_drop_20 ⟨Nat.le_of_ble_eq_true rfl, Nat.le_of_ble_eq_true rfl⟩) hS (fun q _ h => hFc q h) hFc (fun r_20 u t H locs ht hvm hp_20 hB hz1 hk1 hS => ?_)
    obtain ⟨hP1, -, hD1⟩ := hB
    rw [ht] at hP1
    obtain ⟨hP, hD⟩ := va_join (wr := []) (w1 := [(ax, .inr (0, [.int zx_nodeBits, .int zx_lineBits, .ref ax_lessEnd, .ref ax_moreEnd, .ref ax_web, .ref ax_planeTest, .ref ax_palette, .ref ax_desk])), (ax_lessEnd, .inl (kx_lessEnd, 24, .inl zx_lessEnd)), (ax_moreEnd, .inl (kx_moreEnd, 24, .inl zx_moreEnd))]) hP hD [2, 0, 1] [] rfl rfl (by decide) (by decide) hk1 hFc hP1 hD1
    have hp_20 : (r_20) = p_20 := hp_20
    subst hp_20
    have hP : va_P (dC, dI) classes [(ax, .inr (0, [.int zx_nodeBits, .int zx_lineBits, .ref ax_lessEnd, .ref ax_moreEnd, .ref ax_web, .ref ax_planeTest, .ref ax_palette, .ref ax_desk])), (ax_lessEnd, .inl (kx_lessEnd, 24, .inl zx_lessEnd)), (ax_moreEnd, .inl (kx_moreEnd, 24, .inl zx_moreEnd))] H := hP
    have hD : va_D A [(ax, .inr (0, [.int zx_nodeBits, .int zx_lineBits, .ref ax_lessEnd, .ref ax_moreEnd, .ref ax_web, .ref ax_planeTest, .ref ax_palette, .ref ax_desk])), (ax_lessEnd, .inl (kx_lessEnd, 24, .inl zx_lessEnd)), (ax_moreEnd, .inl (kx_moreEnd, 24, .inl zx_moreEnd))] := hD
    refine lv_istore_n (lv' := [(2, .int r_20), (0, .ref ax), (1, .int v1)]) hx hb d_PS_drop_23 rfl hl (by decide) rfl (fun ls hl => ?_)
    refine lv_aload_n hx hb d_PS_drop_24 rfl (lv_at hl 1 rfl) ?_
    refine lv_dup hx hb d_PS_drop_25 rfl ?_
    refine va_get (D := (dC, dI)) (ci := 0) (v := .int zx_lineBits) (C := R_PS) (T := F_PS) (N := 8) hx hb hts (fun w h => List.mem_cons_of_mem _ (in_PS w h)) hown hK hP 0 rfl rfl 1 (by decide) (hts _ (List.mem_cons_of_mem _ mw_1_97)) (fun _ h9 => h9) rfl d_PS_drop_26 ?_
    refine lv_iload_n hx hb d_PS_drop_29 rfl (lv_at hl 0 rfl) ?_
    refine lv_iconst (v := -1) hx hb d_PS_drop_30 (by decide) ?_
    refine lv_ixor hx hb d_PS_drop_31 ?_
    refine lv_iand hx hb d_PS_drop_32 ?_
    refine va_put (D := (dC, dI)) (ci := 0) (v := .int (zx_lineBits &&& (r_20 ^^^ ((-1))))) (ty := .int) (C := R_PS) (T := F_PS) (N := 8) hx hb hts (fun w h => List.mem_cons_of_mem _ (in_PS w h)) t_PS t_PS_ok n_PS hown hK hP hD hS 0 rfl rfl 1 (by decide) (hts _ (List.mem_cons_of_mem _ mw_1_97)) (fun _ h9 => h9) rfl (by decide +kernel) rfl rfl (Nat.le_of_ble_eq_true rfl) d_PS_drop_33 (fun H locs hP hD hS => ?_)
    have hP : va_P (dC, dI) classes [(ax, .inr (0, [.int zx_nodeBits, .int (zx_lineBits &&& (r_20 ^^^ ((-1)))), .ref ax_lessEnd, .ref ax_moreEnd, .ref ax_web, .ref ax_planeTest, .ref ax_palette, .ref ax_desk])), (ax_lessEnd, .inl (kx_lessEnd, 24, .inl zx_lessEnd)), (ax_moreEnd, .inl (kx_moreEnd, 24, .inl zx_moreEnd))] H := hP
    have hD : va_D A [(ax, .inr (0, [.int zx_nodeBits, .int (zx_lineBits &&& (r_20 ^^^ ((-1)))), .ref ax_lessEnd, .ref ax_moreEnd, .ref ax_web, .ref ax_planeTest, .ref ax_palette, .ref ax_desk])), (ax_lessEnd, .inl (kx_lessEnd, 24, .inl zx_lessEnd)), (ax_moreEnd, .inl (kx_moreEnd, 24, .inl zx_moreEnd))] := hD
    refine lv_aload_n hx hb d_PS_drop_36 rfl (lv_at hl 1 rfl) ?_
    refine lv_dup hx hb d_PS_drop_37 rfl ?_
    refine va_get (D := (dC, dI)) (ci := 0) (v := .int zx_nodeBits) (C := R_PS) (T := F_PS) (N := 8) hx hb hts (fun w h => List.mem_cons_of_mem _ (in_PS w h)) hown hK hP 0 rfl rfl 0 (by decide) (hts _ (List.mem_cons_of_mem _ mw_1_96)) (fun _ h9 => h9) rfl d_PS_drop_38 ?_
    refine lv_iconst (v := 1) hx hb d_PS_drop_41 (by decide) ?_
    refine lv_iload_n hx hb d_PS_drop_42 rfl (lv_at hl 2 rfl) ?_
    refine lv_ishl hx hb d_PS_drop_43 ?_
    refine lv_iconst (v := -1) hx hb d_PS_drop_44 (by decide) ?_
    refine lv_ixor hx hb d_PS_drop_45 ?_
    refine lv_iand hx hb d_PS_drop_46 ?_
    refine va_put (D := (dC, dI)) (ci := 0) (v := .int (zx_nodeBits &&& ((((1 : Int32)) <<< (v1 &&& 31)) ^^^ ((-1))))) (ty := .int) (C := R_PS) (T := F_PS) (N := 8) hx hb hts (fun w h => List.mem_cons_of_mem _ (in_PS w h)) t_PS t_PS_ok n_PS hown hK hP hD hS 0 rfl rfl 0 (by decide) (hts _ (List.mem_cons_of_mem _ mw_1_96)) (fun _ h9 => h9) rfl (by decide +kernel) rfl rfl (Nat.le_of_ble_eq_true rfl) d_PS_drop_47 (fun H locs hP hD hS => ?_)
    have hP : va_P (dC, dI) classes [(ax, .inr (0, [.int (zx_nodeBits &&& ((((1 : Int32)) <<< (v1 &&& 31)) ^^^ ((-1)))), .int (zx_lineBits &&& (r_20 ^^^ ((-1)))), .ref ax_lessEnd, .ref ax_moreEnd, .ref ax_web, .ref ax_planeTest, .ref ax_palette, .ref ax_desk])), (ax_lessEnd, .inl (kx_lessEnd, 24, .inl zx_lessEnd)), (ax_moreEnd, .inl (kx_moreEnd, 24, .inl zx_moreEnd))] H := hP
    have hD : va_D A [(ax, .inr (0, [.int (zx_nodeBits &&& ((((1 : Int32)) <<< (v1 &&& 31)) ^^^ ((-1)))), .int (zx_lineBits &&& (r_20 ^^^ ((-1)))), .ref ax_lessEnd, .ref ax_moreEnd, .ref ax_web, .ref ax_planeTest, .ref ax_palette, .ref ax_desk])), (ax_lessEnd, .inl (kx_lessEnd, 24, .inl zx_lessEnd)), (ax_moreEnd, .inl (kx_moreEnd, 24, .inl zx_moreEnd))] := hD
    refine lv_iload_n hx hb d_PS_drop_50 rfl (lv_at hl 0 rfl) ?_
    have hPc := hP.sub (ws' := []) [] rfl
    have hDc := hD.sub (ws' := []) [] (by decide) rfl
    have hKc := hK.sub (tys' := []) [] rfl
    have hFc := va_free (wc := []) hD hS hA [] rfl
    refine va_calli (va_runS (As := [.int r_20]) (rest := []) ⟨hx, hb, hml, hown, hts⟩ (c_bitCount l dC dI H.size r_20) (va_cwS 1 hts (gi3 mw_1_216 mw_1_164 mw_1_12 mw_1_165) rfl rfl rfl (by decide +kernel) ⟨Nat.le_of_ble_eq_true rfl, Nat.le_of_ble_eq_true rfl⟩) ⟨fb_, pre_ hPc hKc hDc hN⟩ rfl rfl hl.1 rfl (lv_room (Nat.le_of_ble_eq_true rfl)) d_PS_drop_51 ⟨Nat.le_of_ble_eq_true rfl, Nat.le_of_ble_eq_true rfl⟩) hS (fun q _ h => hFc q h) hFc (fun r_51 u t H locs ht hvm hp_51 hB hz1 hk1 hS => ?_)
    obtain ⟨hP1, -, hD1⟩ := hB
    rw [ht] at hP1
    obtain ⟨hP, hD⟩ := va_join (wr := [(ax, .inr (0, [.int (zx_nodeBits &&& ((((1 : Int32)) <<< (v1 &&& 31)) ^^^ ((-1)))), .int (zx_lineBits &&& (r_20 ^^^ ((-1)))), .ref ax_lessEnd, .ref ax_moreEnd, .ref ax_web, .ref ax_planeTest, .ref ax_palette, .ref ax_desk])), (ax_lessEnd, .inl (kx_lessEnd, 24, .inl zx_lessEnd)), (ax_moreEnd, .inl (kx_moreEnd, 24, .inl zx_moreEnd))]) (w1 := []) hP hD [] [0, 1, 2] rfl rfl (by decide) (by decide) hk1 hFc hP1 hD1
    have hp_51 : r_51 = f_bc r_20 := hp_51
    subst hp_51
    have hP : va_P (dC, dI) classes [(ax, .inr (0, [.int (zx_nodeBits &&& ((((1 : Int32)) <<< (v1 &&& 31)) ^^^ ((-1)))), .int (zx_lineBits &&& (r_20 ^^^ ((-1)))), .ref ax_lessEnd, .ref ax_moreEnd, .ref ax_web, .ref ax_planeTest, .ref ax_palette, .ref ax_desk])), (ax_lessEnd, .inl (kx_lessEnd, 24, .inl zx_lessEnd)), (ax_moreEnd, .inl (kx_moreEnd, 24, .inl zx_moreEnd))] H := hP
    have hD : va_D A [(ax, .inr (0, [.int (zx_nodeBits &&& ((((1 : Int32)) <<< (v1 &&& 31)) ^^^ ((-1)))), .int (zx_lineBits &&& (r_20 ^^^ ((-1)))), .ref ax_lessEnd, .ref ax_moreEnd, .ref ax_web, .ref ax_planeTest, .ref ax_palette, .ref ax_desk])), (ax_lessEnd, .inl (kx_lessEnd, 24, .inl zx_lessEnd)), (ax_moreEnd, .inl (kx_moreEnd, 24, .inl zx_moreEnd))] := hD
    refine x_ret ?_
    refine W.widen (k := 1) (n := 6) (Nat.le_of_ble_eq_true rfl) (Nat.le_of_ble_eq_true rfl) ?_
    exact W.iret (v := f_bc r_20) hx hb hr (fun t ht hW => ⟨⟨f_bc r_20, (zx_nodeBits &&& ((((1 : Int32)) <<< (v1 &&& 31)) ^^^ ((-1))), zx_lineBits &&& (r_20 ^^^ ((-1)))), rfl, (Option.some.inj hI).symm, by rw [ht]; exact hP, va_K.moved hW.alike hK, hD⟩, hS.F ht⟩) hS.2.2 d_PS_drop_54
  · skip
    have hI := hI.trans (if_pos hc_5)
    have hP := hP.sub (ws' := [(ax, .inr (0, [.int zx_nodeBits, .int zx_lineBits, .ref ax_lessEnd, .ref ax_moreEnd, .ref ax_web, .ref ax_planeTest, .ref ax_palette, .ref ax_desk])), (ax_lessEnd, .inl (kx_lessEnd, 24, .inl zx_lessEnd)), (ax_moreEnd, .inl (kx_moreEnd, 24, .inl zx_moreEnd))]) [2, 0, 1] rfl
    have hD := hD.sub (ws' := [(ax, .inr (0, [.int zx_nodeBits, .int zx_lineBits, .ref ax_lessEnd, .ref ax_moreEnd, .ref ax_web, .ref ax_planeTest, .ref ax_palette, .ref ax_desk])), (ax_lessEnd, .inl (kx_lessEnd, 24, .inl zx_lessEnd)), (ax_moreEnd, .inl (kx_moreEnd, 24, .inl zx_moreEnd))]) [2, 0, 1] (by decide) rfl
    obtain ⟨sa, hst0⟩ := h0.2 (R_PS, 113, "the node is not there") (by decide +kernel)
    have hok := og_keep hO hlo hAe hS
    exact x_throwN (own := R_PS) (cls := "java/util/NoSuchElementException") (text := "the node is not there") (ik := 80) (is := 113) (ic := 84) (sa := sa) hx hb hfl hown (by decide +kernel) (hts _ (List.mem_cons_of_mem _ mw_2_222)) (hts _ (List.mem_cons_of_mem _ mw_1_13)) (hst0.warm hO.1) (fun s9 hv9 hh9 => thr_at h0 ⟨by rw [hv9]; exact hO.1, by rw [hh9]; exact hok.1, fun q hq => by rw [hh9]; exact hok.2 q hq⟩ (nsAtoms R_PS 84 "java/util/NoSuchElementException") (List.mem_of_getElem? (i := 2) rfl)) (hl.1.trans hml.symm) d_PS_drop_8 d_PS_drop_11 d_PS_drop_12 d_PS_drop_14 d_PS_drop_17 hex (Nat.le_of_ble_eq_true rfl) (Nat.le_of_ble_eq_true rfl) (Nat.le_of_ble_eq_true rfl) (Nat.le_of_ble_eq_true rfl) hlocks (fun t ha hz hk => ⟨(zx_nodeBits, zx_lineBits), ⟨⟨rfl, (Option.some.inj hI).symm⟩, thr_P hP hk, va_K.moved ha hK, hD⟩, thr_F hS hz hk⟩) hS.2.2 (Nat.le_of_ble_eq_true rfl) (Nat.le_of_ble_eq_true rfl)
set_option maxHeartbeats 4000000 in
set_option maxRecDepth 100000 in
theorem c_endT (l : Launch) (hfl : l.stackTraces = false) (s0 : State) (h0 : T0 s0) (dC : Nat → ClassId) (dI : Nat → Nat → Nat) (sz : Nat) (ax ax_lessEnd ax_moreEnd ax_web ax_planeTest ax_palette ax_desk : Nat) (kx_lessEnd kx_moreEnd : ClassId) (zx_nodeBits : Int32) (zx_lineBits : Int32) (zx_lessEnd : Nat → Int32) (zx_moreEnd : Nat → Int32) (v1 v2 : Int32) (R : Nat × Int32) (hR : F_endT zx_lineBits zx_lessEnd zx_moreEnd v1 v2 = some R) : xMet l y_PS_end w_PS_end ({ frames := 6, cells := 1, slots := 6, locals := 90 }) (PreX_ s0 dC dI sz [.ref ax, .int v1, .int v2] [(ax, .inr (0, [.int zx_nodeBits, .int zx_lineBits, .ref ax_lessEnd, .ref ax_moreEnd, .ref ax_web, .ref ax_planeTest, .ref ax_palette, .ref ax_desk])), (ax_lessEnd, .inl (kx_lessEnd, 24, .inl zx_lessEnd)), (ax_moreEnd, .inl (kx_moreEnd, 24, .inl zx_moreEnd))] [(kx_lessEnd, .int), (kx_moreEnd, .int)]) (va_Qi (fun (r : Int32) (u : Unit) => ((0 : Nat), r) = R) (fun u t => End_ dC dI (va_A [(ax, .inr (0, [.int zx_nodeBits, .int zx_lineBits, .ref ax_lessEnd, .ref ax_moreEnd, .ref ax_web, .ref ax_planeTest, .ref ax_palette, .ref ax_desk])), (ax_lessEnd, .inl (kx_lessEnd, 24, .inl zx_lessEnd)), (ax_moreEnd, .inl (kx_moreEnd, 24, .inl zx_moreEnd))] sz) [(kx_lessEnd, .int), (kx_moreEnd, .int)] [(ax, .inr (0, [.int zx_nodeBits, .int zx_lineBits, .ref ax_lessEnd, .ref ax_moreEnd, .ref ax_web, .ref ax_planeTest, .ref ax_palette, .ref ax_desk])), (ax_lessEnd, .inl (kx_lessEnd, 24, .inl zx_lessEnd)), (ax_moreEnd, .inl (kx_moreEnd, 24, .inl zx_moreEnd))] t) (va_A [(ax, .inr (0, [.int zx_nodeBits, .int zx_lineBits, .ref ax_lessEnd, .ref ax_moreEnd, .ref ax_web, .ref ax_planeTest, .ref ax_palette, .ref ax_desk])), (ax_lessEnd, .inl (kx_lessEnd, 24, .inl zx_lessEnd)), (ax_moreEnd, .inl (kx_moreEnd, 24, .inl zx_moreEnd))] sz)) (xX (fun E (u : Unit) t => ((E = "java/util/NoSuchElementException" ∧ ((3 : Nat), (0 : Int32)) = R) ∨ (E = "java/lang/IndexOutOfBoundsException" ∧ ((1 : Nat), (0 : Int32)) = R)) ∧ End_ dC dI (va_A [(ax, .inr (0, [.int zx_nodeBits, .int zx_lineBits, .ref ax_lessEnd, .ref ax_moreEnd, .ref ax_web, .ref ax_planeTest, .ref ax_palette, .ref ax_desk])), (ax_lessEnd, .inl (kx_lessEnd, 24, .inl zx_lessEnd)), (ax_moreEnd, .inl (kx_moreEnd, 24, .inl zx_moreEnd))] sz) [(kx_lessEnd, .int), (kx_moreEnd, .int)] [(ax, .inr (0, [.int zx_nodeBits, .int zx_lineBits, .ref ax_lessEnd, .ref ax_moreEnd, .ref ax_web, .ref ax_planeTest, .ref ax_palette, .ref ax_desk])), (ax_lessEnd, .inl (kx_lessEnd, 24, .inl zx_lessEnd)), (ax_moreEnd, .inl (kx_moreEnd, 24, .inl zx_moreEnd))] t) (va_A [(ax, .inr (0, [.int zx_nodeBits, .int zx_lineBits, .ref ax_lessEnd, .ref ax_moreEnd, .ref ax_web, .ref ax_planeTest, .ref ax_palette, .ref ax_desk])), (ax_lessEnd, .inl (kx_lessEnd, 24, .inl zx_lessEnd)), (ax_moreEnd, .inl (kx_moreEnd, 24, .inl zx_moreEnd))] sz)) 1 6 (va_A [(ax, .inr (0, [.int zx_nodeBits, .int zx_lineBits, .ref ax_lessEnd, .ref ax_moreEnd, .ref ax_web, .ref ax_planeTest, .ref ax_palette, .ref ax_desk])), (ax_lessEnd, .inl (kx_lessEnd, 24, .inl zx_lessEnd)), (ax_moreEnd, .inl (kx_moreEnd, 24, .inl zx_moreEnd))] sz) := by
  refine xMet.ofW (cc := b_PS_end) (maxL := 3) (ret := (some .int)) (by decide) rfl ?_
  intro p e s m args below meth c s₁ B hml hex hv
  obtain ⟨hargs9, hsz9, hP9, hK9, hD9, hN9, hO, hlo⟩ := hv
  have hv : Pre_ dC dI sz [.ref ax, .int v1, .int v2] [(ax, .inr (0, [.int zx_nodeBits, .int zx_lineBits, .ref ax_lessEnd, .ref ax_moreEnd, .ref ax_web, .ref ax_planeTest, .ref ax_palette, .ref ax_desk])), (ax_lessEnd, .inl (kx_lessEnd, 24, .inl zx_lessEnd)), (ax_moreEnd, .inl (kx_moreEnd, 24, .inl zx_moreEnd))] [(kx_lessEnd, .int), (kx_moreEnd, .int)] args s := ⟨hargs9, hsz9, hP9, hK9, hD9, hN9⟩
  have lo_x : s0.heap.size ≤ ax := hlo (ax, .inr (0, [.int zx_nodeBits, .int zx_lineBits, .ref ax_lessEnd, .ref ax_moreEnd, .ref ax_web, .ref ax_planeTest, .ref ax_palette, .ref ax_desk])) (List.mem_of_getElem? (i := 0) rfl)
  have lo_x_lessEnd : s0.heap.size ≤ ax_lessEnd := hlo (ax_lessEnd, .inl (kx_lessEnd, 24, .inl zx_lessEnd)) (List.mem_of_getElem? (i := 1) rfl)
  have lo_x_moreEnd : s0.heap.size ≤ ax_moreEnd := hlo (ax_moreEnd, .inl (kx_moreEnd, 24, .inl zx_moreEnd)) (List.mem_of_getElem? (i := 2) rfl)
  obtain ⟨hargs, hsz, hP, hK, hD0, hN⟩ := hv
  have hx := B.exec
  have hb := B.bytes
  have hr := B.returns
  have hts := atoms_spec (ws := w_PS_end) B.pre
  have hown : s.vm.findClass R_PS = some m.cls := findClass_of_methodNamed B.named
  have hlocks := B.notSynchronized
  subst hsz
  have hD := hD0.self (sz := s.heap.size)
  generalize hAe : va_A [(ax, .inr (0, [.int zx_nodeBits, .int zx_lineBits, .ref ax_lessEnd, .ref ax_moreEnd, .ref ax_web, .ref ax_planeTest, .ref ax_palette, .ref ax_desk])), (ax_lessEnd, .inl (kx_lessEnd, 24, .inl zx_lessEnd)), (ax_moreEnd, .inl (kx_moreEnd, 24, .inl zx_moreEnd))] s.heap.size = A at hD ⊢
  have hA : ∀ q : Nat, s.heap.size ≤ q → A q := fun q h => by rw [← hAe]; exact Or.inr h
  have hS : va_S A s.heap s.heap [] := va_S.rf
  have hl := lv_entry ([.ref ax, .int v1, .int v2]) (n := 3) (Nat.le_of_ble_eq_true rfl)
  refine W.eq (congrArg (fun a => entryFrame m a 3) hargs) ?_
  rw [lg_entry_eq]
  generalize (lg_sl ([.ref ax, .int v1, .int v2]) ++ List.replicate (3 - (lg_sl ([.ref ax, .int v1, .int v2])).length) Slot.unset).toArray = ls at hl ⊢
  have hl : lv_has ls 3 [(0, .ref ax), (1, .int v1), (2, .int v2)] := hl
  generalize hH0 : ([] : List Loc) = locs at hS ⊢
  have hI := hR.symm
  rw [F_endT] at hI
  refine lv_aload_n hx hb d_PS_end_0 rfl (lv_at hl 0 rfl) ?_
  refine lv_iload_n hx hb d_PS_end_1 rfl (lv_at hl 1 rfl) ?_
  have hPc := hP.sub (ws' := [(ax, .inr (0, [.int zx_nodeBits, .int zx_lineBits, .ref ax_lessEnd, .ref ax_moreEnd, .ref ax_web, .ref ax_planeTest, .ref ax_palette, .ref ax_desk]))]) [0] rfl
  have hDc := hD.sub (ws' := [(ax, .inr (0, [.int zx_nodeBits, .int zx_lineBits, .ref ax_lessEnd, .ref ax_moreEnd, .ref ax_web, .ref ax_planeTest, .ref ax_palette, .ref ax_desk]))]) [0] (by decide) rfl
  have hKc := hK.sub (tys' := []) [] rfl
  have hFc := va_free (wc := [(ax, .inr (0, [.int zx_nodeBits, .int zx_lineBits, .ref ax_lessEnd, .ref ax_moreEnd, .ref ax_web, .ref ax_planeTest, .ref ax_palette, .ref ax_desk]))]) hD hS hA [0] rfl
  refine va_calli (va_runV (As := [.int v1]) (rest := []) ⟨hx, hb, hml, hown, hts⟩ (c_lineIsThere l dC dI s.heap.size ax ax_lessEnd ax_moreEnd ax_web ax_planeTest ax_palette ax_desk zx_nodeBits zx_lineBits v1) (cwV 1 hts (gi4 mw_3_28 mw_3_30 mw_p_28 mw_1_1 mw_3_31) rfl rfl rfl (by decide +kernel) ⟨Nat.le_of_ble_eq_true rfl, Nat.le_of_ble_eq_true rfl⟩) ⟨fb_, va_recv (q0 := 0) (ci := 0) hK hP rfl rfl, pre_ hPc hKc hDc hN⟩ rfl rfl hl.1 rfl (lv_room (Nat.le_of_ble_eq_true rfl)) d_PS_end_2 ⟨Nat.le_of_ble_eq_true rfl, Nat.le_of_ble_eq_true rfl⟩) hS (fun q _ h => hFc q h) hFc (fun r_2 u t H locs ht hvm hp_2 hB hz1 hk1 hS => ?_)
  obtain ⟨hP1, -, hD1⟩ := hB
  rw [ht] at hP1
  obtain ⟨hP, hD⟩ := va_join (wr := [(ax_lessEnd, .inl (kx_lessEnd, 24, .inl zx_lessEnd)), (ax_moreEnd, .inl (kx_moreEnd, 24, .inl zx_moreEnd))]) (w1 := [(ax, .inr (0, [.int zx_nodeBits, .int zx_lineBits, .ref ax_lessEnd, .ref ax_moreEnd, .ref ax_web, .ref ax_planeTest, .ref ax_palette, .ref ax_desk]))]) hP hD [0] [1, 2] rfl rfl (by decide) (by decide) hk1 hFc hP1 hD1
  have hp_2 : r_2 = f_lit zx_lineBits v1 := hp_2
  subst hp_2
  have hP : va_P (dC, dI) classes [(ax_lessEnd, .inl (kx_lessEnd, 24, .inl zx_lessEnd)), (ax_moreEnd, .inl (kx_moreEnd, 24, .inl zx_moreEnd)), (ax, .inr (0, [.int zx_nodeBits, .int zx_lineBits, .ref ax_lessEnd, .ref ax_moreEnd, .ref ax_web, .ref ax_planeTest, .ref ax_palette, .ref ax_desk]))] H := hP
  have hD : va_D A [(ax_lessEnd, .inl (kx_lessEnd, 24, .inl zx_lessEnd)), (ax_moreEnd, .inl (kx_moreEnd, 24, .inl zx_moreEnd)), (ax, .inr (0, [.int zx_nodeBits, .int zx_lineBits, .ref ax_lessEnd, .ref ax_moreEnd, .ref ax_web, .ref ax_planeTest, .ref ax_palette, .ref ax_desk]))] := hD
  refine lv_if_ne (tgt := 18) hx hb d_PS_end_5 rfl (fun hc_5 => ?_) (fun hc_5 => ?_)
  · skip
    have hI := hI.trans (if_neg hc_5)
    refine lv_iload_n hx hb d_PS_end_18 rfl (lv_at hl 2 rfl) ?_
    refine lv_if_eq (tgt := 37) hx hb d_PS_end_19 rfl (fun hc_19 => ?_) (fun hc_19 => ?_)
    · skip
      have hI := hI.trans (if_pos hc_19)
      refine lv_iload_n hx hb d_PS_end_37 rfl (lv_at hl 2 rfl) ?_
      refine lv_if_ne (tgt := 50) hx hb d_PS_end_38 rfl (fun hc_38 => ?_) (fun hc_38 => ?_)
      · skip
        have hI := hI.trans (if_neg hc_38)
        refine lv_aload_n hx hb d_PS_end_50 rfl (lv_at hl 0 rfl) ?_
        refine va_get (D := (dC, dI)) (ci := 0) (v := .ref ax_moreEnd) (C := R_PS) (T := F_PS) (N := 8) hx hb hts (fun w h => List.mem_cons_of_mem _ (in_PS w h)) hown hK hP 2 rfl rfl 3 (by decide) (hts _ (List.mem_cons_of_mem _ mw_1_99)) (fun _ h9 => h9) rfl d_PS_end_51 ?_
        refine lv_iload_n hx hb d_PS_end_54 rfl (lv_at hl 1 rfl) ?_
        have hi_55 := ob_in hI
        have hI := ob_th hI
        refine va_iald (D := (dC, dI)) hx hb hK hP 1 1 rfl rfl hi_55 d_PS_end_55 ?_
        have hP := hP.sub (ws' := [(ax, .inr (0, [.int zx_nodeBits, .int zx_lineBits, .ref ax_lessEnd, .ref ax_moreEnd, .ref ax_web, .ref ax_planeTest, .ref ax_palette, .ref ax_desk])), (ax_lessEnd, .inl (kx_lessEnd, 24, .inl zx_lessEnd)), (ax_moreEnd, .inl (kx_moreEnd, 24, .inl zx_moreEnd))]) [2, 0, 1] rfl
        have hD := hD.sub (ws' := [(ax, .inr (0, [.int zx_nodeBits, .int zx_lineBits, .ref ax_lessEnd, .ref ax_moreEnd, .ref ax_web, .ref ax_planeTest, .ref ax_palette, .ref ax_desk])), (ax_lessEnd, .inl (kx_lessEnd, 24, .inl zx_lessEnd)), (ax_moreEnd, .inl (kx_moreEnd, 24, .inl zx_moreEnd))]) [2, 0, 1] (by decide) rfl
        refine x_ret ?_
        refine W.widen (k := 1) (n := 6) (Nat.le_of_ble_eq_true rfl) (Nat.le_of_ble_eq_true rfl) ?_
        exact W.iret (v := zx_moreEnd (Int32.toNatClampNeg v1)) hx hb hr (fun t ht hW => ⟨⟨zx_moreEnd (Int32.toNatClampNeg v1), (), rfl, (Option.some.inj hI).symm, by rw [ht]; exact hP, va_K.moved hW.alike hK, hD⟩, hS.F ht⟩) hS.2.2 d_PS_end_56
      · skip
        have hI := hI.trans (if_pos hc_38)
        refine lv_aload_n hx hb d_PS_end_41 rfl (lv_at hl 0 rfl) ?_
        refine va_get (D := (dC, dI)) (ci := 0) (v := .ref ax_lessEnd) (C := R_PS) (T := F_PS) (N := 8) hx hb hts (fun w h => List.mem_cons_of_mem _ (in_PS w h)) hown hK hP 2 rfl rfl 2 (by decide) (hts _ (List.mem_cons_of_mem _ mw_1_98)) (fun _ h9 => h9) rfl d_PS_end_42 ?_
        refine lv_iload_n hx hb d_PS_end_45 rfl (lv_at hl 1 rfl) ?_
        have hi_46 := ob_in hI
        have hI := ob_th hI
        refine va_iald (D := (dC, dI)) hx hb hK hP 0 0 rfl rfl hi_46 d_PS_end_46 ?_
        refine lv_goto (tgt := 56) hx hb d_PS_end_47 rfl ?_
        have hP := hP.sub (ws' := [(ax, .inr (0, [.int zx_nodeBits, .int zx_lineBits, .ref ax_lessEnd, .ref ax_moreEnd, .ref ax_web, .ref ax_planeTest, .ref ax_palette, .ref ax_desk])), (ax_lessEnd, .inl (kx_lessEnd, 24, .inl zx_lessEnd)), (ax_moreEnd, .inl (kx_moreEnd, 24, .inl zx_moreEnd))]) [2, 0, 1] rfl
        have hD := hD.sub (ws' := [(ax, .inr (0, [.int zx_nodeBits, .int zx_lineBits, .ref ax_lessEnd, .ref ax_moreEnd, .ref ax_web, .ref ax_planeTest, .ref ax_palette, .ref ax_desk])), (ax_lessEnd, .inl (kx_lessEnd, 24, .inl zx_lessEnd)), (ax_moreEnd, .inl (kx_moreEnd, 24, .inl zx_moreEnd))]) [2, 0, 1] (by decide) rfl
        refine x_ret ?_
        refine W.widen (k := 1) (n := 6) (Nat.le_of_ble_eq_true rfl) (Nat.le_of_ble_eq_true rfl) ?_
        exact W.iret (v := zx_lessEnd (Int32.toNatClampNeg v1)) hx hb hr (fun t ht hW => ⟨⟨zx_lessEnd (Int32.toNatClampNeg v1), (), rfl, (Option.some.inj hI).symm, by rw [ht]; exact hP, va_K.moved hW.alike hK, hD⟩, hS.F ht⟩) hS.2.2 d_PS_end_56
    · skip
      have hI := hI.trans (if_neg hc_19)
      refine lv_iload_n hx hb d_PS_end_22 rfl (lv_at hl 2 rfl) ?_
      refine lv_iconst (v := 1) hx hb d_PS_end_23 (by decide) ?_
      refine lv_icmp_eq (tgt := 37) hx hb d_PS_end_24 rfl (fun hc_24 => ?_) (fun hc_24 => ?_)
      · skip
        have hI := hI.trans (if_pos hc_24)
        refine lv_iload_n hx hb d_PS_end_37 rfl (lv_at hl 2 rfl) ?_
        refine lv_if_ne (tgt := 50) hx hb d_PS_end_38 rfl (fun hc_38 => ?_) (fun hc_38 => ?_)
        · skip
          have hI := hI.trans (if_neg hc_38)
          refine lv_aload_n hx hb d_PS_end_50 rfl (lv_at hl 0 rfl) ?_
          refine va_get (D := (dC, dI)) (ci := 0) (v := .ref ax_moreEnd) (C := R_PS) (T := F_PS) (N := 8) hx hb hts (fun w h => List.mem_cons_of_mem _ (in_PS w h)) hown hK hP 2 rfl rfl 3 (by decide) (hts _ (List.mem_cons_of_mem _ mw_1_99)) (fun _ h9 => h9) rfl d_PS_end_51 ?_
          refine lv_iload_n hx hb d_PS_end_54 rfl (lv_at hl 1 rfl) ?_
          have hi_55 := ob_in hI
          have hI := ob_th hI
          refine va_iald (D := (dC, dI)) hx hb hK hP 1 1 rfl rfl hi_55 d_PS_end_55 ?_
          have hP := hP.sub (ws' := [(ax, .inr (0, [.int zx_nodeBits, .int zx_lineBits, .ref ax_lessEnd, .ref ax_moreEnd, .ref ax_web, .ref ax_planeTest, .ref ax_palette, .ref ax_desk])), (ax_lessEnd, .inl (kx_lessEnd, 24, .inl zx_lessEnd)), (ax_moreEnd, .inl (kx_moreEnd, 24, .inl zx_moreEnd))]) [2, 0, 1] rfl
          have hD := hD.sub (ws' := [(ax, .inr (0, [.int zx_nodeBits, .int zx_lineBits, .ref ax_lessEnd, .ref ax_moreEnd, .ref ax_web, .ref ax_planeTest, .ref ax_palette, .ref ax_desk])), (ax_lessEnd, .inl (kx_lessEnd, 24, .inl zx_lessEnd)), (ax_moreEnd, .inl (kx_moreEnd, 24, .inl zx_moreEnd))]) [2, 0, 1] (by decide) rfl
          refine x_ret ?_
          refine W.widen (k := 1) (n := 6) (Nat.le_of_ble_eq_true rfl) (Nat.le_of_ble_eq_true rfl) ?_
          exact W.iret (v := zx_moreEnd (Int32.toNatClampNeg v1)) hx hb hr (fun t ht hW => ⟨⟨zx_moreEnd (Int32.toNatClampNeg v1), (), rfl, (Option.some.inj hI).symm, by rw [ht]; exact hP, va_K.moved hW.alike hK, hD⟩, hS.F ht⟩) hS.2.2 d_PS_end_56
        · skip
          have hI := hI.trans (if_pos hc_38)
          refine lv_aload_n hx hb d_PS_end_41 rfl (lv_at hl 0 rfl) ?_
          refine va_get (D := (dC, dI)) (ci := 0) (v := .ref ax_lessEnd) (C := R_PS) (T := F_PS) (N := 8) hx hb hts (fun w h => List.mem_cons_of_mem _ (in_PS w h)) hown hK hP 2 rfl rfl 2 (by decide) (hts _ (List.mem_cons_of_mem _ mw_1_98)) (fun _ h9 => h9) rfl d_PS_end_42 ?_
          refine lv_iload_n hx hb d_PS_end_45 rfl (lv_at hl 1 rfl) ?_
          have hi_46 := ob_in hI
          have hI := ob_th hI
          refine va_iald (D := (dC, dI)) hx hb hK hP 0 0 rfl rfl hi_46 d_PS_end_46 ?_
          refine lv_goto (tgt := 56) hx hb d_PS_end_47 rfl ?_
          have hP := hP.sub (ws' := [(ax, .inr (0, [.int zx_nodeBits, .int zx_lineBits, .ref ax_lessEnd, .ref ax_moreEnd, .ref ax_web, .ref ax_planeTest, .ref ax_palette, .ref ax_desk])), (ax_lessEnd, .inl (kx_lessEnd, 24, .inl zx_lessEnd)), (ax_moreEnd, .inl (kx_moreEnd, 24, .inl zx_moreEnd))]) [2, 0, 1] rfl
          have hD := hD.sub (ws' := [(ax, .inr (0, [.int zx_nodeBits, .int zx_lineBits, .ref ax_lessEnd, .ref ax_moreEnd, .ref ax_web, .ref ax_planeTest, .ref ax_palette, .ref ax_desk])), (ax_lessEnd, .inl (kx_lessEnd, 24, .inl zx_lessEnd)), (ax_moreEnd, .inl (kx_moreEnd, 24, .inl zx_moreEnd))]) [2, 0, 1] (by decide) rfl
          refine x_ret ?_
          refine W.widen (k := 1) (n := 6) (Nat.le_of_ble_eq_true rfl) (Nat.le_of_ble_eq_true rfl) ?_
          exact W.iret (v := zx_lessEnd (Int32.toNatClampNeg v1)) hx hb hr (fun t ht hW => ⟨⟨zx_lessEnd (Int32.toNatClampNeg v1), (), rfl, (Option.some.inj hI).symm, by rw [ht]; exact hP, va_K.moved hW.alike hK, hD⟩, hS.F ht⟩) hS.2.2 d_PS_end_56
      · skip
        have hI := hI.trans (if_neg hc_24)
        have hP := hP.sub (ws' := [(ax, .inr (0, [.int zx_nodeBits, .int zx_lineBits, .ref ax_lessEnd, .ref ax_moreEnd, .ref ax_web, .ref ax_planeTest, .ref ax_palette, .ref ax_desk])), (ax_lessEnd, .inl (kx_lessEnd, 24, .inl zx_lessEnd)), (ax_moreEnd, .inl (kx_moreEnd, 24, .inl zx_moreEnd))]) [2, 0, 1] rfl
        have hD := hD.sub (ws' := [(ax, .inr (0, [.int zx_nodeBits, .int zx_lineBits, .ref ax_lessEnd, .ref ax_moreEnd, .ref ax_web, .ref ax_planeTest, .ref ax_palette, .ref ax_desk])), (ax_lessEnd, .inl (kx_lessEnd, 24, .inl zx_lessEnd)), (ax_moreEnd, .inl (kx_moreEnd, 24, .inl zx_moreEnd))]) [2, 0, 1] (by decide) rfl
        obtain ⟨sa, hst0⟩ := h0.2 (R_PS, 118, "a line has the ends 0 and 1") (by decide +kernel)
        have hok := og_keep hO hlo hAe hS
        exact x_throw (own := R_PS) (cls := "java/lang/IndexOutOfBoundsException") (text := "a line has the ends 0 and 1") (names := ["java/lang/RuntimeException", "java/lang/Exception"]) (ik := 55) (is := 118) (ic := 59) (sa := sa) hx hb hfl hown (by decide +kernel) (by decide +kernel) (hts _ (List.mem_cons_of_mem _ mw_2_124)) (hts _ (List.mem_cons_of_mem _ mw_1_10)) (hst0.warm hO.1) (fun s9 hv9 hh9 => thr_at h0 ⟨by rw [hv9]; exact hO.1, by rw [hh9]; exact hok.1, fun q hq => by rw [hh9]; exact hok.2 q hq⟩ (Bundle.ownAtoms R_PS 59 "java/lang/IndexOutOfBoundsException" ["java/lang/RuntimeException", "java/lang/Exception"]) (List.mem_of_getElem? (i := 0) rfl)) (hl.1.trans hml.symm) d_PS_end_27 d_PS_end_30 d_PS_end_31 d_PS_end_33 d_PS_end_36 hex (Nat.le_of_ble_eq_true rfl) (Nat.le_of_ble_eq_true rfl) (Nat.le_of_ble_eq_true rfl) (Nat.le_of_ble_eq_true rfl) hlocks (fun t ha hz hk => ⟨(), ⟨Or.inr (⟨rfl, (Option.some.inj hI).symm⟩), thr_P hP hk, va_K.moved ha hK, hD⟩, thr_F hS hz hk⟩) hS.2.2 (Nat.le_of_ble_eq_true rfl) (Nat.le_of_ble_eq_true rfl)
  · skip
    have hI := hI.trans (if_pos hc_5)
    have hP := hP.sub (ws' := [(ax, .inr (0, [.int zx_nodeBits, .int zx_lineBits, .ref ax_lessEnd, .ref ax_moreEnd, .ref ax_web, .ref ax_planeTest, .ref ax_palette, .ref ax_desk])), (ax_lessEnd, .inl (kx_lessEnd, 24, .inl zx_lessEnd)), (ax_moreEnd, .inl (kx_moreEnd, 24, .inl zx_moreEnd))]) [2, 0, 1] rfl
    have hD := hD.sub (ws' := [(ax, .inr (0, [.int zx_nodeBits, .int zx_lineBits, .ref ax_lessEnd, .ref ax_moreEnd, .ref ax_web, .ref ax_planeTest, .ref ax_palette, .ref ax_desk])), (ax_lessEnd, .inl (kx_lessEnd, 24, .inl zx_lessEnd)), (ax_moreEnd, .inl (kx_moreEnd, 24, .inl zx_moreEnd))]) [2, 0, 1] (by decide) rfl
    obtain ⟨sa, hst0⟩ := h0.2 (R_PS, 111, "the line is not there") (by decide +kernel)
    have hok := og_keep hO hlo hAe hS
    exact x_throwN (own := R_PS) (cls := "java/util/NoSuchElementException") (text := "the line is not there") (ik := 80) (is := 111) (ic := 84) (sa := sa) hx hb hfl hown (by decide +kernel) (hts _ (List.mem_cons_of_mem _ mw_2_222)) (hts _ (List.mem_cons_of_mem _ mw_1_13)) (hst0.warm hO.1) (fun s9 hv9 hh9 => thr_at h0 ⟨by rw [hv9]; exact hO.1, by rw [hh9]; exact hok.1, fun q hq => by rw [hh9]; exact hok.2 q hq⟩ (nsAtoms R_PS 84 "java/util/NoSuchElementException") (List.mem_of_getElem? (i := 2) rfl)) (hl.1.trans hml.symm) d_PS_end_8 d_PS_end_11 d_PS_end_12 d_PS_end_14 d_PS_end_17 hex (Nat.le_of_ble_eq_true rfl) (Nat.le_of_ble_eq_true rfl) (Nat.le_of_ble_eq_true rfl) (Nat.le_of_ble_eq_true rfl) hlocks (fun t ha hz hk => ⟨(), ⟨Or.inl ⟨rfl, (Option.some.inj hI).symm⟩, thr_P hP hk, va_K.moved ha hK, hD⟩, thr_F hS hz hk⟩) hS.2.2 (Nat.le_of_ble_eq_true rfl) (Nat.le_of_ble_eq_true rfl)
