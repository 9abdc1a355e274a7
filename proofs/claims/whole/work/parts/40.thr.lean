set_option maxHeartbeats 4000000 in
set_option maxRecDepth 100000 in
theorem c_node0 (l : Launch) (hfl : l.stackTraces = false) (s0 : State) (h0 : T0 s0) (dC : Nat → ClassId) (dI : Nat → Nat → Nat) (sz : Nat) (ax ax_lessEnd ax_moreEnd ax_web ax_planeTest ax_palette ax_desk : Nat) (vi : Int32) : xMet l y_PS_node w_PS_node ({ frames := 6, cells := 1, slots := 6, locals := 90 }) (PreX_ s0 dC dI sz [.ref ax, .int vi] [(ax, .inr (0, [.int 0, .int 0, .ref ax_lessEnd, .ref ax_moreEnd, .ref ax_web, .ref ax_planeTest, .ref ax_palette, .ref ax_desk]))] []) (va_Qi (fun (r : Int32) (u : Int32) => ¬ f_isNN vi = 0 ∧ r = f_bc ((0 : Int32) ||| ((1 : Int32) <<< (vi &&& 31)))) (fun u t => End_ dC dI (va_A [(ax, .inr (0, [.int 0, .int 0, .ref ax_lessEnd, .ref ax_moreEnd, .ref ax_web, .ref ax_planeTest, .ref ax_palette, .ref ax_desk]))] sz) [] [(ax, .inr (0, [.int u, .int 0, .ref ax_lessEnd, .ref ax_moreEnd, .ref ax_web, .ref ax_planeTest, .ref ax_palette, .ref ax_desk]))] t) (va_A [(ax, .inr (0, [.int 0, .int 0, .ref ax_lessEnd, .ref ax_moreEnd, .ref ax_web, .ref ax_planeTest, .ref ax_palette, .ref ax_desk]))] sz)) (xX (fun E (u : Int32) t => (E = "java/lang/IndexOutOfBoundsException" ∧ f_isNN vi = 0) ∧ End_ dC dI (va_A [(ax, .inr (0, [.int 0, .int 0, .ref ax_lessEnd, .ref ax_moreEnd, .ref ax_web, .ref ax_planeTest, .ref ax_palette, .ref ax_desk]))] sz) [] [(ax, .inr (0, [.int u, .int 0, .ref ax_lessEnd, .ref ax_moreEnd, .ref ax_web, .ref ax_planeTest, .ref ax_palette, .ref ax_desk]))] t) (va_A [(ax, .inr (0, [.int 0, .int 0, .ref ax_lessEnd, .ref ax_moreEnd, .ref ax_web, .ref ax_planeTest, .ref ax_palette, .ref ax_desk]))] sz)) 1 6 (va_A [(ax, .inr (0, [.int 0, .int 0, .ref ax_lessEnd, .ref ax_moreEnd, .ref ax_web, .ref ax_planeTest, .ref ax_palette, .ref ax_desk]))] sz) := by
  refine xMet.ofW (cc := b_PS_node) (maxL := 2) (ret := (some .int)) (by decide) rfl ?_
  intro p e s m args below meth c s₁ B hml hex hv
  obtain ⟨hargs9, hsz9, hP9, hK9, hD9, hN9, hO, hlo⟩ := hv
  have hv : Pre_ dC dI sz [.ref ax, .int vi] [(ax, .inr (0, [.int 0, .int 0, .ref ax_lessEnd, .ref ax_moreEnd, .ref ax_web, .ref ax_planeTest, .ref ax_palette, .ref ax_desk]))] [] args s := ⟨hargs9, hsz9, hP9, hK9, hD9, hN9⟩
  have lo_x : s0.heap.size ≤ ax := hlo (ax, .inr (0, [.int 0, .int 0, .ref ax_lessEnd, .ref ax_moreEnd, .ref ax_web, .ref ax_planeTest, .ref ax_palette, .ref ax_desk])) (List.mem_of_getElem? (i := 0) rfl)
  obtain ⟨hargs, hsz, hP, hK, hD0, hN⟩ := hv
  have hx := B.exec
  have hb := B.bytes
  have hr := B.returns
  have hts := atoms_spec (ws := w_PS_node) B.pre
  have hown : s.vm.findClass R_PS = some m.cls := findClass_of_methodNamed B.named
  have hlocks := B.notSynchronized
  subst hsz
  have hD := hD0.self (sz := s.heap.size)
  generalize hAe : va_A [(ax, .inr (0, [.int 0, .int 0, .ref ax_lessEnd, .ref ax_moreEnd, .ref ax_web, .ref ax_planeTest, .ref ax_palette, .ref ax_desk]))] s.heap.size = A at hD ⊢
  have hA : ∀ q : Nat, s.heap.size ≤ q → A q := fun q h => by rw [← hAe]; exact Or.inr h
  have hS : va_S A s.heap s.heap [] := va_S.rf
  have hl := lv_entry ([.ref ax, .int vi]) (n := 2) (Nat.le_of_ble_eq_true rfl)
  refine W.eq (congrArg (fun a => entryFrame m a 2) hargs) ?_
  rw [lg_entry_eq]
  generalize (lg_sl ([.ref ax, .int vi]) ++ List.replicate (2 - (lg_sl ([.ref ax, .int vi])).length) Slot.unset).toArray = ls at hl ⊢
  have hl : lv_has ls 2 [(0, .ref ax), (1, .int vi)] := hl
  generalize hH0 : ([] : List Loc) = locs at hS ⊢
  refine lv_iload_n hx hb d_PS_node_0 rfl (lv_at hl 1 rfl) ?_
  have hPc := hP.sub (ws' := []) [] rfl
  have hDc := hD.sub (ws' := []) [] (by decide) rfl
  have hKc := hK.sub (tys' := []) [] rfl
  have hFc := va_free (wc := []) hD hS hA [] rfl
  refine va_calli (va_runS (As := [.int vi]) (rest := []) ⟨hx, hb, hml, hown, hts⟩ (c_isNN l dC dI s.heap.size vi) (cwS 1 hts (gi3 mw_2_121 mw_2_122 mw_1_1 mw_2_123) rfl rfl rfl (by decide +kernel) ⟨Nat.le_of_ble_eq_true rfl, Nat.le_of_ble_eq_true rfl⟩) ⟨fb_, pre_ hPc hKc hDc hN⟩ rfl rfl hl.1 rfl (lv_room (Nat.le_of_ble_eq_true rfl)) d_PS_node_1 ⟨Nat.le_of_ble_eq_true rfl, Nat.le_of_ble_eq_true rfl⟩) hS (fun q _ h => hFc q h) hFc (fun r_1 u t H locs ht hvm hp_1 hB hz1 hk1 hS => ?_)
  have hp_1 : r_1 = f_isNN vi := hp_1
  obtain ⟨hP1, -, hD1⟩ := hB
  rw [ht] at hP1
  obtain ⟨hP, hD⟩ := va_join (wr := [(ax, .inr (0, [.int 0, .int 0, .ref ax_lessEnd, .ref ax_moreEnd, .ref ax_web, .ref ax_planeTest, .ref ax_palette, .ref ax_desk]))]) (w1 := []) hP hD [] [0] rfl rfl (by decide) (by decide) hk1 hFc hP1 hD1
  have hP : va_P (dC, dI) classes [(ax, .inr (0, [.int 0, .int 0, .ref ax_lessEnd, .ref ax_moreEnd, .ref ax_web, .ref ax_planeTest, .ref ax_palette, .ref ax_desk]))] H := hP
  have hD : va_D A [(ax, .inr (0, [.int 0, .int 0, .ref ax_lessEnd, .ref ax_moreEnd, .ref ax_web, .ref ax_planeTest, .ref ax_palette, .ref ax_desk]))] := hD
  refine lv_if_ne (tgt := 17) hx hb d_PS_node_4 rfl (fun hc_4 => ?_) (fun hc_4 => ?_)
  · skip
    refine lv_aload_n hx hb d_PS_node_17 rfl (lv_at hl 0 rfl) ?_
    refine va_get (D := (dC, dI)) (ci := 0) (v := .int 0) (C := R_PS) (T := F_PS) (N := 8) hx hb hts (fun w h => List.mem_cons_of_mem _ (in_PS w h)) hown hK hP 0 rfl rfl 0 (by decide) (hts _ (List.mem_cons_of_mem _ mw_1_96)) (fun _ h9 => h9) rfl d_PS_node_18 ?_
    refine lv_iload_n hx hb d_PS_node_21 rfl (lv_at hl 1 rfl) ?_
    have hPc := hP.sub (ws' := []) [] rfl
    have hDc := hD.sub (ws' := []) [] (by decide) rfl
    have hKc := hK.sub (tys' := []) [] rfl
    have hFc := va_free (wc := []) hD hS hA [] rfl
    refine va_calli (va_runS (As := [.int 0, .int vi]) (rest := []) ⟨hx, hb, hml, hown, hts⟩ (c_has l dC dI H.size 0 vi) (cwS 2 hts (gi3 mw_1_148 mw_1_149 mw_1_1 mw_1_150) rfl rfl rfl (by decide +kernel) ⟨Nat.le_of_ble_eq_true rfl, Nat.le_of_ble_eq_true rfl⟩) ⟨fb_, pre_ hPc hKc hDc hN⟩ rfl rfl hl.1 rfl (lv_room (Nat.le_of_ble_eq_true rfl)) d_PS_node_22 ⟨Nat.le_of_ble_eq_true rfl, Nat.le_of_ble_eq_true rfl⟩) hS (fun q _ h => hFc q h) hFc (fun r_22 u t H locs ht hvm hp_22 hB hz1 hk1 hS => ?_)
    have hp_22 : r_22 = f_has 0 vi := hp_22
    obtain ⟨hP1, -, hD1⟩ := hB
    rw [ht] at hP1
    obtain ⟨hP, hD⟩ := va_join (wr := [(ax, .inr (0, [.int 0, .int 0, .ref ax_lessEnd, .ref ax_moreEnd, .ref ax_web, .ref ax_planeTest, .ref ax_palette, .ref ax_desk]))]) (w1 := []) hP hD [] [0] rfl rfl (by decide) (by decide) hk1 hFc hP1 hD1
    have hP : va_P (dC, dI) classes [(ax, .inr (0, [.int 0, .int 0, .ref ax_lessEnd, .ref ax_moreEnd, .ref ax_web, .ref ax_planeTest, .ref ax_palette, .ref ax_desk]))] H := hP
    have hD : va_D A [(ax, .inr (0, [.int 0, .int 0, .ref ax_lessEnd, .ref ax_moreEnd, .ref ax_web, .ref ax_planeTest, .ref ax_palette, .ref ax_desk]))] := hD
    refine lv_if_eq (tgt := 38) hx hb d_PS_node_25 rfl (fun hc_25 => ?_) (fun hc_25 => absurd (hp_22.trans (has0 _)) hc_25)
    refine lv_aload_n hx hb d_PS_node_38 rfl (lv_at hl 0 rfl) ?_
    refine lv_dup hx hb d_PS_node_39 rfl ?_
    refine va_get (D := (dC, dI)) (ci := 0) (v := .int 0) (C := R_PS) (T := F_PS) (N := 8) hx hb hts (fun w h => List.mem_cons_of_mem _ (in_PS w h)) hown hK hP 0 rfl rfl 0 (by decide) (hts _ (List.mem_cons_of_mem _ mw_1_96)) (fun _ h9 => h9) rfl d_PS_node_40 ?_
    refine lv_iconst (v := 1) hx hb d_PS_node_43 (by decide) ?_
    refine lv_iload_n hx hb d_PS_node_44 rfl (lv_at hl 1 rfl) ?_
    refine lv_ishl hx hb d_PS_node_45 ?_
    refine lv_ior hx hb d_PS_node_46 ?_
    refine va_put (D := (dC, dI)) (ci := 0) (v := .int ((0 : Int32) ||| ((1 : Int32) <<< (vi &&& 31)))) (ty := .int) (C := R_PS) (T := F_PS) (N := 8) hx hb hts (fun w h => List.mem_cons_of_mem _ (in_PS w h)) t_PS t_PS_ok n_PS hown hK hP hD hS 0 rfl rfl 0 (by decide) (hts _ (List.mem_cons_of_mem _ mw_1_96)) (fun _ h9 => h9) rfl (by decide +kernel) rfl rfl (Nat.le_of_ble_eq_true rfl) d_PS_node_47 (fun H locs hP hD hS => ?_)
    have hP : va_P (dC, dI) classes [(ax, .inr (0, [.int ((0 : Int32) ||| ((1 : Int32) <<< (vi &&& 31))), .int 0, .ref ax_lessEnd, .ref ax_moreEnd, .ref ax_web, .ref ax_planeTest, .ref ax_palette, .ref ax_desk]))] H := hP
    have hD : va_D A [(ax, .inr (0, [.int ((0 : Int32) ||| ((1 : Int32) <<< (vi &&& 31))), .int 0, .ref ax_lessEnd, .ref ax_moreEnd, .ref ax_web, .ref ax_planeTest, .ref ax_palette, .ref ax_desk]))] := hD
    refine lv_aload_n hx hb d_PS_node_50 rfl (lv_at hl 0 rfl) ?_
    refine va_get (D := (dC, dI)) (ci := 0) (v := .int ((0 : Int32) ||| ((1 : Int32) <<< (vi &&& 31)))) (C := R_PS) (T := F_PS) (N := 8) hx hb hts (fun w h => List.mem_cons_of_mem _ (in_PS w h)) hown hK hP 0 rfl rfl 0 (by decide) (hts _ (List.mem_cons_of_mem _ mw_1_96)) (fun _ h9 => h9) rfl d_PS_node_51 ?_
    have hPc := hP.sub (ws' := []) [] rfl
    have hDc := hD.sub (ws' := []) [] (by decide) rfl
    have hKc := hK.sub (tys' := []) [] rfl
    have hFc := va_free (wc := []) hD hS hA [] rfl
    refine va_calli (va_runS (As := [.int ((0 : Int32) ||| ((1 : Int32) <<< (vi &&& 31)))]) (rest := []) ⟨hx, hb, hml, hown, hts⟩ (c_bitCount l dC dI H.size ((0 : Int32) ||| ((1 : Int32) <<< (vi &&& 31)))) (va_cwS 1 hts (gi3 mw_1_216 mw_1_164 mw_1_12 mw_1_165) rfl rfl rfl (by decide +kernel) ⟨Nat.le_of_ble_eq_true rfl, Nat.le_of_ble_eq_true rfl⟩) ⟨fb_, pre_ hPc hKc hDc hN⟩ rfl rfl hl.1 rfl (lv_room (Nat.le_of_ble_eq_true rfl)) d_PS_node_54 ⟨Nat.le_of_ble_eq_true rfl, Nat.le_of_ble_eq_true rfl⟩) hS (fun q _ h => hFc q h) hFc (fun r_54 u t H locs ht hvm hp_54 hB hz1 hk1 hS => ?_)
    have hp_54 : r_54 = f_bc ((0 : Int32) ||| ((1 : Int32) <<< (vi &&& 31))) := hp_54
    obtain ⟨hP1, -, hD1⟩ := hB
    rw [ht] at hP1
    obtain ⟨hP, hD⟩ := va_join (wr := [(ax, .inr (0, [.int ((0 : Int32) ||| ((1 : Int32) <<< (vi &&& 31))), .int 0, .ref ax_lessEnd, .ref ax_moreEnd, .ref ax_web, .ref ax_planeTest, .ref ax_palette, .ref ax_desk]))]) (w1 := []) hP hD [] [0] rfl rfl (by decide) (by decide) hk1 hFc hP1 hD1
    have hP : va_P (dC, dI) classes [(ax, .inr (0, [.int ((0 : Int32) ||| ((1 : Int32) <<< (vi &&& 31))), .int 0, .ref ax_lessEnd, .ref ax_moreEnd, .ref ax_web, .ref ax_planeTest, .ref ax_palette, .ref ax_desk]))] H := hP
    have hD : va_D A [(ax, .inr (0, [.int ((0 : Int32) ||| ((1 : Int32) <<< (vi &&& 31))), .int 0, .ref ax_lessEnd, .ref ax_moreEnd, .ref ax_web, .ref ax_planeTest, .ref ax_palette, .ref ax_desk]))] := hD
    refine x_ret ?_
    refine W.widen (k := 1) (n := 6) (Nat.le_of_ble_eq_true rfl) (Nat.le_of_ble_eq_true rfl) ?_
    exact W.iret (v := r_54) hx hb hr (fun t ht hW => ⟨⟨r_54, ((0 : Int32) ||| ((1 : Int32) <<< (vi &&& 31))), rfl, ⟨(by rw [← hp_1]; exact hc_4), hp_54⟩, by rw [ht]; exact hP, va_K.moved hW.alike hK, hD⟩, hS.F ht⟩) hS.2.2 d_PS_node_57
  · skip
    obtain ⟨sa, hst0⟩ := h0.2 (R_PS, 57, "no such node") (by decide +kernel)
    have hok := og_keep hO hlo hAe hS
    exact x_throw (own := R_PS) (cls := "java/lang/IndexOutOfBoundsException") (text := "no such node") (names := ["java/lang/RuntimeException", "java/lang/Exception"]) (ik := 55) (is := 57) (ic := 59) (sa := sa) hx hb hfl hown (by decide +kernel) (by decide +kernel) (hts _ (List.mem_cons_of_mem _ mw_2_124)) (hts _ (List.mem_cons_of_mem _ mw_1_10)) (hst0.warm hO.1) (fun s9 hv9 hh9 => thr_at h0 ⟨by rw [hv9]; exact hO.1, by rw [hh9]; exact hok.1, fun q hq => by rw [hh9]; exact hok.2 q hq⟩ (Bundle.ownAtoms R_PS 59 "java/lang/IndexOutOfBoundsException" ["java/lang/RuntimeException", "java/lang/Exception"]) (List.mem_of_getElem? (i := 0) rfl)) (hl.1.trans hml.symm) d_PS_node_7 d_PS_node_10 d_PS_node_11 d_PS_node_13 d_PS_node_16 hex (Nat.le_of_ble_eq_true rfl) (Nat.le_of_ble_eq_true rfl) (Nat.le_of_ble_eq_true rfl) (Nat.le_of_ble_eq_true rfl) hlocks (fun t ha hz hk => ⟨(0), ⟨⟨rfl, (by rw [← hp_1]; exact hc_4)⟩, thr_P hP hk, va_K.moved ha hK, hD⟩, thr_F hS hz hk⟩) hS.2.2 (Nat.le_of_ble_eq_true rfl) (Nat.le_of_ble_eq_true rfl)
set_option maxHeartbeats 4000000 in
set_option maxRecDepth 100000 in
theorem c_line0 (l : Launch) (hfl : l.stackTraces = false) (s0 : State) (h0 : T0 s0) (dC : Nat → ClassId) (dI : Nat → Nat → Nat) (sz : Nat) (ax ax_lessEnd ax_moreEnd ax_web ax_planeTest ax_palette ax_desk : Nat) (vi vj : Int32) : xMet l y_PS_line w_PS_line ({ frames := 6, cells := 1, slots := 6, locals := 90 }) (PreX_ s0 dC dI sz [.ref ax, .int vi, .int vj] [(ax, .inr (0, [.int 0, .int 0, .ref ax_lessEnd, .ref ax_moreEnd, .ref ax_web, .ref ax_planeTest, .ref ax_palette, .ref ax_desk]))] []) (va_Qi (fun (r : Int32) (u : Unit) => False) (fun u t => End_ dC dI (va_A [(ax, .inr (0, [.int 0, .int 0, .ref ax_lessEnd, .ref ax_moreEnd, .ref ax_web, .ref ax_planeTest, .ref ax_palette, .ref ax_desk]))] sz) [] [(ax, .inr (0, [.int 0, .int 0, .ref ax_lessEnd, .ref ax_moreEnd, .ref ax_web, .ref ax_planeTest, .ref ax_palette, .ref ax_desk]))] t) (va_A [(ax, .inr (0, [.int 0, .int 0, .ref ax_lessEnd, .ref ax_moreEnd, .ref ax_web, .ref ax_planeTest, .ref ax_palette, .ref ax_desk]))] sz)) (xX (fun E (u : Unit) t => (E = "java/util/NoSuchElementException") ∧ End_ dC dI (va_A [(ax, .inr (0, [.int 0, .int 0, .ref ax_lessEnd, .ref ax_moreEnd, .ref ax_web, .ref ax_planeTest, .ref ax_palette, .ref ax_desk]))] sz) [] [(ax, .inr (0, [.int 0, .int 0, .ref ax_lessEnd, .ref ax_moreEnd, .ref ax_web, .ref ax_planeTest, .ref ax_palette, .ref ax_desk]))] t) (va_A [(ax, .inr (0, [.int 0, .int 0, .ref ax_lessEnd, .ref ax_moreEnd, .ref ax_web, .ref ax_planeTest, .ref ax_palette, .ref ax_desk]))] sz)) 1 6 (va_A [(ax, .inr (0, [.int 0, .int 0, .ref ax_lessEnd, .ref ax_moreEnd, .ref ax_web, .ref ax_planeTest, .ref ax_palette, .ref ax_desk]))] sz) := by
  refine xMet.ofW (cc := b_PS_line) (maxL := 4) (ret := (some .int)) (by decide) rfl ?_
  intro p e s m args below meth c s₁ B hml hex hv
  obtain ⟨hargs9, hsz9, hP9, hK9, hD9, hN9, hO, hlo⟩ := hv
  have hv : Pre_ dC dI sz [.ref ax, .int vi, .int vj] [(ax, .inr (0, [.int 0, .int 0, .ref ax_lessEnd, .ref ax_moreEnd, .ref ax_web, .ref ax_planeTest, .ref ax_palette, .ref ax_desk]))] [] args s := ⟨hargs9, hsz9, hP9, hK9, hD9, hN9⟩
  have lo_x : s0.heap.size ≤ ax := hlo (ax, .inr (0, [.int 0, .int 0, .ref ax_lessEnd, .ref ax_moreEnd, .ref ax_web, .ref ax_planeTest, .ref ax_palette, .ref ax_desk])) (List.mem_of_getElem? (i := 0) rfl)
  obtain ⟨hargs, hsz, hP, hK, hD0, hN⟩ := hv
  have hx := B.exec
  have hb := B.bytes
  have hr := B.returns
  have hts := atoms_spec (ws := w_PS_line) B.pre
  have hown : s.vm.findClass R_PS = some m.cls := findClass_of_methodNamed B.named
  have hlocks := B.notSynchronized
  subst hsz
  have hD := hD0.self (sz := s.heap.size)
  generalize hAe : va_A [(ax, .inr (0, [.int 0, .int 0, .ref ax_lessEnd, .ref ax_moreEnd, .ref ax_web, .ref ax_planeTest, .ref ax_palette, .ref ax_desk]))] s.heap.size = A at hD ⊢
  have hA : ∀ q : Nat, s.heap.size ≤ q → A q := fun q h => by rw [← hAe]; exact Or.inr h
  have hS : va_S A s.heap s.heap [] := va_S.rf
  have hl := lv_entry ([.ref ax, .int vi, .int vj]) (n := 4) (Nat.le_of_ble_eq_true rfl)
  refine W.eq (congrArg (fun a => entryFrame m a 4) hargs) ?_
  rw [lg_entry_eq]
  generalize (lg_sl ([.ref ax, .int vi, .int vj]) ++ List.replicate (4 - (lg_sl ([.ref ax, .int vi, .int vj])).length) Slot.unset).toArray = ls at hl ⊢
  have hl : lv_has ls 4 [(0, .ref ax), (1, .int vi), (2, .int vj)] := hl
  generalize hH0 : ([] : List Loc) = locs at hS ⊢
  refine lv_aload_n hx hb d_PS_line_0 rfl (lv_at hl 0 rfl) ?_
  refine lv_iload_n hx hb d_PS_line_1 rfl (lv_at hl 1 rfl) ?_
  have hPc := hP.sub (ws' := [(ax, .inr (0, [.int 0, .int 0, .ref ax_lessEnd, .ref ax_moreEnd, .ref ax_web, .ref ax_planeTest, .ref ax_palette, .ref ax_desk]))]) [0] rfl
  have hDc := hD.sub (ws' := [(ax, .inr (0, [.int 0, .int 0, .ref ax_lessEnd, .ref ax_moreEnd, .ref ax_web, .ref ax_planeTest, .ref ax_palette, .ref ax_desk]))]) [0] (by decide) rfl
  have hKc := hK.sub (tys' := []) [] rfl
  have hFc := va_free (wc := [(ax, .inr (0, [.int 0, .int 0, .ref ax_lessEnd, .ref ax_moreEnd, .ref ax_web, .ref ax_planeTest, .ref ax_palette, .ref ax_desk]))]) hD hS hA [0] rfl
  refine va_calli (va_runV (As := [.int vi]) (rest := []) ⟨hx, hb, hml, hown, hts⟩ (c_nodeIsThere l dC dI s.heap.size ax ax_lessEnd ax_moreEnd ax_web ax_planeTest ax_palette ax_desk 0 0 vi) (cwV 1 hts (gi4 mw_2_218 mw_2_220 mw_p_26 mw_1_1 mw_2_221) rfl rfl rfl (by decide +kernel) ⟨Nat.le_of_ble_eq_true rfl, Nat.le_of_ble_eq_true rfl⟩) ⟨fb_, va_recv (q0 := 0) (ci := 0) hK hP rfl rfl, pre_ hPc hKc hDc hN⟩ rfl rfl hl.1 rfl (lv_room (Nat.le_of_ble_eq_true rfl)) d_PS_line_2 ⟨Nat.le_of_ble_eq_true rfl, Nat.le_of_ble_eq_true rfl⟩) hS (fun q _ h => hFc q h) hFc (fun r_2 u t H locs ht hvm hp_2 hB hz1 hk1 hS => ?_)
  have hp_2 : r_2 = f_nit 0 vi := hp_2
  obtain ⟨hP1, -, hD1⟩ := hB
  rw [ht] at hP1
  obtain ⟨hP, hD⟩ := va_join (wr := []) (w1 := [(ax, .inr (0, [.int 0, .int 0, .ref ax_lessEnd, .ref ax_moreEnd, .ref ax_web, .ref ax_planeTest, .ref ax_palette, .ref ax_desk]))]) hP hD [0] [] rfl rfl (by decide) (by decide) hk1 hFc hP1 hD1
  have hP : va_P (dC, dI) classes [(ax, .inr (0, [.int 0, .int 0, .ref ax_lessEnd, .ref ax_moreEnd, .ref ax_web, .ref ax_planeTest, .ref ax_palette, .ref ax_desk]))] H := hP
  have hD : va_D A [(ax, .inr (0, [.int 0, .int 0, .ref ax_lessEnd, .ref ax_moreEnd, .ref ax_web, .ref ax_planeTest, .ref ax_palette, .ref ax_desk]))] := hD
  refine lv_if_eq (tgt := 16) hx hb d_PS_line_5 rfl (fun hc_5 => ?_) (fun hc_5 => absurd (hp_2.trans (zz_nit0 _)) hc_5)
  obtain ⟨sa, hst0⟩ := h0.2 (R_PS, 82, "a node is not there") (by decide +kernel)
  have hok := og_keep hO hlo hAe hS
  exact x_throwN (own := R_PS) (cls := "java/util/NoSuchElementException") (text := "a node is not there") (ik := 80) (is := 82) (ic := 84) (sa := sa) hx hb hfl hown (by decide +kernel) (hts _ (List.mem_cons_of_mem _ mw_2_222)) (hts _ (List.mem_cons_of_mem _ mw_1_13)) (hst0.warm hO.1) (fun s9 hv9 hh9 => thr_at h0 ⟨by rw [hv9]; exact hO.1, by rw [hh9]; exact hok.1, fun q hq => by rw [hh9]; exact hok.2 q hq⟩ (nsAtoms R_PS 84 "java/util/NoSuchElementException") (List.mem_of_getElem? (i := 2) rfl)) (hl.1.trans hml.symm) d_PS_line_16 d_PS_line_19 d_PS_line_20 d_PS_line_22 d_PS_line_25 hex (Nat.le_of_ble_eq_true rfl) (Nat.le_of_ble_eq_true rfl) (Nat.le_of_ble_eq_true rfl) (Nat.le_of_ble_eq_true rfl) hlocks (fun t ha hz hk => ⟨(), ⟨rfl, thr_P hP hk, va_K.moved ha hK, hD⟩, thr_F hS hz hk⟩) hS.2.2 (Nat.le_of_ble_eq_true rfl) (Nat.le_of_ble_eq_true rfl)
set_option maxHeartbeats 4000000 in
set_option maxRecDepth 100000 in
theorem c_cut0 (l : Launch) (hfl : l.stackTraces = false) (s0 : State) (h0 : T0 s0) (dC : Nat → ClassId) (dI : Nat → Nat → Nat) (sz : Nat) (ax ax_lessEnd ax_moreEnd ax_web ax_planeTest ax_palette ax_desk : Nat) (vi : Int32) : xMet l y_PS_cut w_PS_cut ({ frames := 6, cells := 1, slots := 6, locals := 90 }) (PreX_ s0 dC dI sz [.ref ax, .int vi] [(ax, .inr (0, [.int 0, .int 0, .ref ax_lessEnd, .ref ax_moreEnd, .ref ax_web, .ref ax_planeTest, .ref ax_palette, .ref ax_desk]))] []) (va_Qi (fun (r : Int32) (u : Unit) => False) (fun u t => End_ dC dI (va_A [(ax, .inr (0, [.int 0, .int 0, .ref ax_lessEnd, .ref ax_moreEnd, .ref ax_web, .ref ax_planeTest, .ref ax_palette, .ref ax_desk]))] sz) [] [(ax, .inr (0, [.int 0, .int 0, .ref ax_lessEnd, .ref ax_moreEnd, .ref ax_web, .ref ax_planeTest, .ref ax_palette, .ref ax_desk]))] t) (va_A [(ax, .inr (0, [.int 0, .int 0, .ref ax_lessEnd, .ref ax_moreEnd, .ref ax_web, .ref ax_planeTest, .ref ax_palette, .ref ax_desk]))] sz)) (xX (fun E (u : Unit) t => (E = "java/util/NoSuchElementException") ∧ End_ dC dI (va_A [(ax, .inr (0, [.int 0, .int 0, .ref ax_lessEnd, .ref ax_moreEnd, .ref ax_web, .ref ax_planeTest, .ref ax_palette, .ref ax_desk]))] sz) [] [(ax, .inr (0, [.int 0, .int 0, .ref ax_lessEnd, .ref ax_moreEnd, .ref ax_web, .ref ax_planeTest, .ref ax_palette, .ref ax_desk]))] t) (va_A [(ax, .inr (0, [.int 0, .int 0, .ref ax_lessEnd, .ref ax_moreEnd, .ref ax_web, .ref ax_planeTest, .ref ax_palette, .ref ax_desk]))] sz)) 1 6 (va_A [(ax, .inr (0, [.int 0, .int 0, .ref ax_lessEnd, .ref ax_moreEnd, .ref ax_web, .ref ax_planeTest, .ref ax_palette, .ref ax_desk]))] sz) := by
  refine xMet.ofW (cc := b_PS_cut) (maxL := 2) (ret := (some .int)) (by decide) rfl ?_
  intro p e s m args below meth c s₁ B hml hex hv
  obtain ⟨hargs9, hsz9, hP9, hK9, hD9, hN9, hO, hlo⟩ := hv
  have hv : Pre_ dC dI sz [.ref ax, .int vi] [(ax, .inr (0, [.int 0, .int 0, .ref ax_lessEnd, .ref ax_moreEnd, .ref ax_web, .ref ax_planeTest, .ref ax_palette, .ref ax_desk]))] [] args s := ⟨hargs9, hsz9, hP9, hK9, hD9, hN9⟩
  have lo_x : s0.heap.size ≤ ax := hlo (ax, .inr (0, [.int 0, .int 0, .ref ax_lessEnd, .ref ax_moreEnd, .ref ax_web, .ref ax_planeTest, .ref ax_palette, .ref ax_desk])) (List.mem_of_getElem? (i := 0) rfl)
  obtain ⟨hargs, hsz, hP, hK, hD0, hN⟩ := hv
  have hx := B.exec
  have hb := B.bytes
  have hr := B.returns
  have hts := atoms_spec (ws := w_PS_cut) B.pre
  have hown : s.vm.findClass R_PS = some m.cls := findClass_of_methodNamed B.named
  have hlocks := B.notSynchronized
  subst hsz
  have hD := hD0.self (sz := s.heap.size)
  generalize hAe : va_A [(ax, .inr (0, [.int 0, .int 0, .ref ax_lessEnd, .ref ax_moreEnd, .ref ax_web, .ref ax_planeTest, .ref ax_palette, .ref ax_desk]))] s.heap.size = A at hD ⊢
  have hA : ∀ q : Nat, s.heap.size ≤ q → A q := fun q h => by rw [← hAe]; exact Or.inr h
  have hS : va_S A s.heap s.heap [] := va_S.rf
  have hl := lv_entry ([.ref ax, .int vi]) (n := 2) (Nat.le_of_ble_eq_true rfl)
  refine W.eq (congrArg (fun a => entryFrame m a 2) hargs) ?_
  rw [lg_entry_eq]
  generalize (lg_sl ([.ref ax, .int vi]) ++ List.replicate (2 - (lg_sl ([.ref ax, .int vi])).length) Slot.unset).toArray = ls at hl ⊢
  have hl : lv_has ls 2 [(0, .ref ax), (1, .int vi)] := hl
  generalize hH0 : ([] : List Loc) = locs at hS ⊢
  refine lv_aload_n hx hb d_PS_cut_0 rfl (lv_at hl 0 rfl) ?_
  refine lv_iload_n hx hb d_PS_cut_1 rfl (lv_at hl 1 rfl) ?_
  have hPc := hP.sub (ws' := [(ax, .inr (0, [.int 0, .int 0, .ref ax_lessEnd, .ref ax_moreEnd, .ref ax_web, .ref ax_planeTest, .ref ax_palette, .ref ax_desk]))]) [0] rfl
  have hDc := hD.sub (ws' := [(ax, .inr (0, [.int 0, .int 0, .ref ax_lessEnd, .ref ax_moreEnd, .ref ax_web, .ref ax_planeTest, .ref ax_palette, .ref ax_desk]))]) [0] (by decide) rfl
  have hKc := hK.sub (tys' := []) [] rfl
  have hFc := va_free (wc := [(ax, .inr (0, [.int 0, .int 0, .ref ax_lessEnd, .ref ax_moreEnd, .ref ax_web, .ref ax_planeTest, .ref ax_palette, .ref ax_desk]))]) hD hS hA [0] rfl
  refine va_calli (va_runV (As := [.int vi]) (rest := []) ⟨hx, hb, hml, hown, hts⟩ (c_lineIsThere l dC dI s.heap.size ax ax_lessEnd ax_moreEnd ax_web ax_planeTest ax_palette ax_desk 0 0 vi) (cwV 1 hts (gi4 mw_3_28 mw_3_30 mw_p_28 mw_1_1 mw_3_31) rfl rfl rfl (by decide +kernel) ⟨Nat.le_of_ble_eq_true rfl, Nat.le_of_ble_eq_true rfl⟩) ⟨fb_, va_recv (q0 := 0) (ci := 0) hK hP rfl rfl, pre_ hPc hKc hDc hN⟩ rfl rfl hl.1 rfl (lv_room (Nat.le_of_ble_eq_true rfl)) d_PS_cut_2 ⟨Nat.le_of_ble_eq_true rfl, Nat.le_of_ble_eq_true rfl⟩) hS (fun q _ h => hFc q h) hFc (fun r_2 u t H locs ht hvm hp_2 hB hz1 hk1 hS => ?_)
  have hp_2 : r_2 = f_lit 0 vi := hp_2
  obtain ⟨hP1, -, hD1⟩ := hB
  rw [ht] at hP1
  obtain ⟨hP, hD⟩ := va_join (wr := []) (w1 := [(ax, .inr (0, [.int 0, .int 0, .ref ax_lessEnd, .ref ax_moreEnd, .ref ax_web, .ref ax_planeTest, .ref ax_palette, .ref ax_desk]))]) hP hD [0] [] rfl rfl (by decide) (by decide) hk1 hFc hP1 hD1
  have hP : va_P (dC, dI) classes [(ax, .inr (0, [.int 0, .int 0, .ref ax_lessEnd, .ref ax_moreEnd, .ref ax_web, .ref ax_planeTest, .ref ax_palette, .ref ax_desk]))] H := hP
  have hD : va_D A [(ax, .inr (0, [.int 0, .int 0, .ref ax_lessEnd, .ref ax_moreEnd, .ref ax_web, .ref ax_planeTest, .ref ax_palette, .ref ax_desk]))] := hD
  refine lv_if_ne (tgt := 18) hx hb d_PS_cut_5 rfl (fun hc_5 => absurd (hp_2.trans (zz_lit0 _)) hc_5) (fun hc_5 => ?_)
  obtain ⟨sa, hst0⟩ := h0.2 (R_PS, 111, "the line is not there") (by decide +kernel)
  have hok := og_keep hO hlo hAe hS
  exact x_throwN (own := R_PS) (cls := "java/util/NoSuchElementException") (text := "the line is not there") (ik := 80) (is := 111) (ic := 84) (sa := sa) hx hb hfl hown (by decide +kernel) (hts _ (List.mem_cons_of_mem _ mw_2_222)) (hts _ (List.mem_cons_of_mem _ mw_1_13)) (hst0.warm hO.1) (fun s9 hv9 hh9 => thr_at h0 ⟨by rw [hv9]; exact hO.1, by rw [hh9]; exact hok.1, fun q hq => by rw [hh9]; exact hok.2 q hq⟩ (nsAtoms R_PS 84 "java/util/NoSuchElementException") (List.mem_of_getElem? (i := 2) rfl)) (hl.1.trans hml.symm) d_PS_cut_8 d_PS_cut_11 d_PS_cut_12 d_PS_cut_14 d_PS_cut_17 hex (Nat.le_of_ble_eq_true rfl) (Nat.le_of_ble_eq_true rfl) (Nat.le_of_ble_eq_true rfl) (Nat.le_of_ble_eq_true rfl) hlocks (fun t ha hz hk => ⟨(), ⟨rfl, thr_P hP hk, va_K.moved ha hK, hD⟩, thr_F hS hz hk⟩) hS.2.2 (Nat.le_of_ble_eq_true rfl) (Nat.le_of_ble_eq_true rfl)
set_option maxHeartbeats 4000000 in
set_option maxRecDepth 100000 in
theorem c_drop0 (l : Launch) (hfl : l.stackTraces = false) (s0 : State) (h0 : T0 s0) (dC : Nat → ClassId) (dI : Nat → Nat → Nat) (sz : Nat) (ax ax_lessEnd ax_moreEnd ax_web ax_planeTest ax_palette ax_desk : Nat) (vi : Int32) : xMet l y_PS_drop w_PS_drop ({ frames := 6, cells := 1, slots := 6, locals := 90 }) (PreX_ s0 dC dI sz [.ref ax, .int vi] [(ax, .inr (0, [.int 0, .int 0, .ref ax_lessEnd, .ref ax_moreEnd, .ref ax_web, .ref ax_planeTest, .ref ax_palette, .ref ax_desk]))] []) (va_Qi (fun (r : Int32) (u : Unit) => False) (fun u t => End_ dC dI (va_A [(ax, .inr (0, [.int 0, .int 0, .ref ax_lessEnd, .ref ax_moreEnd, .ref ax_web, .ref ax_planeTest, .ref ax_palette, .ref ax_desk]))] sz) [] [(ax, .inr (0, [.int 0, .int 0, .ref ax_lessEnd, .ref ax_moreEnd, .ref ax_web, .ref ax_planeTest, .ref ax_palette, .ref ax_desk]))] t) (va_A [(ax, .inr (0, [.int 0, .int 0, .ref ax_lessEnd, .ref ax_moreEnd, .ref ax_web, .ref ax_planeTest, .ref ax_palette, .ref ax_desk]))] sz)) (xX (fun E (u : Unit) t => (E = "java/util/NoSuchElementException") ∧ End_ dC dI (va_A [(ax, .inr (0, [.int 0, .int 0, .ref ax_lessEnd, .ref ax_moreEnd, .ref ax_web, .ref ax_planeTest, .ref ax_palette, .ref ax_desk]))] sz) [] [(ax, .inr (0, [.int 0, .int 0, .ref ax_lessEnd, .ref ax_moreEnd, .ref ax_web, .ref ax_planeTest, .ref ax_palette, .ref ax_desk]))] t) (va_A [(ax, .inr (0, [.int 0, .int 0, .ref ax_lessEnd, .ref ax_moreEnd, .ref ax_web, .ref ax_planeTest, .ref ax_palette, .ref ax_desk]))] sz)) 1 6 (va_A [(ax, .inr (0, [.int 0, .int 0, .ref ax_lessEnd, .ref ax_moreEnd, .ref ax_web, .ref ax_planeTest, .ref ax_palette, .ref ax_desk]))] sz) := by
  refine xMet.ofW (cc := b_PS_drop) (maxL := 3) (ret := (some .int)) (by decide) rfl ?_
  intro p e s m args below meth c s₁ B hml hex hv
  obtain ⟨hargs9, hsz9, hP9, hK9, hD9, hN9, hO, hlo⟩ := hv
  have hv : Pre_ dC dI sz [.ref ax, .int vi] [(ax, .inr (0, [.int 0, .int 0, .ref ax_lessEnd, .ref ax_moreEnd, .ref ax_web, .ref ax_planeTest, .ref ax_palette, .ref ax_desk]))] [] args s := ⟨hargs9, hsz9, hP9, hK9, hD9, hN9⟩
  have lo_x : s0.heap.size ≤ ax := hlo (ax, .inr (0, [.int 0, .int 0, .ref ax_lessEnd, .ref ax_moreEnd, .ref ax_web, .ref ax_planeTest, .ref ax_palette, .ref ax_desk])) (List.mem_of_getElem? (i := 0) rfl)
  obtain ⟨hargs, hsz, hP, hK, hD0, hN⟩ := hv
  have hx := B.exec
  have hb := B.bytes
  have hr := B.returns
  have hts := atoms_spec (ws := w_PS_drop) B.pre
  have hown : s.vm.findClass R_PS = some m.cls := findClass_of_methodNamed B.named
  have hlocks := B.notSynchronized
  subst hsz
  have hD := hD0.self (sz := s.heap.size)
  generalize hAe : va_A [(ax, .inr (0, [.int 0, .int 0, .ref ax_lessEnd, .ref ax_moreEnd, .ref ax_web, .ref ax_planeTest, .ref ax_palette, .ref ax_desk]))] s.heap.size = A at hD ⊢
  have hA : ∀ q : Nat, s.heap.size ≤ q → A q := fun q h => by rw [← hAe]; exact Or.inr h
  have hS : va_S A s.heap s.heap [] := va_S.rf
  have hl := lv_entry ([.ref ax, .int vi]) (n := 3) (Nat.le_of_ble_eq_true rfl)
  refine W.eq (congrArg (fun a => entryFrame m a 3) hargs) ?_
  rw [lg_entry_eq]
  generalize (lg_sl ([.ref ax, .int vi]) ++ List.replicate (3 - (lg_sl ([.ref ax, .int vi])).length) Slot.unset).toArray = ls at hl ⊢
  have hl : lv_has ls 3 [(0, .ref ax), (1, .int vi)] := hl
  generalize hH0 : ([] : List Loc) = locs at hS ⊢
  refine lv_aload_n hx hb d_PS_drop_0 rfl (lv_at hl 0 rfl) ?_
  refine lv_iload_n hx hb d_PS_drop_1 rfl (lv_at hl 1 rfl) ?_
  have hPc := hP.sub (ws' := [(ax, .inr (0, [.int 0, .int 0, .ref ax_lessEnd, .ref ax_moreEnd, .ref ax_web, .ref ax_planeTest, .ref ax_palette, .ref ax_desk]))]) [0] rfl
  have hDc := hD.sub (ws' := [(ax, .inr (0, [.int 0, .int 0, .ref ax_lessEnd, .ref ax_moreEnd, .ref ax_web, .ref ax_planeTest, .ref ax_palette, .ref ax_desk]))]) [0] (by decide) rfl
  have hKc := hK.sub (tys' := []) [] rfl
  have hFc := va_free (wc := [(ax, .inr (0, [.int 0, .int 0, .ref ax_lessEnd, .ref ax_moreEnd, .ref ax_web, .ref ax_planeTest, .ref ax_palette, .ref ax_desk]))]) hD hS hA [0] rfl
  refine va_calli (va_runV (As := [.int vi]) (rest := []) ⟨hx, hb, hml, hown, hts⟩ (c_nodeIsThere l dC dI s.heap.size ax ax_lessEnd ax_moreEnd ax_web ax_planeTest ax_palette ax_desk 0 0 vi) (cwV 1 hts (gi4 mw_2_218 mw_2_220 mw_p_26 mw_1_1 mw_2_221) rfl rfl rfl (by decide +kernel) ⟨Nat.le_of_ble_eq_true rfl, Nat.le_of_ble_eq_true rfl⟩) ⟨fb_, va_recv (q0 := 0) (ci := 0) hK hP rfl rfl, pre_ hPc hKc hDc hN⟩ rfl rfl hl.1 rfl (lv_room (Nat.le_of_ble_eq_true rfl)) d_PS_drop_2 ⟨Nat.le_of_ble_eq_true rfl, Nat.le_of_ble_eq_true rfl⟩) hS (fun q _ h => hFc q h) hFc (fun r_2 u t H locs ht hvm hp_2 hB hz1 hk1 hS => ?_)
  have hp_2 : r_2 = f_nit 0 vi := hp_2
  obtain ⟨hP1, -, hD1⟩ := hB
  rw [ht] at hP1
  obtain ⟨hP, hD⟩ := va_join (wr := []) (w1 := [(ax, .inr (0, [.int 0, .int 0, .ref ax_lessEnd, .ref ax_moreEnd, .ref ax_web, .ref ax_planeTest, .ref ax_palette, .ref ax_desk]))]) hP hD [0] [] rfl rfl (by decide) (by decide) hk1 hFc hP1 hD1
  have hP : va_P (dC, dI) classes [(ax, .inr (0, [.int 0, .int 0, .ref ax_lessEnd, .ref ax_moreEnd, .ref ax_web, .ref ax_planeTest, .ref ax_palette, .ref ax_desk]))] H := hP
  have hD : va_D A [(ax, .inr (0, [.int 0, .int 0, .ref ax_lessEnd, .ref ax_moreEnd, .ref ax_web, .ref ax_planeTest, .ref ax_palette, .ref ax_desk]))] := hD
  refine lv_if_ne (tgt := 18) hx hb d_PS_drop_5 rfl (fun hc_5 => absurd (hp_2.trans (zz_nit0 _)) hc_5) (fun hc_5 => ?_)
  obtain ⟨sa, hst0⟩ := h0.2 (R_PS, 113, "the node is not there") (by decide +kernel)
  have hok := og_keep hO hlo hAe hS
  exact x_throwN (own := R_PS) (cls := "java/util/NoSuchElementException") (text := "the node is not there") (ik := 80) (is := 113) (ic := 84) (sa := sa) hx hb hfl hown (by decide +kernel) (hts _ (List.mem_cons_of_mem _ mw_2_222)) (hts _ (List.mem_cons_of_mem _ mw_1_13)) (hst0.warm hO.1) (fun s9 hv9 hh9 => thr_at h0 ⟨by rw [hv9]; exact hO.1, by rw [hh9]; exact hok.1, fun q hq => by rw [hh9]; exact hok.2 q hq⟩ (nsAtoms R_PS 84 "java/util/NoSuchElementException") (List.mem_of_getElem? (i := 2) rfl)) (hl.1.trans hml.symm) d_PS_drop_8 d_PS_drop_11 d_PS_drop_12 d_PS_drop_14 d_PS_drop_17 hex (Nat.le_of_ble_eq_true rfl) (Nat.le_of_ble_eq_true rfl) (Nat.le_of_ble_eq_true rfl) (Nat.le_of_ble_eq_true rfl) hlocks (fun t ha hz hk => ⟨(), ⟨rfl, thr_P hP hk, va_K.moved ha hK, hD⟩, thr_F hS hz hk⟩) hS.2.2 (Nat.le_of_ble_eq_true rfl) (Nat.le_of_ble_eq_true rfl)
set_option maxHeartbeats 4000000 in
set_option maxRecDepth 100000 in
theorem c_bridge0 (l : Launch) (hfl : l.stackTraces = false) (s0 : State) (h0 : T0 s0) (dC : Nat → ClassId) (dI : Nat → Nat → Nat) (sz : Nat) (ax ax_lessEnd ax_moreEnd ax_web ax_planeTest ax_palette ax_desk : Nat) (vi : Int32) : xMet l y_PS_bridge w_PS_bridge ({ frames := 6, cells := 1, slots := 6, locals := 90 }) (PreX_ s0 dC dI sz [.ref ax, .int vi] [(ax, .inr (0, [.int 0, .int 0, .ref ax_lessEnd, .ref ax_moreEnd, .ref ax_web, .ref ax_planeTest, .ref ax_palette, .ref ax_desk]))] []) (va_Qi (fun (r : Int32) (u : Unit) => False) (fun u t => End_ dC dI (va_A [(ax, .inr (0, [.int 0, .int 0, .ref ax_lessEnd, .ref ax_moreEnd, .ref ax_web, .ref ax_planeTest, .ref ax_palette, .ref ax_desk]))] sz) [] [(ax, .inr (0, [.int 0, .int 0, .ref ax_lessEnd, .ref ax_moreEnd, .ref ax_web, .ref ax_planeTest, .ref ax_palette, .ref ax_desk]))] t) (va_A [(ax, .inr (0, [.int 0, .int 0, .ref ax_lessEnd, .ref ax_moreEnd, .ref ax_web, .ref ax_planeTest, .ref ax_palette, .ref ax_desk]))] sz)) (xX (fun E (u : Unit) t => (E = "java/util/NoSuchElementException") ∧ End_ dC dI (va_A [(ax, .inr (0, [.int 0, .int 0, .ref ax_lessEnd, .ref ax_moreEnd, .ref ax_web, .ref ax_planeTest, .ref ax_palette, .ref ax_desk]))] sz) [] [(ax, .inr (0, [.int 0, .int 0, .ref ax_lessEnd, .ref ax_moreEnd, .ref ax_web, .ref ax_planeTest, .ref ax_palette, .ref ax_desk]))] t) (va_A [(ax, .inr (0, [.int 0, .int 0, .ref ax_lessEnd, .ref ax_moreEnd, .ref ax_web, .ref ax_planeTest, .ref ax_palette, .ref ax_desk]))] sz)) 1 6 (va_A [(ax, .inr (0, [.int 0, .int 0, .ref ax_lessEnd, .ref ax_moreEnd, .ref ax_web, .ref ax_planeTest, .ref ax_palette, .ref ax_desk]))] sz) := by
  refine xMet.ofW (cc := b_PS_bridge) (maxL := 2) (ret := (some .boolean)) (by decide) rfl ?_
  intro p e s m args below meth c s₁ B hml hex hv
  obtain ⟨hargs9, hsz9, hP9, hK9, hD9, hN9, hO, hlo⟩ := hv
  have hv : Pre_ dC dI sz [.ref ax, .int vi] [(ax, .inr (0, [.int 0, .int 0, .ref ax_lessEnd, .ref ax_moreEnd, .ref ax_web, .ref ax_planeTest, .ref ax_palette, .ref ax_desk]))] [] args s := ⟨hargs9, hsz9, hP9, hK9, hD9, hN9⟩
  have lo_x : s0.heap.size ≤ ax := hlo (ax, .inr (0, [.int 0, .int 0, .ref ax_lessEnd, .ref ax_moreEnd, .ref ax_web, .ref ax_planeTest, .ref ax_palette, .ref ax_desk])) (List.mem_of_getElem? (i := 0) rfl)
  obtain ⟨hargs, hsz, hP, hK, hD0, hN⟩ := hv
  have hx := B.exec
  have hb := B.bytes
  have hr := B.returns
  have hts := atoms_spec (ws := w_PS_bridge) B.pre
  have hown : s.vm.findClass R_PS = some m.cls := findClass_of_methodNamed B.named
  have hlocks := B.notSynchronized
  subst hsz
  have hD := hD0.self (sz := s.heap.size)
  generalize hAe : va_A [(ax, .inr (0, [.int 0, .int 0, .ref ax_lessEnd, .ref ax_moreEnd, .ref ax_web, .ref ax_planeTest, .ref ax_palette, .ref ax_desk]))] s.heap.size = A at hD ⊢
  have hA : ∀ q : Nat, s.heap.size ≤ q → A q := fun q h => by rw [← hAe]; exact Or.inr h
  have hS : va_S A s.heap s.heap [] := va_S.rf
  have hl := lv_entry ([.ref ax, .int vi]) (n := 2) (Nat.le_of_ble_eq_true rfl)
  refine W.eq (congrArg (fun a => entryFrame m a 2) hargs) ?_
  rw [lg_entry_eq]
  generalize (lg_sl ([.ref ax, .int vi]) ++ List.replicate (2 - (lg_sl ([.ref ax, .int vi])).length) Slot.unset).toArray = ls at hl ⊢
  have hl : lv_has ls 2 [(0, .ref ax), (1, .int vi)] := hl
  generalize hH0 : ([] : List Loc) = locs at hS ⊢
  refine lv_aload_n hx hb d_PS_bridge_0 rfl (lv_at hl 0 rfl) ?_
  refine lv_iload_n hx hb d_PS_bridge_1 rfl (lv_at hl 1 rfl) ?_
  have hPc := hP.sub (ws' := [(ax, .inr (0, [.int 0, .int 0, .ref ax_lessEnd, .ref ax_moreEnd, .ref ax_web, .ref ax_planeTest, .ref ax_palette, .ref ax_desk]))]) [0] rfl
  have hDc := hD.sub (ws' := [(ax, .inr (0, [.int 0, .int 0, .ref ax_lessEnd, .ref ax_moreEnd, .ref ax_web, .ref ax_planeTest, .ref ax_palette, .ref ax_desk]))]) [0] (by decide) rfl
  have hKc := hK.sub (tys' := []) [] rfl
  have hFc := va_free (wc := [(ax, .inr (0, [.int 0, .int 0, .ref ax_lessEnd, .ref ax_moreEnd, .ref ax_web, .ref ax_planeTest, .ref ax_palette, .ref ax_desk]))]) hD hS hA [0] rfl
  refine va_calli (va_runV (As := [.int vi]) (rest := []) ⟨hx, hb, hml, hown, hts⟩ (c_lineIsThere l dC dI s.heap.size ax ax_lessEnd ax_moreEnd ax_web ax_planeTest ax_palette ax_desk 0 0 vi) (cwV 1 hts (gi4 mw_3_28 mw_3_30 mw_p_28 mw_1_1 mw_3_31) rfl rfl rfl (by decide +kernel) ⟨Nat.le_of_ble_eq_true rfl, Nat.le_of_ble_eq_true rfl⟩) ⟨fb_, va_recv (q0 := 0) (ci := 0) hK hP rfl rfl, pre_ hPc hKc hDc hN⟩ rfl rfl hl.1 rfl (lv_room (Nat.le_of_ble_eq_true rfl)) d_PS_bridge_2 ⟨Nat.le_of_ble_eq_true rfl, Nat.le_of_ble_eq_true rfl⟩) hS (fun q _ h => hFc q h) hFc (fun r_2 u t H locs ht hvm hp_2 hB hz1 hk1 hS => ?_)
  have hp_2 : r_2 = f_lit 0 vi := hp_2
  obtain ⟨hP1, -, hD1⟩ := hB
  rw [ht] at hP1
  obtain ⟨hP, hD⟩ := va_join (wr := []) (w1 := [(ax, .inr (0, [.int 0, .int 0, .ref ax_lessEnd, .ref ax_moreEnd, .ref ax_web, .ref ax_planeTest, .ref ax_palette, .ref ax_desk]))]) hP hD [0] [] rfl rfl (by decide) (by decide) hk1 hFc hP1 hD1
  have hP : va_P (dC, dI) classes [(ax, .inr (0, [.int 0, .int 0, .ref ax_lessEnd, .ref ax_moreEnd, .ref ax_web, .ref ax_planeTest, .ref ax_palette, .ref ax_desk]))] H := hP
  have hD : va_D A [(ax, .inr (0, [.int 0, .int 0, .ref ax_lessEnd, .ref ax_moreEnd, .ref ax_web, .ref ax_planeTest, .ref ax_palette, .ref ax_desk]))] := hD
  refine lv_if_ne (tgt := 18) hx hb d_PS_bridge_5 rfl (fun hc_5 => absurd (hp_2.trans (zz_lit0 _)) hc_5) (fun hc_5 => ?_)
  obtain ⟨sa, hst0⟩ := h0.2 (R_PS, 111, "the line is not there") (by decide +kernel)
  have hok := og_keep hO hlo hAe hS
  exact x_throwN (own := R_PS) (cls := "java/util/NoSuchElementException") (text := "the line is not there") (ik := 80) (is := 111) (ic := 84) (sa := sa) hx hb hfl hown (by decide +kernel) (hts _ (List.mem_cons_of_mem _ mw_2_222)) (hts _ (List.mem_cons_of_mem _ mw_1_13)) (hst0.warm hO.1) (fun s9 hv9 hh9 => thr_at h0 ⟨by rw [hv9]; exact hO.1, by rw [hh9]; exact hok.1, fun q hq => by rw [hh9]; exact hok.2 q hq⟩ (nsAtoms R_PS 84 "java/util/NoSuchElementException") (List.mem_of_getElem? (i := 2) rfl)) (hl.1.trans hml.symm) d_PS_bridge_8 d_PS_bridge_11 d_PS_bridge_12 d_PS_bridge_14 d_PS_bridge_17 hex (Nat.le_of_ble_eq_true rfl) (Nat.le_of_ble_eq_true rfl) (Nat.le_of_ble_eq_true rfl) (Nat.le_of_ble_eq_true rfl) hlocks (fun t ha hz hk => ⟨(), ⟨rfl, thr_P hP hk, va_K.moved ha hK, hD⟩, thr_F hS hz hk⟩) hS.2.2 (Nat.le_of_ble_eq_true rfl) (Nat.le_of_ble_eq_true rfl)
set_option maxHeartbeats 4000000 in
set_option maxRecDepth 100000 in
theorem c_hinge0 (l : Launch) (hfl : l.stackTraces = false) (s0 : State) (h0 : T0 s0) (dC : Nat → ClassId) (dI : Nat → Nat → Nat) (sz : Nat) (ax ax_lessEnd ax_moreEnd ax_web ax_planeTest ax_palette ax_desk : Nat) (vi : Int32) : xMet l y_PS_hinge w_PS_hinge ({ frames := 6, cells := 1, slots := 6, locals := 90 }) (PreX_ s0 dC dI sz [.ref ax, .int vi] [(ax, .inr (0, [.int 0, .int 0, .ref ax_lessEnd, .ref ax_moreEnd, .ref ax_web, .ref ax_planeTest, .ref ax_palette, .ref ax_desk]))] []) (va_Qi (fun (r : Int32) (u : Unit) => False) (fun u t => End_ dC dI (va_A [(ax, .inr (0, [.int 0, .int 0, .ref ax_lessEnd, .ref ax_moreEnd, .ref ax_web, .ref ax_planeTest, .ref ax_palette, .ref ax_desk]))] sz) [] [(ax, .inr (0, [.int 0, .int 0, .ref ax_lessEnd, .ref ax_moreEnd, .ref ax_web, .ref ax_planeTest, .ref ax_palette, .ref ax_desk]))] t) (va_A [(ax, .inr (0, [.int 0, .int 0, .ref ax_lessEnd, .ref ax_moreEnd, .ref ax_web, .ref ax_planeTest, .ref ax_palette, .ref ax_desk]))] sz)) (xX (fun E (u : Unit) t => (E = "java/util/NoSuchElementException") ∧ End_ dC dI (va_A [(ax, .inr (0, [.int 0, .int 0, .ref ax_lessEnd, .ref ax_moreEnd, .ref ax_web, .ref ax_planeTest, .ref ax_palette, .ref ax_desk]))] sz) [] [(ax, .inr (0, [.int 0, .int 0, .ref ax_lessEnd, .ref ax_moreEnd, .ref ax_web, .ref ax_planeTest, .ref ax_palette, .ref ax_desk]))] t) (va_A [(ax, .inr (0, [.int 0, .int 0, .ref ax_lessEnd, .ref ax_moreEnd, .ref ax_web, .ref ax_planeTest, .ref ax_palette, .ref ax_desk]))] sz)) 1 6 (va_A [(ax, .inr (0, [.int 0, .int 0, .ref ax_lessEnd, .ref ax_moreEnd, .ref ax_web, .ref ax_planeTest, .ref ax_palette, .ref ax_desk]))] sz) := by
  refine xMet.ofW (cc := b_PS_hinge) (maxL := 2) (ret := (some .boolean)) (by decide) rfl ?_
  intro p e s m args below meth c s₁ B hml hex hv
  obtain ⟨hargs9, hsz9, hP9, hK9, hD9, hN9, hO, hlo⟩ := hv
  have hv : Pre_ dC dI sz [.ref ax, .int vi] [(ax, .inr (0, [.int 0, .int 0, .ref ax_lessEnd, .ref ax_moreEnd, .ref ax_web, .ref ax_planeTest, .ref ax_palette, .ref ax_desk]))] [] args s := ⟨hargs9, hsz9, hP9, hK9, hD9, hN9⟩
  have lo_x : s0.heap.size ≤ ax := hlo (ax, .inr (0, [.int 0, .int 0, .ref ax_lessEnd, .ref ax_moreEnd, .ref ax_web, .ref ax_planeTest, .ref ax_palette, .ref ax_desk])) (List.mem_of_getElem? (i := 0) rfl)
  obtain ⟨hargs, hsz, hP, hK, hD0, hN⟩ := hv
  have hx := B.exec
  have hb := B.bytes
  have hr := B.returns
  have hts := atoms_spec (ws := w_PS_hinge) B.pre
  have hown : s.vm.findClass R_PS = some m.cls := findClass_of_methodNamed B.named
  have hlocks := B.notSynchronized
  subst hsz
  have hD := hD0.self (sz := s.heap.size)
  generalize hAe : va_A [(ax, .inr (0, [.int 0, .int 0, .ref ax_lessEnd, .ref ax_moreEnd, .ref ax_web, .ref ax_planeTest, .ref ax_palette, .ref ax_desk]))] s.heap.size = A at hD ⊢
  have hA : ∀ q : Nat, s.heap.size ≤ q → A q := fun q h => by rw [← hAe]; exact Or.inr h
  have hS : va_S A s.heap s.heap [] := va_S.rf
  have hl := lv_entry ([.ref ax, .int vi]) (n := 2) (Nat.le_of_ble_eq_true rfl)
  refine W.eq (congrArg (fun a => entryFrame m a 2) hargs) ?_
  rw [lg_entry_eq]
  generalize (lg_sl ([.ref ax, .int vi]) ++ List.replicate (2 - (lg_sl ([.ref ax, .int vi])).length) Slot.unset).toArray = ls at hl ⊢
  have hl : lv_has ls 2 [(0, .ref ax), (1, .int vi)] := hl
  generalize hH0 : ([] : List Loc) = locs at hS ⊢
  refine lv_aload_n hx hb d_PS_hinge_0 rfl (lv_at hl 0 rfl) ?_
  refine lv_iload_n hx hb d_PS_hinge_1 rfl (lv_at hl 1 rfl) ?_
  have hPc := hP.sub (ws' := [(ax, .inr (0, [.int 0, .int 0, .ref ax_lessEnd, .ref ax_moreEnd, .ref ax_web, .ref ax_planeTest, .ref ax_palette, .ref ax_desk]))]) [0] rfl
  have hDc := hD.sub (ws' := [(ax, .inr (0, [.int 0, .int 0, .ref ax_lessEnd, .ref ax_moreEnd, .ref ax_web, .ref ax_planeTest, .ref ax_palette, .ref ax_desk]))]) [0] (by decide) rfl
  have hKc := hK.sub (tys' := []) [] rfl
  have hFc := va_free (wc := [(ax, .inr (0, [.int 0, .int 0, .ref ax_lessEnd, .ref ax_moreEnd, .ref ax_web, .ref ax_planeTest, .ref ax_palette, .ref ax_desk]))]) hD hS hA [0] rfl
  refine va_calli (va_runV (As := [.int vi]) (rest := []) ⟨hx, hb, hml, hown, hts⟩ (c_nodeIsThere l dC dI s.heap.size ax ax_lessEnd ax_moreEnd ax_web ax_planeTest ax_palette ax_desk 0 0 vi) (cwV 1 hts (gi4 mw_2_218 mw_2_220 mw_p_26 mw_1_1 mw_2_221) rfl rfl rfl (by decide +kernel) ⟨Nat.le_of_ble_eq_true rfl, Nat.le_of_ble_eq_true rfl⟩) ⟨fb_, va_recv (q0 := 0) (ci := 0) hK hP rfl rfl, pre_ hPc hKc hDc hN⟩ rfl rfl hl.1 rfl (lv_room (Nat.le_of_ble_eq_true rfl)) d_PS_hinge_2 ⟨Nat.le_of_ble_eq_true rfl, Nat.le_of_ble_eq_true rfl⟩) hS (fun q _ h => hFc q h) hFc (fun r_2 u t H locs ht hvm hp_2 hB hz1 hk1 hS => ?_)
  have hp_2 : r_2 = f_nit 0 vi := hp_2
  obtain ⟨hP1, -, hD1⟩ := hB
  rw [ht] at hP1
  obtain ⟨hP, hD⟩ := va_join (wr := []) (w1 := [(ax, .inr (0, [.int 0, .int 0, .ref ax_lessEnd, .ref ax_moreEnd, .ref ax_web, .ref ax_planeTest, .ref ax_palette, .ref ax_desk]))]) hP hD [0] [] rfl rfl (by decide) (by decide) hk1 hFc hP1 hD1
  have hP : va_P (dC, dI) classes [(ax, .inr (0, [.int 0, .int 0, .ref ax_lessEnd, .ref ax_moreEnd, .ref ax_web, .ref ax_planeTest, .ref ax_palette, .ref ax_desk]))] H := hP
  have hD : va_D A [(ax, .inr (0, [.int 0, .int 0, .ref ax_lessEnd, .ref ax_moreEnd, .ref ax_web, .ref ax_planeTest, .ref ax_palette, .ref ax_desk]))] := hD
  refine lv_if_ne (tgt := 18) hx hb d_PS_hinge_5 rfl (fun hc_5 => absurd (hp_2.trans (zz_nit0 _)) hc_5) (fun hc_5 => ?_)
  obtain ⟨sa, hst0⟩ := h0.2 (R_PS, 113, "the node is not there") (by decide +kernel)
  have hok := og_keep hO hlo hAe hS
  exact x_throwN (own := R_PS) (cls := "java/util/NoSuchElementException") (text := "the node is not there") (ik := 80) (is := 113) (ic := 84) (sa := sa) hx hb hfl hown (by decide +kernel) (hts _ (List.mem_cons_of_mem _ mw_2_222)) (hts _ (List.mem_cons_of_mem _ mw_1_13)) (hst0.warm hO.1) (fun s9 hv9 hh9 => thr_at h0 ⟨by rw [hv9]; exact hO.1, by rw [hh9]; exact hok.1, fun q hq => by rw [hh9]; exact hok.2 q hq⟩ (nsAtoms R_PS 84 "java/util/NoSuchElementException") (List.mem_of_getElem? (i := 2) rfl)) (hl.1.trans hml.symm) d_PS_hinge_8 d_PS_hinge_11 d_PS_hinge_12 d_PS_hinge_14 d_PS_hinge_17 hex (Nat.le_of_ble_eq_true rfl) (Nat.le_of_ble_eq_true rfl) (Nat.le_of_ble_eq_true rfl) (Nat.le_of_ble_eq_true rfl) hlocks (fun t ha hz hk => ⟨(), ⟨rfl, thr_P hP hk, va_K.moved ha hK, hD⟩, thr_F hS hz hk⟩) hS.2.2 (Nat.le_of_ble_eq_true rfl) (Nat.le_of_ble_eq_true rfl)
set_option maxHeartbeats 4000000 in
set_option maxRecDepth 100000 in
theorem c_colour0 (l : Launch) (hfl : l.stackTraces = false) (s0 : State) (h0 : T0 s0) (dC : Nat → ClassId) (dI : Nat → Nat → Nat) (sz : Nat) (ax ax_lessEnd ax_moreEnd ax_web ax_planeTest ax_palette ax_desk : Nat) (vi : Int32) : xMet l y_PS_colour w_PS_colour ({ frames := 6, cells := 1, slots := 6, locals := 90 }) (PreX_ s0 dC dI sz [.ref ax, .int vi] [(ax, .inr (0, [.int 0, .int 0, .ref ax_lessEnd, .ref ax_moreEnd, .ref ax_web, .ref ax_planeTest, .ref ax_palette, .ref ax_desk]))] []) (va_Qi (fun (r : Int32) (u : Unit) => False) (fun u t => End_ dC dI (va_A [(ax, .inr (0, [.int 0, .int 0, .ref ax_lessEnd, .ref ax_moreEnd, .ref ax_web, .ref ax_planeTest, .ref ax_palette, .ref ax_desk]))] sz) [] [(ax, .inr (0, [.int 0, .int 0, .ref ax_lessEnd, .ref ax_moreEnd, .ref ax_web, .ref ax_planeTest, .ref ax_palette, .ref ax_desk]))] t) (va_A [(ax, .inr (0, [.int 0, .int 0, .ref ax_lessEnd, .ref ax_moreEnd, .ref ax_web, .ref ax_planeTest, .ref ax_palette, .ref ax_desk]))] sz)) (xX (fun E (u : Unit) t => (E = "java/util/NoSuchElementException") ∧ End_ dC dI (va_A [(ax, .inr (0, [.int 0, .int 0, .ref ax_lessEnd, .ref ax_moreEnd, .ref ax_web, .ref ax_planeTest, .ref ax_palette, .ref ax_desk]))] sz) [] [(ax, .inr (0, [.int 0, .int 0, .ref ax_lessEnd, .ref ax_moreEnd, .ref ax_web, .ref ax_planeTest, .ref ax_palette, .ref ax_desk]))] t) (va_A [(ax, .inr (0, [.int 0, .int 0, .ref ax_lessEnd, .ref ax_moreEnd, .ref ax_web, .ref ax_planeTest, .ref ax_palette, .ref ax_desk]))] sz)) 1 6 (va_A [(ax, .inr (0, [.int 0, .int 0, .ref ax_lessEnd, .ref ax_moreEnd, .ref ax_web, .ref ax_planeTest, .ref ax_palette, .ref ax_desk]))] sz) := by
  refine xMet.ofW (cc := b_PS_colour) (maxL := 2) (ret := (some .int)) (by decide) rfl ?_
  intro p e s m args below meth c s₁ B hml hex hv
  obtain ⟨hargs9, hsz9, hP9, hK9, hD9, hN9, hO, hlo⟩ := hv
  have hv : Pre_ dC dI sz [.ref ax, .int vi] [(ax, .inr (0, [.int 0, .int 0, .ref ax_lessEnd, .ref ax_moreEnd, .ref ax_web, .ref ax_planeTest, .ref ax_palette, .ref ax_desk]))] [] args s := ⟨hargs9, hsz9, hP9, hK9, hD9, hN9⟩
  have lo_x : s0.heap.size ≤ ax := hlo (ax, .inr (0, [.int 0, .int 0, .ref ax_lessEnd, .ref ax_moreEnd, .ref ax_web, .ref ax_planeTest, .ref ax_palette, .ref ax_desk])) (List.mem_of_getElem? (i := 0) rfl)
  obtain ⟨hargs, hsz, hP, hK, hD0, hN⟩ := hv
  have hx := B.exec
  have hb := B.bytes
  have hr := B.returns
  have hts := atoms_spec (ws := w_PS_colour) B.pre
  have hown : s.vm.findClass R_PS = some m.cls := findClass_of_methodNamed B.named
  have hlocks := B.notSynchronized
  subst hsz
  have hD := hD0.self (sz := s.heap.size)
  generalize hAe : va_A [(ax, .inr (0, [.int 0, .int 0, .ref ax_lessEnd, .ref ax_moreEnd, .ref ax_web, .ref ax_planeTest, .ref ax_palette, .ref ax_desk]))] s.heap.size = A at hD ⊢
  have hA : ∀ q : Nat, s.heap.size ≤ q → A q := fun q h => by rw [← hAe]; exact Or.inr h
  have hS : va_S A s.heap s.heap [] := va_S.rf
  have hl := lv_entry ([.ref ax, .int vi]) (n := 2) (Nat.le_of_ble_eq_true rfl)
  refine W.eq (congrArg (fun a => entryFrame m a 2) hargs) ?_
  rw [lg_entry_eq]
  generalize (lg_sl ([.ref ax, .int vi]) ++ List.replicate (2 - (lg_sl ([.ref ax, .int vi])).length) Slot.unset).toArray = ls at hl ⊢
  have hl : lv_has ls 2 [(0, .ref ax), (1, .int vi)] := hl
  generalize hH0 : ([] : List Loc) = locs at hS ⊢
  refine lv_aload_n hx hb d_PS_colour_0 rfl (lv_at hl 0 rfl) ?_
  refine lv_iload_n hx hb d_PS_colour_1 rfl (lv_at hl 1 rfl) ?_
  have hPc := hP.sub (ws' := [(ax, .inr (0, [.int 0, .int 0, .ref ax_lessEnd, .ref ax_moreEnd, .ref ax_web, .ref ax_planeTest, .ref ax_palette, .ref ax_desk]))]) [0] rfl
  have hDc := hD.sub (ws' := [(ax, .inr (0, [.int 0, .int 0, .ref ax_lessEnd, .ref ax_moreEnd, .ref ax_web, .ref ax_planeTest, .ref ax_palette, .ref ax_desk]))]) [0] (by decide) rfl
  have hKc := hK.sub (tys' := []) [] rfl
  have hFc := va_free (wc := [(ax, .inr (0, [.int 0, .int 0, .ref ax_lessEnd, .ref ax_moreEnd, .ref ax_web, .ref ax_planeTest, .ref ax_palette, .ref ax_desk]))]) hD hS hA [0] rfl
  refine va_calli (va_runV (As := [.int vi]) (rest := []) ⟨hx, hb, hml, hown, hts⟩ (c_nodeIsThere l dC dI s.heap.size ax ax_lessEnd ax_moreEnd ax_web ax_planeTest ax_palette ax_desk 0 0 vi) (cwV 1 hts (gi4 mw_2_218 mw_2_220 mw_p_26 mw_1_1 mw_2_221) rfl rfl rfl (by decide +kernel) ⟨Nat.le_of_ble_eq_true rfl, Nat.le_of_ble_eq_true rfl⟩) ⟨fb_, va_recv (q0 := 0) (ci := 0) hK hP rfl rfl, pre_ hPc hKc hDc hN⟩ rfl rfl hl.1 rfl (lv_room (Nat.le_of_ble_eq_true rfl)) d_PS_colour_2 ⟨Nat.le_of_ble_eq_true rfl, Nat.le_of_ble_eq_true rfl⟩) hS (fun q _ h => hFc q h) hFc (fun r_2 u t H locs ht hvm hp_2 hB hz1 hk1 hS => ?_)
  have hp_2 : r_2 = f_nit 0 vi := hp_2
  obtain ⟨hP1, -, hD1⟩ := hB
  rw [ht] at hP1
  obtain ⟨hP, hD⟩ := va_join (wr := []) (w1 := [(ax, .inr (0, [.int 0, .int 0, .ref ax_lessEnd, .ref ax_moreEnd, .ref ax_web, .ref ax_planeTest, .ref ax_palette, .ref ax_desk]))]) hP hD [0] [] rfl rfl (by decide) (by decide) hk1 hFc hP1 hD1
  have hP : va_P (dC, dI) classes [(ax, .inr (0, [.int 0, .int 0, .ref ax_lessEnd, .ref ax_moreEnd, .ref ax_web, .ref ax_planeTest, .ref ax_palette, .ref ax_desk]))] H := hP
  have hD : va_D A [(ax, .inr (0, [.int 0, .int 0, .ref ax_lessEnd, .ref ax_moreEnd, .ref ax_web, .ref ax_planeTest, .ref ax_palette, .ref ax_desk]))] := hD
  refine lv_if_ne (tgt := 18) hx hb d_PS_colour_5 rfl (fun hc_5 => absurd (hp_2.trans (zz_nit0 _)) hc_5) (fun hc_5 => ?_)
  obtain ⟨sa, hst0⟩ := h0.2 (R_PS, 113, "the node is not there") (by decide +kernel)
  have hok := og_keep hO hlo hAe hS
  exact x_throwN (own := R_PS) (cls := "java/util/NoSuchElementException") (text := "the node is not there") (ik := 80) (is := 113) (ic := 84) (sa := sa) hx hb hfl hown (by decide +kernel) (hts _ (List.mem_cons_of_mem _ mw_2_222)) (hts _ (List.mem_cons_of_mem _ mw_1_13)) (hst0.warm hO.1) (fun s9 hv9 hh9 => thr_at h0 ⟨by rw [hv9]; exact hO.1, by rw [hh9]; exact hok.1, fun q hq => by rw [hh9]; exact hok.2 q hq⟩ (nsAtoms R_PS 84 "java/util/NoSuchElementException") (List.mem_of_getElem? (i := 2) rfl)) (hl.1.trans hml.symm) d_PS_colour_8 d_PS_colour_11 d_PS_colour_12 d_PS_colour_14 d_PS_colour_17 hex (Nat.le_of_ble_eq_true rfl) (Nat.le_of_ble_eq_true rfl) (Nat.le_of_ble_eq_true rfl) (Nat.le_of_ble_eq_true rfl) hlocks (fun t ha hz hk => ⟨(), ⟨rfl, thr_P hP hk, va_K.moved ha hK, hD⟩, thr_F hS hz hk⟩) hS.2.2 (Nat.le_of_ble_eq_true rfl) (Nat.le_of_ble_eq_true rfl)
set_option maxHeartbeats 4000000 in
set_option maxRecDepth 100000 in
theorem c_end0 (l : Launch) (hfl : l.stackTraces = false) (s0 : State) (h0 : T0 s0) (dC : Nat → ClassId) (dI : Nat → Nat → Nat) (sz : Nat) (ax ax_lessEnd ax_moreEnd ax_web ax_planeTest ax_palette ax_desk : Nat) (vi vj : Int32) : xMet l y_PS_end w_PS_end ({ frames := 6, cells := 1, slots := 6, locals := 90 }) (PreX_ s0 dC dI sz [.ref ax, .int vi, .int vj] [(ax, .inr (0, [.int 0, .int 0, .ref ax_lessEnd, .ref ax_moreEnd, .ref ax_web, .ref ax_planeTest, .ref ax_palette, .ref ax_desk]))] []) (va_Qi (fun (r : Int32) (u : Unit) => False) (fun u t => End_ dC dI (va_A [(ax, .inr (0, [.int 0, .int 0, .ref ax_lessEnd, .ref ax_moreEnd, .ref ax_web, .ref ax_planeTest, .ref ax_palette, .ref ax_desk]))] sz) [] [(ax, .inr (0, [.int 0, .int 0, .ref ax_lessEnd, .ref ax_moreEnd, .ref ax_web, .ref ax_planeTest, .ref ax_palette, .ref ax_desk]))] t) (va_A [(ax, .inr (0, [.int 0, .int 0, .ref ax_lessEnd, .ref ax_moreEnd, .ref ax_web, .ref ax_planeTest, .ref ax_palette, .ref ax_desk]))] sz)) (xX (fun E (u : Unit) t => (E = "java/util/NoSuchElementException") ∧ End_ dC dI (va_A [(ax, .inr (0, [.int 0, .int 0, .ref ax_lessEnd, .ref ax_moreEnd, .ref ax_web, .ref ax_planeTest, .ref ax_palette, .ref ax_desk]))] sz) [] [(ax, .inr (0, [.int 0, .int 0, .ref ax_lessEnd, .ref ax_moreEnd, .ref ax_web, .ref ax_planeTest, .ref ax_palette, .ref ax_desk]))] t) (va_A [(ax, .inr (0, [.int 0, .int 0, .ref ax_lessEnd, .ref ax_moreEnd, .ref ax_web, .ref ax_planeTest, .ref ax_palette, .ref ax_desk]))] sz)) 1 6 (va_A [(ax, .inr (0, [.int 0, .int 0, .ref ax_lessEnd, .ref ax_moreEnd, .ref ax_web, .ref ax_planeTest, .ref ax_palette, .ref ax_desk]))] sz) := by
  refine xMet.ofW (cc := b_PS_end) (maxL := 3) (ret := (some .int)) (by decide) rfl ?_
  intro p e s m args below meth c s₁ B hml hex hv
  obtain ⟨hargs9, hsz9, hP9, hK9, hD9, hN9, hO, hlo⟩ := hv
  have hv : Pre_ dC dI sz [.ref ax, .int vi, .int vj] [(ax, .inr (0, [.int 0, .int 0, .ref ax_lessEnd, .ref ax_moreEnd, .ref ax_web, .ref ax_planeTest, .ref ax_palette, .ref ax_desk]))] [] args s := ⟨hargs9, hsz9, hP9, hK9, hD9, hN9⟩
  have lo_x : s0.heap.size ≤ ax := hlo (ax, .inr (0, [.int 0, .int 0, .ref ax_lessEnd, .ref ax_moreEnd, .ref ax_web, .ref ax_planeTest, .ref ax_palette, .ref ax_desk])) (List.mem_of_getElem? (i := 0) rfl)
  obtain ⟨hargs, hsz, hP, hK, hD0, hN⟩ := hv
  have hx := B.exec
  have hb := B.bytes
  have hr := B.returns
  have hts := atoms_spec (ws := w_PS_end) B.pre
  have hown : s.vm.findClass R_PS = some m.cls := findClass_of_methodNamed B.named
  have hlocks := B.notSynchronized
  subst hsz
  have hD := hD0.self (sz := s.heap.size)
  generalize hAe : va_A [(ax, .inr (0, [.int 0, .int 0, .ref ax_lessEnd, .ref ax_moreEnd, .ref ax_web, .ref ax_planeTest, .ref ax_palette, .ref ax_desk]))] s.heap.size = A at hD ⊢
  have hA : ∀ q : Nat, s.heap.size ≤ q → A q := fun q h => by rw [← hAe]; exact Or.inr h
  have hS : va_S A s.heap s.heap [] := va_S.rf
  have hl := lv_entry ([.ref ax, .int vi, .int vj]) (n := 3) (Nat.le_of_ble_eq_true rfl)
  refine W.eq (congrArg (fun a => entryFrame m a 3) hargs) ?_
  rw [lg_entry_eq]
  generalize (lg_sl ([.ref ax, .int vi, .int vj]) ++ List.replicate (3 - (lg_sl ([.ref ax, .int vi, .int vj])).length) Slot.unset).toArray = ls at hl ⊢
  have hl : lv_has ls 3 [(0, .ref ax), (1, .int vi), (2, .int vj)] := hl
  generalize hH0 : ([] : List Loc) = locs at hS ⊢
  refine lv_aload_n hx hb d_PS_end_0 rfl (lv_at hl 0 rfl) ?_
  refine lv_iload_n hx hb d_PS_end_1 rfl (lv_at hl 1 rfl) ?_
  have hPc := hP.sub (ws' := [(ax, .inr (0, [.int 0, .int 0, .ref ax_lessEnd, .ref ax_moreEnd, .ref ax_web, .ref ax_planeTest, .ref ax_palette, .ref ax_desk]))]) [0] rfl
  have hDc := hD.sub (ws' := [(ax, .inr (0, [.int 0, .int 0, .ref ax_lessEnd, .ref ax_moreEnd, .ref ax_web, .ref ax_planeTest, .ref ax_palette, .ref ax_desk]))]) [0] (by decide) rfl
  have hKc := hK.sub (tys' := []) [] rfl
  have hFc := va_free (wc := [(ax, .inr (0, [.int 0, .int 0, .ref ax_lessEnd, .ref ax_moreEnd, .ref ax_web, .ref ax_planeTest, .ref ax_palette, .ref ax_desk]))]) hD hS hA [0] rfl
  refine va_calli (va_runV (As := [.int vi]) (rest := []) ⟨hx, hb, hml, hown, hts⟩ (c_lineIsThere l dC dI s.heap.size ax ax_lessEnd ax_moreEnd ax_web ax_planeTest ax_palette ax_desk 0 0 vi) (cwV 1 hts (gi4 mw_3_28 mw_3_30 mw_p_28 mw_1_1 mw_3_31) rfl rfl rfl (by decide +kernel) ⟨Nat.le_of_ble_eq_true rfl, Nat.le_of_ble_eq_true rfl⟩) ⟨fb_, va_recv (q0 := 0) (ci := 0) hK hP rfl rfl, pre_ hPc hKc hDc hN⟩ rfl rfl hl.1 rfl (lv_room (Nat.le_of_ble_eq_true rfl)) d_PS_end_2 ⟨Nat.le_of_ble_eq_true rfl, Nat.le_of_ble_eq_true rfl⟩) hS (fun q _ h => hFc q h) hFc (fun r_2 u t H locs ht hvm hp_2 hB hz1 hk1 hS => ?_)
  have hp_2 : r_2 = f_lit 0 vi := hp_2
  obtain ⟨hP1, -, hD1⟩ := hB
  rw [ht] at hP1
  obtain ⟨hP, hD⟩ := va_join (wr := []) (w1 := [(ax, .inr (0, [.int 0, .int 0, .ref ax_lessEnd, .ref ax_moreEnd, .ref ax_web, .ref ax_planeTest, .ref ax_palette, .ref ax_desk]))]) hP hD [0] [] rfl rfl (by decide) (by decide) hk1 hFc hP1 hD1
  have hP : va_P (dC, dI) classes [(ax, .inr (0, [.int 0, .int 0, .ref ax_lessEnd, .ref ax_moreEnd, .ref ax_web, .ref ax_planeTest, .ref ax_palette, .ref ax_desk]))] H := hP
  have hD : va_D A [(ax, .inr (0, [.int 0, .int 0, .ref ax_lessEnd, .ref ax_moreEnd, .ref ax_web, .ref ax_planeTest, .ref ax_palette, .ref ax_desk]))] := hD
  refine lv_if_ne (tgt := 18) hx hb d_PS_end_5 rfl (fun hc_5 => absurd (hp_2.trans (zz_lit0 _)) hc_5) (fun hc_5 => ?_)
  obtain ⟨sa, hst0⟩ := h0.2 (R_PS, 111, "the line is not there") (by decide +kernel)
  have hok := og_keep hO hlo hAe hS
  exact x_throwN (own := R_PS) (cls := "java/util/NoSuchElementException") (text := "the line is not there") (ik := 80) (is := 111) (ic := 84) (sa := sa) hx hb hfl hown (by decide +kernel) (hts _ (List.mem_cons_of_mem _ mw_2_222)) (hts _ (List.mem_cons_of_mem _ mw_1_13)) (hst0.warm hO.1) (fun s9 hv9 hh9 => thr_at h0 ⟨by rw [hv9]; exact hO.1, by rw [hh9]; exact hok.1, fun q hq => by rw [hh9]; exact hok.2 q hq⟩ (nsAtoms R_PS 84 "java/util/NoSuchElementException") (List.mem_of_getElem? (i := 2) rfl)) (hl.1.trans hml.symm) d_PS_end_8 d_PS_end_11 d_PS_end_12 d_PS_end_14 d_PS_end_17 hex (Nat.le_of_ble_eq_true rfl) (Nat.le_of_ble_eq_true rfl) (Nat.le_of_ble_eq_true rfl) (Nat.le_of_ble_eq_true rfl) hlocks (fun t ha hz hk => ⟨(), ⟨rfl, thr_P hP hk, va_K.moved ha hK, hD⟩, thr_F hS hz hk⟩) hS.2.2 (Nat.le_of_ble_eq_true rfl) (Nat.le_of_ble_eq_true rfl)
set_option maxHeartbeats 4000000 in
set_option maxRecDepth 100000 in
theorem c_could0 (l : Launch) (hfl : l.stackTraces = false) (s0 : State) (h0 : T0 s0) (dC : Nat → ClassId) (dI : Nat → Nat → Nat) (sz : Nat) (ax ax_lessEnd ax_moreEnd ax_web ax_planeTest ax_palette ax_desk : Nat) (vi vj : Int32) : xMet l y_PS_could w_PS_could ({ frames := 6, cells := 1, slots := 6, locals := 90 }) (PreX_ s0 dC dI sz [.ref ax, .int vi, .int vj] [(ax, .inr (0, [.int 0, .int 0, .ref ax_lessEnd, .ref ax_moreEnd, .ref ax_web, .ref ax_planeTest, .ref ax_palette, .ref ax_desk]))] []) (va_Qi (fun (r : Int32) (u : Unit) => False) (fun u t => End_ dC dI (va_A [(ax, .inr (0, [.int 0, .int 0, .ref ax_lessEnd, .ref ax_moreEnd, .ref ax_web, .ref ax_planeTest, .ref ax_palette, .ref ax_desk]))] sz) [] [(ax, .inr (0, [.int 0, .int 0, .ref ax_lessEnd, .ref ax_moreEnd, .ref ax_web, .ref ax_planeTest, .ref ax_palette, .ref ax_desk]))] t) (va_A [(ax, .inr (0, [.int 0, .int 0, .ref ax_lessEnd, .ref ax_moreEnd, .ref ax_web, .ref ax_planeTest, .ref ax_palette, .ref ax_desk]))] sz)) (xX (fun E (u : Unit) t => (E = "java/util/NoSuchElementException") ∧ End_ dC dI (va_A [(ax, .inr (0, [.int 0, .int 0, .ref ax_lessEnd, .ref ax_moreEnd, .ref ax_web, .ref ax_planeTest, .ref ax_palette, .ref ax_desk]))] sz) [] [(ax, .inr (0, [.int 0, .int 0, .ref ax_lessEnd, .ref ax_moreEnd, .ref ax_web, .ref ax_planeTest, .ref ax_palette, .ref ax_desk]))] t) (va_A [(ax, .inr (0, [.int 0, .int 0, .ref ax_lessEnd, .ref ax_moreEnd, .ref ax_web, .ref ax_planeTest, .ref ax_palette, .ref ax_desk]))] sz)) 1 6 (va_A [(ax, .inr (0, [.int 0, .int 0, .ref ax_lessEnd, .ref ax_moreEnd, .ref ax_web, .ref ax_planeTest, .ref ax_palette, .ref ax_desk]))] sz) := by
  refine xMet.ofW (cc := b_PS_could) (maxL := 3) (ret := (some .boolean)) (by decide) rfl ?_
  intro p e s m args below meth c s₁ B hml hex hv
  obtain ⟨hargs9, hsz9, hP9, hK9, hD9, hN9, hO, hlo⟩ := hv
  have hv : Pre_ dC dI sz [.ref ax, .int vi, .int vj] [(ax, .inr (0, [.int 0, .int 0, .ref ax_lessEnd, .ref ax_moreEnd, .ref ax_web, .ref ax_planeTest, .ref ax_palette, .ref ax_desk]))] [] args s := ⟨hargs9, hsz9, hP9, hK9, hD9, hN9⟩
  have lo_x : s0.heap.size ≤ ax := hlo (ax, .inr (0, [.int 0, .int 0, .ref ax_lessEnd, .ref ax_moreEnd, .ref ax_web, .ref ax_planeTest, .ref ax_palette, .ref ax_desk])) (List.mem_of_getElem? (i := 0) rfl)
  obtain ⟨hargs, hsz, hP, hK, hD0, hN⟩ := hv
  have hx := B.exec
  have hb := B.bytes
  have hr := B.returns
  have hts := atoms_spec (ws := w_PS_could) B.pre
  have hown : s.vm.findClass R_PS = some m.cls := findClass_of_methodNamed B.named
  have hlocks := B.notSynchronized
  subst hsz
  have hD := hD0.self (sz := s.heap.size)
  generalize hAe : va_A [(ax, .inr (0, [.int 0, .int 0, .ref ax_lessEnd, .ref ax_moreEnd, .ref ax_web, .ref ax_planeTest, .ref ax_palette, .ref ax_desk]))] s.heap.size = A at hD ⊢
  have hA : ∀ q : Nat, s.heap.size ≤ q → A q := fun q h => by rw [← hAe]; exact Or.inr h
  have hS : va_S A s.heap s.heap [] := va_S.rf
  have hl := lv_entry ([.ref ax, .int vi, .int vj]) (n := 3) (Nat.le_of_ble_eq_true rfl)
  refine W.eq (congrArg (fun a => entryFrame m a 3) hargs) ?_
  rw [lg_entry_eq]
  generalize (lg_sl ([.ref ax, .int vi, .int vj]) ++ List.replicate (3 - (lg_sl ([.ref ax, .int vi, .int vj])).length) Slot.unset).toArray = ls at hl ⊢
  have hl : lv_has ls 3 [(0, .ref ax), (1, .int vi), (2, .int vj)] := hl
  generalize hH0 : ([] : List Loc) = locs at hS ⊢
  refine lv_aload_n hx hb d_PS_could_0 rfl (lv_at hl 0 rfl) ?_
  refine lv_iload_n hx hb d_PS_could_1 rfl (lv_at hl 1 rfl) ?_
  have hPc := hP.sub (ws' := [(ax, .inr (0, [.int 0, .int 0, .ref ax_lessEnd, .ref ax_moreEnd, .ref ax_web, .ref ax_planeTest, .ref ax_palette, .ref ax_desk]))]) [0] rfl
  have hDc := hD.sub (ws' := [(ax, .inr (0, [.int 0, .int 0, .ref ax_lessEnd, .ref ax_moreEnd, .ref ax_web, .ref ax_planeTest, .ref ax_palette, .ref ax_desk]))]) [0] (by decide) rfl
  have hKc := hK.sub (tys' := []) [] rfl
  have hFc := va_free (wc := [(ax, .inr (0, [.int 0, .int 0, .ref ax_lessEnd, .ref ax_moreEnd, .ref ax_web, .ref ax_planeTest, .ref ax_palette, .ref ax_desk]))]) hD hS hA [0] rfl
  refine va_calli (va_runV (As := [.int vi]) (rest := []) ⟨hx, hb, hml, hown, hts⟩ (c_nodeIsThere l dC dI s.heap.size ax ax_lessEnd ax_moreEnd ax_web ax_planeTest ax_palette ax_desk 0 0 vi) (cwV 1 hts (gi4 mw_2_218 mw_2_220 mw_p_26 mw_1_1 mw_2_221) rfl rfl rfl (by decide +kernel) ⟨Nat.le_of_ble_eq_true rfl, Nat.le_of_ble_eq_true rfl⟩) ⟨fb_, va_recv (q0 := 0) (ci := 0) hK hP rfl rfl, pre_ hPc hKc hDc hN⟩ rfl rfl hl.1 rfl (lv_room (Nat.le_of_ble_eq_true rfl)) d_PS_could_2 ⟨Nat.le_of_ble_eq_true rfl, Nat.le_of_ble_eq_true rfl⟩) hS (fun q _ h => hFc q h) hFc (fun r_2 u t H locs ht hvm hp_2 hB hz1 hk1 hS => ?_)
  have hp_2 : r_2 = f_nit 0 vi := hp_2
  obtain ⟨hP1, -, hD1⟩ := hB
  rw [ht] at hP1
  obtain ⟨hP, hD⟩ := va_join (wr := []) (w1 := [(ax, .inr (0, [.int 0, .int 0, .ref ax_lessEnd, .ref ax_moreEnd, .ref ax_web, .ref ax_planeTest, .ref ax_palette, .ref ax_desk]))]) hP hD [0] [] rfl rfl (by decide) (by decide) hk1 hFc hP1 hD1
  have hP : va_P (dC, dI) classes [(ax, .inr (0, [.int 0, .int 0, .ref ax_lessEnd, .ref ax_moreEnd, .ref ax_web, .ref ax_planeTest, .ref ax_palette, .ref ax_desk]))] H := hP
  have hD : va_D A [(ax, .inr (0, [.int 0, .int 0, .ref ax_lessEnd, .ref ax_moreEnd, .ref ax_web, .ref ax_planeTest, .ref ax_palette, .ref ax_desk]))] := hD
  refine lv_if_eq (tgt := 16) hx hb d_PS_could_5 rfl (fun hc_5 => ?_) (fun hc_5 => absurd (hp_2.trans (zz_nit0 _)) hc_5)
  obtain ⟨sa, hst0⟩ := h0.2 (R_PS, 82, "a node is not there") (by decide +kernel)
  have hok := og_keep hO hlo hAe hS
  exact x_throwN (own := R_PS) (cls := "java/util/NoSuchElementException") (text := "a node is not there") (ik := 80) (is := 82) (ic := 84) (sa := sa) hx hb hfl hown (by decide +kernel) (hts _ (List.mem_cons_of_mem _ mw_2_222)) (hts _ (List.mem_cons_of_mem _ mw_1_13)) (hst0.warm hO.1) (fun s9 hv9 hh9 => thr_at h0 ⟨by rw [hv9]; exact hO.1, by rw [hh9]; exact hok.1, fun q hq => by rw [hh9]; exact hok.2 q hq⟩ (nsAtoms R_PS 84 "java/util/NoSuchElementException") (List.mem_of_getElem? (i := 2) rfl)) (hl.1.trans hml.symm) d_PS_could_16 d_PS_could_19 d_PS_could_20 d_PS_could_22 d_PS_could_25 hex (Nat.le_of_ble_eq_true rfl) (Nat.le_of_ble_eq_true rfl) (Nat.le_of_ble_eq_true rfl) (Nat.le_of_ble_eq_true rfl) hlocks (fun t ha hz hk => ⟨(), ⟨rfl, thr_P hP hk, va_K.moved ha hK, hD⟩, thr_F hS hz hk⟩) hS.2.2 (Nat.le_of_ble_eq_true rfl) (Nat.le_of_ble_eq_true rfl)
set_option maxHeartbeats 4000000 in
set_option maxRecDepth 100000 in
theorem c_meets0 (l : Launch) (hfl : l.stackTraces = false) (s0 : State) (h0 : T0 s0) (dC : Nat → ClassId) (dI : Nat → Nat → Nat) (sz : Nat) (ax ax_lessEnd ax_moreEnd ax_web ax_planeTest ax_palette ax_desk : Nat) (vi vj : Int32) : xMet l y_PS_meets w_PS_meets ({ frames := 6, cells := 1, slots := 6, locals := 90 }) (PreX_ s0 dC dI sz [.ref ax, .int vi, .int vj] [(ax, .inr (0, [.int 0, .int 0, .ref ax_lessEnd, .ref ax_moreEnd, .ref ax_web, .ref ax_planeTest, .ref ax_palette, .ref ax_desk]))] []) (va_Qi (fun (r : Int32) (u : Unit) => False) (fun u t => End_ dC dI (va_A [(ax, .inr (0, [.int 0, .int 0, .ref ax_lessEnd, .ref ax_moreEnd, .ref ax_web, .ref ax_planeTest, .ref ax_palette, .ref ax_desk]))] sz) [] [(ax, .inr (0, [.int 0, .int 0, .ref ax_lessEnd, .ref ax_moreEnd, .ref ax_web, .ref ax_planeTest, .ref ax_palette, .ref ax_desk]))] t) (va_A [(ax, .inr (0, [.int 0, .int 0, .ref ax_lessEnd, .ref ax_moreEnd, .ref ax_web, .ref ax_planeTest, .ref ax_palette, .ref ax_desk]))] sz)) (xX (fun E (u : Unit) t => (E = "java/util/NoSuchElementException") ∧ End_ dC dI (va_A [(ax, .inr (0, [.int 0, .int 0, .ref ax_lessEnd, .ref ax_moreEnd, .ref ax_web, .ref ax_planeTest, .ref ax_palette, .ref ax_desk]))] sz) [] [(ax, .inr (0, [.int 0, .int 0, .ref ax_lessEnd, .ref ax_moreEnd, .ref ax_web, .ref ax_planeTest, .ref ax_palette, .ref ax_desk]))] t) (va_A [(ax, .inr (0, [.int 0, .int 0, .ref ax_lessEnd, .ref ax_moreEnd, .ref ax_web, .ref ax_planeTest, .ref ax_palette, .ref ax_desk]))] sz)) 1 6 (va_A [(ax, .inr (0, [.int 0, .int 0, .ref ax_lessEnd, .ref ax_moreEnd, .ref ax_web, .ref ax_planeTest, .ref ax_palette, .ref ax_desk]))] sz) := by
  refine xMet.ofW (cc := b_PS_meets) (maxL := 3) (ret := (some .boolean)) (by decide) rfl ?_
  intro p e s m args below meth c s₁ B hml hex hv
  obtain ⟨hargs9, hsz9, hP9, hK9, hD9, hN9, hO, hlo⟩ := hv
  have hv : Pre_ dC dI sz [.ref ax, .int vi, .int vj] [(ax, .inr (0, [.int 0, .int 0, .ref ax_lessEnd, .ref ax_moreEnd, .ref ax_web, .ref ax_planeTest, .ref ax_palette, .ref ax_desk]))] [] args s := ⟨hargs9, hsz9, hP9, hK9, hD9, hN9⟩
  have lo_x : s0.heap.size ≤ ax := hlo (ax, .inr (0, [.int 0, .int 0, .ref ax_lessEnd, .ref ax_moreEnd, .ref ax_web, .ref ax_planeTest, .ref ax_palette, .ref ax_desk])) (List.mem_of_getElem? (i := 0) rfl)
  obtain ⟨hargs, hsz, hP, hK, hD0, hN⟩ := hv
  have hx := B.exec
  have hb := B.bytes
  have hr := B.returns
  have hts := atoms_spec (ws := w_PS_meets) B.pre
  have hown : s.vm.findClass R_PS = some m.cls := findClass_of_methodNamed B.named
  have hlocks := B.notSynchronized
  subst hsz
  have hD := hD0.self (sz := s.heap.size)
  generalize hAe : va_A [(ax, .inr (0, [.int 0, .int 0, .ref ax_lessEnd, .ref ax_moreEnd, .ref ax_web, .ref ax_planeTest, .ref ax_palette, .ref ax_desk]))] s.heap.size = A at hD ⊢
  have hA : ∀ q : Nat, s.heap.size ≤ q → A q := fun q h => by rw [← hAe]; exact Or.inr h
  have hS : va_S A s.heap s.heap [] := va_S.rf
  have hl := lv_entry ([.ref ax, .int vi, .int vj]) (n := 3) (Nat.le_of_ble_eq_true rfl)
  refine W.eq (congrArg (fun a => entryFrame m a 3) hargs) ?_
  rw [lg_entry_eq]
  generalize (lg_sl ([.ref ax, .int vi, .int vj]) ++ List.replicate (3 - (lg_sl ([.ref ax, .int vi, .int vj])).length) Slot.unset).toArray = ls at hl ⊢
  have hl : lv_has ls 3 [(0, .ref ax), (1, .int vi), (2, .int vj)] := hl
  generalize hH0 : ([] : List Loc) = locs at hS ⊢
  refine lv_aload_n hx hb d_PS_meets_0 rfl (lv_at hl 0 rfl) ?_
  refine lv_iload_n hx hb d_PS_meets_1 rfl (lv_at hl 1 rfl) ?_
  have hPc := hP.sub (ws' := [(ax, .inr (0, [.int 0, .int 0, .ref ax_lessEnd, .ref ax_moreEnd, .ref ax_web, .ref ax_planeTest, .ref ax_palette, .ref ax_desk]))]) [0] rfl
  have hDc := hD.sub (ws' := [(ax, .inr (0, [.int 0, .int 0, .ref ax_lessEnd, .ref ax_moreEnd, .ref ax_web, .ref ax_planeTest, .ref ax_palette, .ref ax_desk]))]) [0] (by decide) rfl
  have hKc := hK.sub (tys' := []) [] rfl
  have hFc := va_free (wc := [(ax, .inr (0, [.int 0, .int 0, .ref ax_lessEnd, .ref ax_moreEnd, .ref ax_web, .ref ax_planeTest, .ref ax_palette, .ref ax_desk]))]) hD hS hA [0] rfl
  refine va_calli (va_runV (As := [.int vi]) (rest := []) ⟨hx, hb, hml, hown, hts⟩ (c_lineIsThere l dC dI s.heap.size ax ax_lessEnd ax_moreEnd ax_web ax_planeTest ax_palette ax_desk 0 0 vi) (cwV 1 hts (gi4 mw_3_28 mw_3_30 mw_p_28 mw_1_1 mw_3_31) rfl rfl rfl (by decide +kernel) ⟨Nat.le_of_ble_eq_true rfl, Nat.le_of_ble_eq_true rfl⟩) ⟨fb_, va_recv (q0 := 0) (ci := 0) hK hP rfl rfl, pre_ hPc hKc hDc hN⟩ rfl rfl hl.1 rfl (lv_room (Nat.le_of_ble_eq_true rfl)) d_PS_meets_2 ⟨Nat.le_of_ble_eq_true rfl, Nat.le_of_ble_eq_true rfl⟩) hS (fun q _ h => hFc q h) hFc (fun r_2 u t H locs ht hvm hp_2 hB hz1 hk1 hS => ?_)
  have hp_2 : r_2 = f_lit 0 vi := hp_2
  obtain ⟨hP1, -, hD1⟩ := hB
  rw [ht] at hP1
  obtain ⟨hP, hD⟩ := va_join (wr := []) (w1 := [(ax, .inr (0, [.int 0, .int 0, .ref ax_lessEnd, .ref ax_moreEnd, .ref ax_web, .ref ax_planeTest, .ref ax_palette, .ref ax_desk]))]) hP hD [0] [] rfl rfl (by decide) (by decide) hk1 hFc hP1 hD1
  have hP : va_P (dC, dI) classes [(ax, .inr (0, [.int 0, .int 0, .ref ax_lessEnd, .ref ax_moreEnd, .ref ax_web, .ref ax_planeTest, .ref ax_palette, .ref ax_desk]))] H := hP
  have hD : va_D A [(ax, .inr (0, [.int 0, .int 0, .ref ax_lessEnd, .ref ax_moreEnd, .ref ax_web, .ref ax_planeTest, .ref ax_palette, .ref ax_desk]))] := hD
  refine lv_if_eq (tgt := 16) hx hb d_PS_meets_5 rfl (fun hc_5 => ?_) (fun hc_5 => absurd (hp_2.trans (zz_lit0 _)) hc_5)
  obtain ⟨sa, hst0⟩ := h0.2 (R_PS, 192, "a line is not there") (by decide +kernel)
  have hok := og_keep hO hlo hAe hS
  exact x_throwN (own := R_PS) (cls := "java/util/NoSuchElementException") (text := "a line is not there") (ik := 80) (is := 192) (ic := 84) (sa := sa) hx hb hfl hown (by decide +kernel) (hts _ (List.mem_cons_of_mem _ mw_2_222)) (hts _ (List.mem_cons_of_mem _ mw_1_13)) (hst0.warm hO.1) (fun s9 hv9 hh9 => thr_at h0 ⟨by rw [hv9]; exact hO.1, by rw [hh9]; exact hok.1, fun q hq => by rw [hh9]; exact hok.2 q hq⟩ (nsAtoms R_PS 84 "java/util/NoSuchElementException") (List.mem_of_getElem? (i := 2) rfl)) (hl.1.trans hml.symm) d_PS_meets_16 d_PS_meets_19 d_PS_meets_20 d_PS_meets_22 d_PS_meets_25 hex (Nat.le_of_ble_eq_true rfl) (Nat.le_of_ble_eq_true rfl) (Nat.le_of_ble_eq_true rfl) (Nat.le_of_ble_eq_true rfl) hlocks (fun t ha hz hk => ⟨(), ⟨rfl, thr_P hP hk, va_K.moved ha hK, hD⟩, thr_F hS hz hk⟩) hS.2.2 (Nat.le_of_ble_eq_true rfl) (Nat.le_of_ble_eq_true rfl)
