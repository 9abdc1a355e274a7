set_option maxHeartbeats 4000000 in
set_option maxRecDepth 100000 in
theorem c_nthOfG (l : Launch) (dC : Nat → ClassId) (dI : Nat → Nat → Nat) (sz : Nat) (v0 v1 : Int32) (R : Int32) (hR : F_nthOfG v0 v1 = some R) : Met l y_PS_nthOf w_PS_nthOf ({ frames := 1, cells := 0, slots := 0, locals := 21 }) (Pre_ dC dI sz [.int v0, .int v1] [] []) (va_Qi (fun (r : Int32) (u : Unit) => r = R) (fun u t => End_ dC dI (va_A [] sz) [] [] t) (va_A [] sz)) 0 0 (va_A [] sz) := by
  refine Met.ofW (cc := b_PS_nthOf) (maxL := 4) (ret := (some .int)) (by decide) rfl ?_
  intro p e s m args below meth c s₁ B hml hv
  obtain ⟨hargs, hsz, hP, hK, hD0, hN⟩ := hv
  have hx := B.exec
  have hb := B.bytes
  have hr := B.returns
  have hts := atoms_spec (ws := w_PS_nthOf) B.pre
  have hown : s.vm.findClass R_PS = some m.cls := findClass_of_methodNamed B.named
  have hlocks := B.notSynchronized
  subst hsz
  have hD := hD0.self (sz := s.heap.size)
  generalize hAe : va_A [] s.heap.size = A at hD ⊢
  have hA : ∀ q : Nat, s.heap.size ≤ q → A q := fun q h => by rw [← hAe]; exact Or.inr h
  have hS : va_S A s.heap s.heap [] := va_S.rf
  have hl := lv_entry ([.int v0, .int v1]) (n := 4) (Nat.le_of_ble_eq_true rfl)
  refine W.eq (congrArg (fun a => entryFrame m a 4) hargs) ?_
  rw [lg_entry_eq]
  generalize (lg_sl ([.int v0, .int v1]) ++ List.replicate (4 - (lg_sl ([.int v0, .int v1])).length) Slot.unset).toArray = ls at hl ⊢
  have hl : lv_has ls 4 [(0, .int v0), (1, .int v1)] := hl
  generalize hH0 : ([] : List Loc) = locs at hS ⊢
  have hI := hR.symm
  rw [F_nthOfG] at hI
  refine lv_iconst (v := 0) hx hb d_PS_nthOf_0 (by decide) ?_
  refine lv_istore_n (lv' := [(2, .int 0), (0, .int v0), (1, .int v1)]) hx hb d_PS_nthOf_1 rfl hl (by decide) rfl (fun ls hl => ?_)
  refine lv_iconst (v := 0) hx hb d_PS_nthOf_2 (by decide) ?_
  refine lv_istore_n (lv' := [(3, .int 0), (2, .int 0), (0, .int v0), (1, .int v1)]) hx hb d_PS_nthOf_3 rfl hl (by decide) rfl (fun ls hl => ?_)
  obtain ⟨K_4, hK_4⟩ : ∃ K : Int32 → Option (Int32), K = (fun v2_4 => some ((-1))) := ⟨_, rfl⟩
  have X_4 : ∀ (k_4 : Nat) (v2_4 : Int32) (H : Heap) (locs : List Loc) (ls : Array Slot), some R = K_4 v2_4 → va_P (dC, dI) classes [] H → va_D A [] → va_S A s.heap H locs → lv_has ls 4 [(0, .int v0), (1, .int v1), (2, .int v2_4), (3, .int (nI k_4))] → W p l e (headSpec w_PS_nthOf ({ frames := 1, cells := 0, slots := 0, locals := 21 })).room s m args below meth c H locs 0 0 (MQ below (va_Qi (fun (r : Int32) (u : Unit) => r = R) (fun u t => End_ dC dI A [] [] t) A) args s 0 0 A) (F0 m 34 ls []) := by
    intro k_4 v2_4 H locs ls hI hP hD hS hl
    rw [hK_4] at hI
    refine lv_iconst (v := -1) hx hb d_PS_nthOf_34 (by decide) ?_
    exact W.iret (v := (-1)) hx hb hr (fun t ht hW => ⟨⟨(-1), (), rfl, (Option.some.inj hI).symm, by rw [ht]; exact hP, va_K.moved hW.alike hK, hD⟩, hS.F ht⟩) hS.2.2 d_PS_nthOf_35
  have L_4 : ∀ (n_4 k_4 : Nat) (v2_4 : Int32) (H : Heap) (locs : List Loc) (ls : Array Slot), k_4 + n_4 = 10 → some R = F_nthOfG_L4 K_4 v0 v1 n_4 k_4 v2_4 → va_P (dC, dI) classes [] H → va_D A [] → va_S A s.heap H locs → lv_has ls 4 [(0, .int v0), (1, .int v1), (2, .int v2_4), (3, .int (nI k_4))] → W p l e (headSpec w_PS_nthOf ({ frames := 1, cells := 0, slots := 0, locals := 21 })).room s m args below meth c H locs 0 0 (MQ below (va_Qi (fun (r : Int32) (u : Unit) => r = R) (fun u t => End_ dC dI A [] [] t) A) args s 0 0 A) (F0 m 4 ls []) := by
    intro n_4
    induction n_4 with
    | zero =>
      intro k_4 v2_4 H locs ls hkn_4 hI hP hD hS hl
      rw [F_nthOfG_L4] at hI
      refine lv_iload_n hx hb d_PS_nthOf_4 rfl (lv_at hl 3 rfl) ?_
      refine lv_bipush (v := 10) hx hb d_PS_nthOf_5 (by decide) ?_
      refine lv_icmp_ge (tgt := 34) hx hb d_PS_nthOf_7 rfl (fun hc_7 => ?_) (fun hc_7 => absurd (z_exit rfl hkn_4) hc_7)
      have hl := lv_sub hl [0, 1, 2, 3] rfl
      exact X_4 _ _ _ _ _ hI hP hD hS hl
    | succ n_4 ih_4 =>
      intro k_4 v2_4 H locs ls hkn_4 hI hP hD hS hl
      rw [F_nthOfG_L4] at hI
      refine lv_iload_n hx hb d_PS_nthOf_4 rfl (lv_at hl 3 rfl) ?_
      refine lv_bipush (v := 10) hx hb d_PS_nthOf_5 (by decide) ?_
      refine lv_icmp_ge (tgt := 34) hx hb d_PS_nthOf_7 rfl (fun hc_7 => absurd hc_7 (z_stay rfl hkn_4 (by decide))) (fun hc_7 => ?_)
      refine lv_iload_n hx hb d_PS_nthOf_10 rfl (lv_at hl 0 rfl) ?_
      refine lv_iload_n hx hb d_PS_nthOf_11 rfl (lv_at hl 3 rfl) ?_
      have hPc := hP.sub (ws' := []) [] rfl
      have hDc := hD.sub (ws' := []) [] (by decide) rfl
      have hKc := hK.sub (tys' := []) [] rfl
      have hFc := va_free (wc := []) hD hS hA [] rfl
      refine va_calli (va_runS (As := [.int v0, .int (nI k_4)]) (rest := []) ⟨hx, hb, hml, hown, hts⟩ (c_has l dC dI H.size v0 (nI k_4)) (cwS 2 hts (gi3 mw_1_148 mw_1_149 mw_1_1 mw_1_150) rfl rfl rfl (by decide +kernel) ⟨Nat.le_of_ble_eq_true rfl, Nat.le_of_ble_eq_true rfl⟩) ⟨fb_, pre_ hPc hKc hDc hN⟩ rfl rfl hl.1 rfl (lv_room (Nat.le_of_ble_eq_true rfl)) d_PS_nthOf_12 ⟨Nat.le_of_ble_eq_true rfl, Nat.le_of_ble_eq_true rfl⟩) hS (fun q _ h => hFc q h) hFc (fun r_12 u t H locs ht hvm hp_12 hB hz1 hk1 hS => ?_)
      obtain ⟨hP1, -, hD1⟩ := hB
      rw [ht] at hP1
      obtain ⟨hP, hD⟩ := va_join (wr := []) (w1 := []) hP hD [] [] rfl rfl (by decide) (by decide) hk1 hFc hP1 hD1
      have hp_12 : r_12 = f_has v0 (nI k_4) := hp_12
      subst hp_12
      have hP : va_P (dC, dI) classes [] H := hP
      have hD : va_D A [] := hD
      refine lv_if_eq (tgt := 28) hx hb d_PS_nthOf_15 rfl (fun hc_15 => ?_) (fun hc_15 => ?_)
      · skip
        have hI := hI.trans (if_pos hc_15)
        refine lv_iinc (lv' := [(3, .int (nI (k_4 + 1))), (0, .int v0), (1, .int v1), (2, .int v2_4)]) (k := 3) hx hb d_PS_nthOf_28 hl rfl (z_inc _) (by decide) rfl (fun ls hl => ?_)
        refine lv_goto (tgt := 4) hx hb d_PS_nthOf_31 rfl ?_
        have hl := lv_sub hl [1, 2, 3, 0] rfl
        exact ih_4 _ _ _ _ _ (by omega) hI hP hD hS hl
      · skip
        have hI := hI.trans (if_neg hc_15)
        refine lv_iload_n hx hb d_PS_nthOf_18 rfl (lv_at hl 2 rfl) ?_
        refine lv_iload_n hx hb d_PS_nthOf_19 rfl (lv_at hl 1 rfl) ?_
        refine lv_icmp_ne (tgt := 25) hx hb d_PS_nthOf_20 rfl (fun hc_20 => ?_) (fun hc_20 => ?_)
        · skip
          have hI := hI.trans (if_neg hc_20)
          refine lv_iinc (lv' := [(2, .int (v2_4 + 1)), (0, .int v0), (1, .int v1), (3, .int (nI k_4))]) (k := 2) hx hb d_PS_nthOf_25 hl rfl (z_inc1 _) (by decide) rfl (fun ls hl => ?_)
          refine lv_iinc (lv' := [(3, .int (nI (k_4 + 1))), (2, .int (v2_4 + 1)), (0, .int v0), (1, .int v1)]) (k := 3) hx hb d_PS_nthOf_28 hl rfl (z_inc _) (by decide) rfl (fun ls hl => ?_)
          refine lv_goto (tgt := 4) hx hb d_PS_nthOf_31 rfl ?_
          have hl := lv_sub hl [2, 3, 1, 0] rfl
          exact ih_4 _ _ _ _ _ (by omega) hI hP hD hS hl
        · skip
          have hI := hI.trans (if_pos hc_20)
          refine lv_iload_n hx hb d_PS_nthOf_23 rfl (lv_at hl 3 rfl) ?_
          exact W.iret (v := nI k_4) hx hb hr (fun t ht hW => ⟨⟨nI k_4, (), rfl, (Option.some.inj hI).symm, by rw [ht]; exact hP, va_K.moved hW.alike hK, hD⟩, hS.F ht⟩) hS.2.2 d_PS_nthOf_24
  have hl : lv_has ls 4 [(0, .int v0), (1, .int v1), (2, .int 0), (3, .int (nI 0))] := by first | exact lv_sub hl [2, 3, 1, 0] rfl | (rw [nI_succ]; exact lv_sub hl [2, 3, 1, 0] rfl)
  exact L_4 10 0 _ _ _ _ (by omega) (by rw [hK_4]; exact hI) hP hD hS hl
set_option maxHeartbeats 4000000 in
set_option maxRecDepth 100000 in
theorem c_freeNumberG (l : Launch) (dC : Nat → ClassId) (dI : Nat → Nat → Nat) (sz : Nat) (ax ax_lessEnd ax_moreEnd ax_web ax_planeTest ax_palette ax_desk : Nat) (zx_nodeBits : Int32) (zx_lineBits : Int32) (R : Int32) (hR : F_freeNumberG zx_lineBits = some R) : Met l y_PS_freeNumber w_PS_freeNumber ({ frames := 1, cells := 0, slots := 0, locals := 21 }) (Pre_ dC dI sz [.ref ax] [(ax, .inr (0, [.int zx_nodeBits, .int zx_lineBits, .ref ax_lessEnd, .ref ax_moreEnd, .ref ax_web, .ref ax_planeTest, .ref ax_palette, .ref ax_desk]))] []) (va_Qi (fun (r : Int32) (u : Unit) => r = R) (fun u t => End_ dC dI (va_A [(ax, .inr (0, [.int zx_nodeBits, .int zx_lineBits, .ref ax_lessEnd, .ref ax_moreEnd, .ref ax_web, .ref ax_planeTest, .ref ax_palette, .ref ax_desk]))] sz) [] [(ax, .inr (0, [.int zx_nodeBits, .int zx_lineBits, .ref ax_lessEnd, .ref ax_moreEnd, .ref ax_web, .ref ax_planeTest, .ref ax_palette, .ref ax_desk]))] t) (va_A [(ax, .inr (0, [.int zx_nodeBits, .int zx_lineBits, .ref ax_lessEnd, .ref ax_moreEnd, .ref ax_web, .ref ax_planeTest, .ref ax_palette, .ref ax_desk]))] sz)) 0 0 (va_A [(ax, .inr (0, [.int zx_nodeBits, .int zx_lineBits, .ref ax_lessEnd, .ref ax_moreEnd, .ref ax_web, .ref ax_planeTest, .ref ax_palette, .ref ax_desk]))] sz) := by
  refine Met.ofW (cc := b_PS_freeNumber) (maxL := 2) (ret := (some .int)) (by decide) rfl ?_
  intro p e s m args below meth c s₁ B hml hv
  obtain ⟨hargs, hsz, hP, hK, hD0, hN⟩ := hv
  have hx := B.exec
  have hb := B.bytes
  have hr := B.returns
  have hts := atoms_spec (ws := w_PS_freeNumber) B.pre
  have hown : s.vm.findClass R_PS = some m.cls := findClass_of_methodNamed B.named
  have hlocks := B.notSynchronized
  subst hsz
  have hD := hD0.self (sz := s.heap.size)
  generalize hAe : va_A [(ax, .inr (0, [.int zx_nodeBits, .int zx_lineBits, .ref ax_lessEnd, .ref ax_moreEnd, .ref ax_web, .ref ax_planeTest, .ref ax_palette, .ref ax_desk]))] s.heap.size = A at hD ⊢
  have hA : ∀ q : Nat, s.heap.size ≤ q → A q := fun q h => by rw [← hAe]; exact Or.inr h
  have hS : va_S A s.heap s.heap [] := va_S.rf
  have hl := lv_entry ([.ref ax]) (n := 2) (Nat.le_of_ble_eq_true rfl)
  refine W.eq (congrArg (fun a => entryFrame m a 2) hargs) ?_
  rw [lg_entry_eq]
  generalize (lg_sl ([.ref ax]) ++ List.replicate (2 - (lg_sl ([.ref ax])).length) Slot.unset).toArray = ls at hl ⊢
  have hl : lv_has ls 2 [(0, .ref ax)] := hl
  generalize hH0 : ([] : List Loc) = locs at hS ⊢
  have hI := hR.symm
  rw [F_freeNumberG] at hI
  refine lv_iconst (v := 0) hx hb d_PS_freeNumber_0 (by decide) ?_
  refine lv_istore_n (lv' := [(1, .int 0), (0, .ref ax)]) hx hb d_PS_freeNumber_1 rfl hl (by decide) rfl (fun ls hl => ?_)
  obtain ⟨K_2, hK_2⟩ : ∃ K : Unit → Option (Int32), K = (fun (_ : Unit) => some ((-1))) := ⟨_, rfl⟩
  have X_2 : ∀ (k_2 : Nat) (H : Heap) (locs : List Loc) (ls : Array Slot), some R = K_2 () → va_P (dC, dI) classes [(ax, .inr (0, [.int zx_nodeBits, .int zx_lineBits, .ref ax_lessEnd, .ref ax_moreEnd, .ref ax_web, .ref ax_planeTest, .ref ax_palette, .ref ax_desk]))] H → va_D A [(ax, .inr (0, [.int zx_nodeBits, .int zx_lineBits, .ref ax_lessEnd, .ref ax_moreEnd, .ref ax_web, .ref ax_planeTest, .ref ax_palette, .ref ax_desk]))] → va_S A s.heap H locs → lv_has ls 2 [(0, .ref ax), (1, .int (nI k_2))] → W p l e (headSpec w_PS_freeNumber ({ frames := 1, cells := 0, slots := 0, locals := 21 })).room s m args below meth c H locs 0 0 (MQ below (va_Qi (fun (r : Int32) (u : Unit) => r = R) (fun u t => End_ dC dI A [] [(ax, .inr (0, [.int zx_nodeBits, .int zx_lineBits, .ref ax_lessEnd, .ref ax_moreEnd, .ref ax_web, .ref ax_planeTest, .ref ax_palette, .ref ax_desk]))] t) A) args s 0 0 A) (F0 m 27 ls []) := by
    intro k_2  H locs ls hI hP hD hS hl
    rw [hK_2] at hI
    refine lv_iconst (v := -1) hx hb d_PS_freeNumber_27 (by decide) ?_
    exact W.iret (v := (-1)) hx hb hr (fun t ht hW => ⟨⟨(-1), (), rfl, (Option.some.inj hI).symm, by rw [ht]; exact hP, va_K.moved hW.alike hK, hD⟩, hS.F ht⟩) hS.2.2 d_PS_freeNumber_28
  have L_2 : ∀ (n_2 k_2 : Nat) (H : Heap) (locs : List Loc) (ls : Array Slot), k_2 + n_2 = 24 → some R = F_freeNumberG_L2 K_2 zx_lineBits n_2 k_2 → va_P (dC, dI) classes [(ax, .inr (0, [.int zx_nodeBits, .int zx_lineBits, .ref ax_lessEnd, .ref ax_moreEnd, .ref ax_web, .ref ax_planeTest, .ref ax_palette, .ref ax_desk]))] H → va_D A [(ax, .inr (0, [.int zx_nodeBits, .int zx_lineBits, .ref ax_lessEnd, .ref ax_moreEnd, .ref ax_web, .ref ax_planeTest, .ref ax_palette, .ref ax_desk]))] → va_S A s.heap H locs → lv_has ls 2 [(0, .ref ax), (1, .int (nI k_2))] → W p l e (headSpec w_PS_freeNumber ({ frames := 1, cells := 0, slots := 0, locals := 21 })).room s m args below meth c H locs 0 0 (MQ below (va_Qi (fun (r : Int32) (u : Unit) => r = R) (fun u t => End_ dC dI A [] [(ax, .inr (0, [.int zx_nodeBits, .int zx_lineBits, .ref ax_lessEnd, .ref ax_moreEnd, .ref ax_web, .ref ax_planeTest, .ref ax_palette, .ref ax_desk]))] t) A) args s 0 0 A) (F0 m 2 ls []) := by
    intro n_2
    induction n_2 with
    | zero =>
      intro k_2  H locs ls hkn_2 hI hP hD hS hl
      rw [F_freeNumberG_L2] at hI
      refine lv_iload_n hx hb d_PS_freeNumber_2 rfl (lv_at hl 1 rfl) ?_
      refine lv_bipush (v := 24) hx hb d_PS_freeNumber_3 (by decide) ?_
      refine lv_icmp_ge (tgt := 27) hx hb d_PS_freeNumber_5 rfl (fun hc_5 => ?_) (fun hc_5 => absurd (z_exit rfl hkn_2) hc_5)
      have hl := lv_sub hl [0, 1] rfl
      exact X_2 _  _ _ _ hI hP hD hS hl
    | succ n_2 ih_2 =>
      intro k_2  H locs ls hkn_2 hI hP hD hS hl
      rw [F_freeNumberG_L2] at hI
      refine lv_iload_n hx hb d_PS_freeNumber_2 rfl (lv_at hl 1 rfl) ?_
      refine lv_bipush (v := 24) hx hb d_PS_freeNumber_3 (by decide) ?_
      refine lv_icmp_ge (tgt := 27) hx hb d_PS_freeNumber_5 rfl (fun hc_5 => absurd hc_5 (z_stay rfl hkn_2 (by decide))) (fun hc_5 => ?_)
      refine lv_aload_n hx hb d_PS_freeNumber_8 rfl (lv_at hl 0 rfl) ?_
      refine va_get (D := (dC, dI)) (ci := 0) (v := .int zx_lineBits) (C := R_PS) (T := F_PS) (N := 8) hx hb hts (fun w h => List.mem_cons_of_mem _ (in_PS w h)) hown hK hP 0 rfl rfl 1 (by decide) (hts _ (List.mem_cons_of_mem _ mw_1_97)) (fun _ h9 => h9) rfl d_PS_freeNumber_9 ?_
      refine lv_iload_n hx hb d_PS_freeNumber_12 rfl (lv_at hl 1 rfl) ?_
      have hPc := hP.sub (ws' := []) [] rfl
      have hDc := hD.sub (ws' := []) [] (by decide) rfl
      have hKc := hK.sub (tys' := []) [] rfl
      have hFc := va_free (wc := []) hD hS hA [] rfl
      refine va_calli (va_runS (As := [.int zx_lineBits, .int (nI k_2)]) (rest := []) ⟨hx, hb, hml, hown, hts⟩ (c_has l dC dI H.size zx_lineBits (nI k_2)) (cwS 2 hts (gi3 mw_1_148 mw_1_149 mw_1_1 mw_1_150) rfl rfl rfl (by decide +kernel) ⟨Nat.le_of_ble_eq_true rfl, Nat.le_of_ble_eq_true rfl⟩) ⟨fb_, pre_ hPc hKc hDc hN⟩ rfl rfl hl.1 rfl (lv_room (Nat.le_of_ble_eq_true rfl)) d_PS_freeNumber_13 ⟨Nat.le_of_ble_eq_true rfl, Nat.le_of_ble_eq_true rfl⟩) hS (fun q _ h => hFc q h) hFc (fun r_13 u t H locs ht hvm hp_13 hB hz1 hk1 hS => ?_)
      obtain ⟨hP1, -, hD1⟩ := hB
      rw [ht] at hP1
      obtain ⟨hP, hD⟩ := va_join (wr := [(ax, .inr (0, [.int zx_nodeBits, .int zx_lineBits, .ref ax_lessEnd, .ref ax_moreEnd, .ref ax_web, .ref ax_planeTest, .ref ax_palette, .ref ax_desk]))]) (w1 := []) hP hD [] [0] rfl rfl (by decide) (by decide) hk1 hFc hP1 hD1
      have hp_13 : r_13 = f_has zx_lineBits (nI k_2) := hp_13
      subst hp_13
      have hP : va_P (dC, dI) classes [(ax, .inr (0, [.int zx_nodeBits, .int zx_lineBits, .ref ax_lessEnd, .ref ax_moreEnd, .ref ax_web, .ref ax_planeTest, .ref ax_palette, .ref ax_desk]))] H := hP
      have hD : va_D A [(ax, .inr (0, [.int zx_nodeBits, .int zx_lineBits, .ref ax_lessEnd, .ref ax_moreEnd, .ref ax_web, .ref ax_planeTest, .ref ax_palette, .ref ax_desk]))] := hD
      refine lv_if_ne (tgt := 21) hx hb d_PS_freeNumber_16 rfl (fun hc_16 => ?_) (fun hc_16 => ?_)
      · skip
        have hI := hI.trans (if_neg hc_16)
        refine lv_iinc (lv' := [(1, .int (nI (k_2 + 1))), (0, .ref ax)]) (k := 1) hx hb d_PS_freeNumber_21 hl rfl (z_inc _) (by decide) rfl (fun ls hl => ?_)
        refine lv_goto (tgt := 2) hx hb d_PS_freeNumber_24 rfl ?_
        have hl := lv_sub hl [1, 0] rfl
        exact ih_2 _  _ _ _ (by omega) hI hP hD hS hl
      · skip
        have hI := hI.trans (if_pos hc_16)
        refine lv_iload_n hx hb d_PS_freeNumber_19 rfl (lv_at hl 1 rfl) ?_
        exact W.iret (v := nI k_2) hx hb hr (fun t ht hW => ⟨⟨nI k_2, (), rfl, (Option.some.inj hI).symm, by rw [ht]; exact hP, va_K.moved hW.alike hK, hD⟩, hS.F ht⟩) hS.2.2 d_PS_freeNumber_20
  have hl : lv_has ls 2 [(0, .ref ax), (1, .int (nI 0))] := by first | exact lv_sub hl [1, 0] rfl | (rw [nI_succ]; exact lv_sub hl [1, 0] rfl)
  exact L_2 24 0  _ _ _ (by omega) (by rw [hK_2]; exact hI) hP hD hS hl
set_option maxHeartbeats 4000000 in
set_option maxRecDepth 100000 in
theorem c_isEndG (l : Launch) (dC : Nat → ClassId) (dI : Nat → Nat → Nat) (sz : Nat) (ax ax_lessEnd ax_moreEnd ax_web ax_planeTest ax_palette ax_desk : Nat) (kx_lessEnd kx_moreEnd : ClassId) (zx_nodeBits : Int32) (zx_lineBits : Int32) (zx_lessEnd : Nat → Int32) (zx_moreEnd : Nat → Int32) (v1 v2 : Int32) (R : Int32) (hR : F_isEndG zx_lessEnd zx_moreEnd v1 v2 = some R) : Met l y_PS_isEnd w_PS_isEnd ({ frames := 0, cells := 0, slots := 0, locals := 0 }) (Pre_ dC dI sz [.ref ax, .int v1, .int v2] [(ax, .inr (0, [.int zx_nodeBits, .int zx_lineBits, .ref ax_lessEnd, .ref ax_moreEnd, .ref ax_web, .ref ax_planeTest, .ref ax_palette, .ref ax_desk])), (ax_lessEnd, .inl (kx_lessEnd, 24, .inl zx_lessEnd)), (ax_moreEnd, .inl (kx_moreEnd, 24, .inl zx_moreEnd))] [(kx_lessEnd, .int), (kx_moreEnd, .int)]) (va_Qi (fun (r : Int32) (u : Unit) => (r = R) ∧ z01 r) (fun u t => End_ dC dI (va_A [(ax, .inr (0, [.int zx_nodeBits, .int zx_lineBits, .ref ax_lessEnd, .ref ax_moreEnd, .ref ax_web, .ref ax_planeTest, .ref ax_palette, .ref ax_desk])), (ax_lessEnd, .inl (kx_lessEnd, 24, .inl zx_lessEnd)), (ax_moreEnd, .inl (kx_moreEnd, 24, .inl zx_moreEnd))] sz) [(kx_lessEnd, .int), (kx_moreEnd, .int)] [(ax, .inr (0, [.int zx_nodeBits, .int zx_lineBits, .ref ax_lessEnd, .ref ax_moreEnd, .ref ax_web, .ref ax_planeTest, .ref ax_palette, .ref ax_desk])), (ax_lessEnd, .inl (kx_lessEnd, 24, .inl zx_lessEnd)), (ax_moreEnd, .inl (kx_moreEnd, 24, .inl zx_moreEnd))] t) (va_A [(ax, .inr (0, [.int zx_nodeBits, .int zx_lineBits, .ref ax_lessEnd, .ref ax_moreEnd, .ref ax_web, .ref ax_planeTest, .ref ax_palette, .ref ax_desk])), (ax_lessEnd, .inl (kx_lessEnd, 24, .inl zx_lessEnd)), (ax_moreEnd, .inl (kx_moreEnd, 24, .inl zx_moreEnd))] sz)) 0 0 (va_A [(ax, .inr (0, [.int zx_nodeBits, .int zx_lineBits, .ref ax_lessEnd, .ref ax_moreEnd, .ref ax_web, .ref ax_planeTest, .ref ax_palette, .ref ax_desk])), (ax_lessEnd, .inl (kx_lessEnd, 24, .inl zx_lessEnd)), (ax_moreEnd, .inl (kx_moreEnd, 24, .inl zx_moreEnd))] sz) := by
  refine Met.ofW (cc := b_PS_isEnd) (maxL := 3) (ret := (some .boolean)) (by decide) rfl ?_
  intro p e s m args below meth c s₁ B hml hv
  obtain ⟨hargs, hsz, hP, hK, hD0, hN⟩ := hv
  have hx := B.exec
  have hb := B.bytes
  have hr := B.returns
  have hts := atoms_spec (ws := w_PS_isEnd) B.pre
  have hown : s.vm.findClass R_PS = some m.cls := findClass_of_methodNamed B.named
  have hlocks := B.notSynchronized
  subst hsz
  have hD := hD0.self (sz := s.heap.size)
  generalize hAe : va_A [(ax, .inr (0, [.int zx_nodeBits, .int zx_lineBits, .ref ax_lessEnd, .ref ax_moreEnd, .ref ax_web, .ref ax_planeTest, .ref ax_palette, .ref ax_desk])), (ax_lessEnd, .inl (kx_lessEnd, 24, .inl zx_lessEnd)), (ax_moreEnd, .inl (kx_moreEnd, 24, .inl zx_moreEnd))] s.heap.size = A at hD ⊢
  have hA : ∀ q : Nat, s.heap.size ≤ q → A q := fun q h => by rw [← hAe]; exact Or.inr h
  have hS : va_S A s.heap s.heap [] := va_S.rf
  have hl := lv_entry ([.ref ax, .int v1, .int v2]) (n := 3) (Nat.le_of_ble_eq_true rfl)
  refine W.eq (congrArg (fun a => entryFrame m a 3) hargs) ?_
  rw [lg_entry_eq]
  generalize (lg_sl ([.ref ax, .int v1, .int v2]) ++ List.replicate (3 - (lg_sl ([.ref ax, .int v1, .int v2])).length) Slot.unset).toArray = ls at hl ⊢
  have hl : lv_has ls 3 [(0, .ref ax), (1, .int v1), (2, .int v2)] := hl
  generalize hH0 : ([] : List Loc) = locs at hS ⊢
  have hI := hR.symm
  rw [F_isEndG] at hI
  refine lv_aload_n hx hb d_PS_isEnd_0 rfl (lv_at hl 0 rfl) ?_
  refine va_get (D := (dC, dI)) (ci := 0) (v := .ref ax_lessEnd) (C := R_PS) (T := F_PS) (N := 8) hx hb hts (fun w h => List.mem_cons_of_mem _ (in_PS w h)) hown hK hP 0 rfl rfl 2 (by decide) (hts _ (List.mem_cons_of_mem _ mw_1_98)) (fun _ h9 => h9) rfl d_PS_isEnd_1 ?_
  refine lv_iload_n hx hb d_PS_isEnd_4 rfl (lv_at hl 2 rfl) ?_
  have hi_5 := ob_in hI
  have hI := ob_th hI
  refine va_iald (D := (dC, dI)) hx hb hK hP 1 0 rfl rfl hi_5 d_PS_isEnd_5 ?_
  refine lv_iload_n hx hb d_PS_isEnd_6 rfl (lv_at hl 1 rfl) ?_
  refine lv_icmp_eq (tgt := 20) hx hb d_PS_isEnd_7 rfl (fun hc_7 => ?_) (fun hc_7 => ?_)
  · skip
    have hI := hI.trans (if_pos hc_7)
    refine lv_iconst (v := 1) hx hb d_PS_isEnd_20 (by decide) ?_
    refine lv_goto (tgt := 25) hx hb d_PS_isEnd_21 rfl ?_
    exact W.zret (v := 1) (ty := .boolean) hx hb hr (nr01 (Or.inr rfl)) (fun t ht hW => ⟨⟨1, (), rfl, ⟨(Option.some.inj hI).symm, (Or.inr rfl)⟩, by rw [ht]; exact hP, va_K.moved hW.alike hK, hD⟩, hS.F ht⟩) hS.2.2 d_PS_isEnd_25
  · skip
    have hI := hI.trans (if_neg hc_7)
    refine lv_aload_n hx hb d_PS_isEnd_10 rfl (lv_at hl 0 rfl) ?_
    refine va_get (D := (dC, dI)) (ci := 0) (v := .ref ax_moreEnd) (C := R_PS) (T := F_PS) (N := 8) hx hb hts (fun w h => List.mem_cons_of_mem _ (in_PS w h)) hown hK hP 0 rfl rfl 3 (by decide) (hts _ (List.mem_cons_of_mem _ mw_1_99)) (fun _ h9 => h9) rfl d_PS_isEnd_11 ?_
    refine lv_iload_n hx hb d_PS_isEnd_14 rfl (lv_at hl 2 rfl) ?_
    refine va_iald (D := (dC, dI)) hx hb hK hP 2 1 rfl rfl hi_5 d_PS_isEnd_15 ?_
    refine lv_iload_n hx hb d_PS_isEnd_16 rfl (lv_at hl 1 rfl) ?_
    refine lv_icmp_ne (tgt := 24) hx hb d_PS_isEnd_17 rfl (fun hc_17 => ?_) (fun hc_17 => ?_)
    · skip
      have hI := hI.trans (if_neg hc_17)
      refine lv_iconst (v := 0) hx hb d_PS_isEnd_24 (by decide) ?_
      exact W.zret (v := 0) (ty := .boolean) hx hb hr (nr01 (Or.inl rfl)) (fun t ht hW => ⟨⟨0, (), rfl, ⟨(Option.some.inj hI).symm, (Or.inl rfl)⟩, by rw [ht]; exact hP, va_K.moved hW.alike hK, hD⟩, hS.F ht⟩) hS.2.2 d_PS_isEnd_25
    · skip
      have hI := hI.trans (if_pos hc_17)
      refine lv_iconst (v := 1) hx hb d_PS_isEnd_20 (by decide) ?_
      refine lv_goto (tgt := 25) hx hb d_PS_isEnd_21 rfl ?_
      exact W.zret (v := 1) (ty := .boolean) hx hb hr (nr01 (Or.inr rfl)) (fun t ht hW => ⟨⟨1, (), rfl, ⟨(Option.some.inj hI).symm, (Or.inr rfl)⟩, by rw [ht]; exact hP, va_K.moved hW.alike hK, hD⟩, hS.F ht⟩) hS.2.2 d_PS_isEnd_25
set_option maxHeartbeats 4000000 in
set_option maxRecDepth 100000 in
theorem c_linesOfG (l : Launch) (dC : Nat → ClassId) (dI : Nat → Nat → Nat) (sz : Nat) (ax ax_lessEnd ax_moreEnd ax_web ax_planeTest ax_palette ax_desk : Nat) (kx_lessEnd kx_moreEnd : ClassId) (zx_nodeBits : Int32) (zx_lineBits : Int32) (zx_lessEnd : Nat → Int32) (zx_moreEnd : Nat → Int32) (v1 : Int32) (R : Int32) (hR : F_linesOfG zx_lineBits zx_lessEnd zx_moreEnd v1 = some R) : Met l y_PS_linesOf w_PS_linesOf ({ frames := 1, cells := 0, slots := 0, locals := 22 }) (Pre_ dC dI sz [.ref ax, .int v1] [(ax, .inr (0, [.int zx_nodeBits, .int zx_lineBits, .ref ax_lessEnd, .ref ax_moreEnd, .ref ax_web, .ref ax_planeTest, .ref ax_palette, .ref ax_desk])), (ax_lessEnd, .inl (kx_lessEnd, 24, .inl zx_lessEnd)), (ax_moreEnd, .inl (kx_moreEnd, 24, .inl zx_moreEnd))] [(kx_lessEnd, .int), (kx_moreEnd, .int)]) (va_Qi (fun (r : Int32) (u : Unit) => r = R) (fun u t => End_ dC dI (va_A [(ax, .inr (0, [.int zx_nodeBits, .int zx_lineBits, .ref ax_lessEnd, .ref ax_moreEnd, .ref ax_web, .ref ax_planeTest, .ref ax_palette, .ref ax_desk])), (ax_lessEnd, .inl (kx_lessEnd, 24, .inl zx_lessEnd)), (ax_moreEnd, .inl (kx_moreEnd, 24, .inl zx_moreEnd))] sz) [(kx_lessEnd, .int), (kx_moreEnd, .int)] [(ax, .inr (0, [.int zx_nodeBits, .int zx_lineBits, .ref ax_lessEnd, .ref ax_moreEnd, .ref ax_web, .ref ax_planeTest, .ref ax_palette, .ref ax_desk])), (ax_lessEnd, .inl (kx_lessEnd, 24, .inl zx_lessEnd)), (ax_moreEnd, .inl (kx_moreEnd, 24, .inl zx_moreEnd))] t) (va_A [(ax, .inr (0, [.int zx_nodeBits, .int zx_lineBits, .ref ax_lessEnd, .ref ax_moreEnd, .ref ax_web, .ref ax_planeTest, .ref ax_palette, .ref ax_desk])), (ax_lessEnd, .inl (kx_lessEnd, 24, .inl zx_lessEnd)), (ax_moreEnd, .inl (kx_moreEnd, 24, .inl zx_moreEnd))] sz)) 0 0 (va_A [(ax, .inr (0, [.int zx_nodeBits, .int zx_lineBits, .ref ax_lessEnd, .ref ax_moreEnd, .ref ax_web, .ref ax_planeTest, .ref ax_palette, .ref ax_desk])), (ax_lessEnd, .inl (kx_lessEnd, 24, .inl zx_lessEnd)), (ax_moreEnd, .inl (kx_moreEnd, 24, .inl zx_moreEnd))] sz) := by
  refine Met.ofW (cc := b_PS_linesOf) (maxL := 4) (ret := (some .int)) (by decide) rfl ?_
  intro p e s m args below meth c s₁ B hml hv
  obtain ⟨hargs, hsz, hP, hK, hD0, hN⟩ := hv
  have hx := B.exec
  have hb := B.bytes
  have hr := B.returns
  have hts := atoms_spec (ws := w_PS_linesOf) B.pre
  have hown : s.vm.findClass R_PS = some m.cls := findClass_of_methodNamed B.named
  have hlocks := B.notSynchronized
  subst hsz
  have hD := hD0.self (sz := s.heap.size)
  generalize hAe : va_A [(ax, .inr (0, [.int zx_nodeBits, .int zx_lineBits, .ref ax_lessEnd, .ref ax_moreEnd, .ref ax_web, .ref ax_planeTest, .ref ax_palette, .ref ax_desk])), (ax_lessEnd, .inl (kx_lessEnd, 24, .inl zx_lessEnd)), (ax_moreEnd, .inl (kx_moreEnd, 24, .inl zx_moreEnd))] s.heap.size = A at hD ⊢
  have hA : ∀ q : Nat, s.heap.size ≤ q → A q := fun q h => by rw [← hAe]; exact Or.inr h
  have hS : va_S A s.heap s.heap [] := va_S.rf
  have hl := lv_entry ([.ref ax, .int v1]) (n := 4) (Nat.le_of_ble_eq_true rfl)
  refine W.eq (congrArg (fun a => entryFrame m a 4) hargs) ?_
  rw [lg_entry_eq]
  generalize (lg_sl ([.ref ax, .int v1]) ++ List.replicate (4 - (lg_sl ([.ref ax, .int v1])).length) Slot.unset).toArray = ls at hl ⊢
  have hl : lv_has ls 4 [(0, .ref ax), (1, .int v1)] := hl
  generalize hH0 : ([] : List Loc) = locs at hS ⊢
  have hI := hR.symm
  rw [F_linesOfG] at hI
  refine lv_iconst (v := 0) hx hb d_PS_linesOf_0 (by decide) ?_
  refine lv_istore_n (lv' := [(2, .int 0), (0, .ref ax), (1, .int v1)]) hx hb d_PS_linesOf_1 rfl hl (by decide) rfl (fun ls hl => ?_)
  refine lv_iconst (v := 0) hx hb d_PS_linesOf_2 (by decide) ?_
  refine lv_istore_n (lv' := [(3, .int 0), (2, .int 0), (0, .ref ax), (1, .int v1)]) hx hb d_PS_linesOf_3 rfl hl (by decide) rfl (fun ls hl => ?_)
  obtain ⟨K_4, hK_4⟩ : ∃ K : Int32 → Option (Int32), K = (fun v2_4 => some (v2_4)) := ⟨_, rfl⟩
  have X_4 : ∀ (k_4 : Nat) (v2_4 : Int32) (H : Heap) (locs : List Loc) (ls : Array Slot), some R = K_4 v2_4 → va_P (dC, dI) classes [(ax, .inr (0, [.int zx_nodeBits, .int zx_lineBits, .ref ax_lessEnd, .ref ax_moreEnd, .ref ax_web, .ref ax_planeTest, .ref ax_palette, .ref ax_desk])), (ax_lessEnd, .inl (kx_lessEnd, 24, .inl zx_lessEnd)), (ax_moreEnd, .inl (kx_moreEnd, 24, .inl zx_moreEnd))] H → va_D A [(ax, .inr (0, [.int zx_nodeBits, .int zx_lineBits, .ref ax_lessEnd, .ref ax_moreEnd, .ref ax_web, .ref ax_planeTest, .ref ax_palette, .ref ax_desk])), (ax_lessEnd, .inl (kx_lessEnd, 24, .inl zx_lessEnd)), (ax_moreEnd, .inl (kx_moreEnd, 24, .inl zx_moreEnd))] → va_S A s.heap H locs → lv_has ls 4 [(0, .ref ax), (1, .int v1), (2, .int v2_4), (3, .int (nI k_4))] → W p l e (headSpec w_PS_linesOf ({ frames := 1, cells := 0, slots := 0, locals := 22 })).room s m args below meth c H locs 0 0 (MQ below (va_Qi (fun (r : Int32) (u : Unit) => r = R) (fun u t => End_ dC dI A [(kx_lessEnd, .int), (kx_moreEnd, .int)] [(ax, .inr (0, [.int zx_nodeBits, .int zx_lineBits, .ref ax_lessEnd, .ref ax_moreEnd, .ref ax_web, .ref ax_planeTest, .ref ax_palette, .ref ax_desk])), (ax_lessEnd, .inl (kx_lessEnd, 24, .inl zx_lessEnd)), (ax_moreEnd, .inl (kx_moreEnd, 24, .inl zx_moreEnd))] t) A) args s 0 0 A) (F0 m 42 ls []) := by
    intro k_4 v2_4 H locs ls hI hP hD hS hl
    rw [hK_4] at hI
    refine lv_iload_n hx hb d_PS_linesOf_42 rfl (lv_at hl 2 rfl) ?_
    exact W.iret (v := v2_4) hx hb hr (fun t ht hW => ⟨⟨v2_4, (), rfl, (Option.some.inj hI).symm, by rw [ht]; exact hP, va_K.moved hW.alike hK, hD⟩, hS.F ht⟩) hS.2.2 d_PS_linesOf_43
  have L_4 : ∀ (n_4 k_4 : Nat) (v2_4 : Int32) (H : Heap) (locs : List Loc) (ls : Array Slot), k_4 + n_4 = 24 → some R = F_linesOfG_L4 K_4 zx_lineBits zx_lessEnd zx_moreEnd v1 n_4 k_4 v2_4 → va_P (dC, dI) classes [(ax, .inr (0, [.int zx_nodeBits, .int zx_lineBits, .ref ax_lessEnd, .ref ax_moreEnd, .ref ax_web, .ref ax_planeTest, .ref ax_palette, .ref ax_desk])), (ax_lessEnd, .inl (kx_lessEnd, 24, .inl zx_lessEnd)), (ax_moreEnd, .inl (kx_moreEnd, 24, .inl zx_moreEnd))] H → va_D A [(ax, .inr (0, [.int zx_nodeBits, .int zx_lineBits, .ref ax_lessEnd, .ref ax_moreEnd, .ref ax_web, .ref ax_planeTest, .ref ax_palette, .ref ax_desk])), (ax_lessEnd, .inl (kx_lessEnd, 24, .inl zx_lessEnd)), (ax_moreEnd, .inl (kx_moreEnd, 24, .inl zx_moreEnd))] → va_S A s.heap H locs → lv_has ls 4 [(0, .ref ax), (1, .int v1), (2, .int v2_4), (3, .int (nI k_4))] → W p l e (headSpec w_PS_linesOf ({ frames := 1, cells := 0, slots := 0, locals := 22 })).room s m args below meth c H locs 0 0 (MQ below (va_Qi (fun (r : Int32) (u : Unit) => r = R) (fun u t => End_ dC dI A [(kx_lessEnd, .int), (kx_moreEnd, .int)] [(ax, .inr (0, [.int zx_nodeBits, .int zx_lineBits, .ref ax_lessEnd, .ref ax_moreEnd, .ref ax_web, .ref ax_planeTest, .ref ax_palette, .ref ax_desk])), (ax_lessEnd, .inl (kx_lessEnd, 24, .inl zx_lessEnd)), (ax_moreEnd, .inl (kx_moreEnd, 24, .inl zx_moreEnd))] t) A) args s 0 0 A) (F0 m 4 ls []) := by
    intro n_4
    induction n_4 with
    | zero =>
      intro k_4 v2_4 H locs ls hkn_4 hI hP hD hS hl
      rw [F_linesOfG_L4] at hI
      refine lv_iload_n hx hb d_PS_linesOf_4 rfl (lv_at hl 3 rfl) ?_
      refine lv_bipush (v := 24) hx hb d_PS_linesOf_5 (by decide) ?_
      refine lv_icmp_ge (tgt := 42) hx hb d_PS_linesOf_7 rfl (fun hc_7 => ?_) (fun hc_7 => absurd (z_exit rfl hkn_4) hc_7)
      have hl := lv_sub hl [0, 1, 2, 3] rfl
      exact X_4 _ _ _ _ _ hI hP hD hS hl
    | succ n_4 ih_4 =>
      intro k_4 v2_4 H locs ls hkn_4 hI hP hD hS hl
      rw [F_linesOfG_L4] at hI
      refine lv_iload_n hx hb d_PS_linesOf_4 rfl (lv_at hl 3 rfl) ?_
      refine lv_bipush (v := 24) hx hb d_PS_linesOf_5 (by decide) ?_
      refine lv_icmp_ge (tgt := 42) hx hb d_PS_linesOf_7 rfl (fun hc_7 => absurd hc_7 (z_stay rfl hkn_4 (by decide))) (fun hc_7 => ?_)
      refine lv_aload_n hx hb d_PS_linesOf_10 rfl (lv_at hl 0 rfl) ?_
      refine va_get (D := (dC, dI)) (ci := 0) (v := .int zx_lineBits) (C := R_PS) (T := F_PS) (N := 8) hx hb hts (fun w h => List.mem_cons_of_mem _ (in_PS w h)) hown hK hP 0 rfl rfl 1 (by decide) (hts _ (List.mem_cons_of_mem _ mw_1_97)) (fun _ h9 => h9) rfl d_PS_linesOf_11 ?_
      refine lv_iload_n hx hb d_PS_linesOf_14 rfl (lv_at hl 3 rfl) ?_
      have hPc := hP.sub (ws' := []) [] rfl
      have hDc := hD.sub (ws' := []) [] (by decide) rfl
      have hKc := hK.sub (tys' := []) [] rfl
      have hFc := va_free (wc := []) hD hS hA [] rfl
      refine va_calli (va_runS (As := [.int zx_lineBits, .int (nI k_4)]) (rest := []) ⟨hx, hb, hml, hown, hts⟩ (c_has l dC dI H.size zx_lineBits (nI k_4)) (cwS 2 hts (gi3 mw_1_148 mw_1_149 mw_1_1 mw_1_150) rfl rfl rfl (by decide +kernel) ⟨Nat.le_of_ble_eq_true rfl, Nat.le_of_ble_eq_true rfl⟩) ⟨fb_, pre_ hPc hKc hDc hN⟩ rfl rfl hl.1 rfl (lv_room (Nat.le_of_ble_eq_true rfl)) d_PS_linesOf_15 ⟨Nat.le_of_ble_eq_true rfl, Nat.le_of_ble_eq_true rfl⟩) hS (fun q _ h => hFc q h) hFc (fun r_15 u t H locs ht hvm hp_15 hB hz1 hk1 hS => ?_)
      obtain ⟨hP1, -, hD1⟩ := hB
      rw [ht] at hP1
      obtain ⟨hP, hD⟩ := va_join (wr := [(ax, .inr (0, [.int zx_nodeBits, .int zx_lineBits, .ref ax_lessEnd, .ref ax_moreEnd, .ref ax_web, .ref ax_planeTest, .ref ax_palette, .ref ax_desk])), (ax_lessEnd, .inl (kx_lessEnd, 24, .inl zx_lessEnd)), (ax_moreEnd, .inl (kx_moreEnd, 24, .inl zx_moreEnd))]) (w1 := []) hP hD [] [0, 1, 2] rfl rfl (by decide) (by decide) hk1 hFc hP1 hD1
      have hp_15 : r_15 = f_has zx_lineBits (nI k_4) := hp_15
      subst hp_15
      have hP : va_P (dC, dI) classes [(ax, .inr (0, [.int zx_nodeBits, .int zx_lineBits, .ref ax_lessEnd, .ref ax_moreEnd, .ref ax_web, .ref ax_planeTest, .ref ax_palette, .ref ax_desk])), (ax_lessEnd, .inl (kx_lessEnd, 24, .inl zx_lessEnd)), (ax_moreEnd, .inl (kx_moreEnd, 24, .inl zx_moreEnd))] H := hP
      have hD : va_D A [(ax, .inr (0, [.int zx_nodeBits, .int zx_lineBits, .ref ax_lessEnd, .ref ax_moreEnd, .ref ax_web, .ref ax_planeTest, .ref ax_palette, .ref ax_desk])), (ax_lessEnd, .inl (kx_lessEnd, 24, .inl zx_lessEnd)), (ax_moreEnd, .inl (kx_moreEnd, 24, .inl zx_moreEnd))] := hD
      obtain ⟨K_j36_18, hK_j36_18⟩ : ∃ K : Int32 → Option (Int32), K = (fun (j_36_18 : Int32) => (F_linesOfG_L4 K_4 zx_lineBits zx_lessEnd zx_moreEnd v1 n_4 (k_4 + 1) j_36_18)) := ⟨_, rfl⟩
      have J_36_18 : ∀ (v2_36_18 : Int32) (H : Heap) (locs : List Loc) (ls : Array Slot), some R = (K_j36_18 v2_36_18) → va_P (dC, dI) classes [(ax, .inr (0, [.int zx_nodeBits, .int zx_lineBits, .ref ax_lessEnd, .ref ax_moreEnd, .ref ax_web, .ref ax_planeTest, .ref ax_palette, .ref ax_desk])), (ax_lessEnd, .inl (kx_lessEnd, 24, .inl zx_lessEnd)), (ax_moreEnd, .inl (kx_moreEnd, 24, .inl zx_moreEnd))] H → va_D A [(ax, .inr (0, [.int zx_nodeBits, .int zx_lineBits, .ref ax_lessEnd, .ref ax_moreEnd, .ref ax_web, .ref ax_planeTest, .ref ax_palette, .ref ax_desk])), (ax_lessEnd, .inl (kx_lessEnd, 24, .inl zx_lessEnd)), (ax_moreEnd, .inl (kx_moreEnd, 24, .inl zx_moreEnd))] → va_S A s.heap H locs → lv_has ls 4 [(0, .ref ax), (1, .int v1), (2, .int v2_36_18), (3, .int (nI k_4))] → W p l e (headSpec w_PS_linesOf ({ frames := 1, cells := 0, slots := 0, locals := 22 })).room s m args below meth c H locs 0 0 (MQ below (va_Qi (fun (r : Int32) (u : Unit) => r = R) (fun u t => End_ dC dI A [(kx_lessEnd, .int), (kx_moreEnd, .int)] [(ax, .inr (0, [.int zx_nodeBits, .int zx_lineBits, .ref ax_lessEnd, .ref ax_moreEnd, .ref ax_web, .ref ax_planeTest, .ref ax_palette, .ref ax_desk])), (ax_lessEnd, .inl (kx_lessEnd, 24, .inl zx_lessEnd)), (ax_moreEnd, .inl (kx_moreEnd, 24, .inl zx_moreEnd))] t) A) args s 0 0 A) (F0 m 36 ls []) := by
        intro v2_36_18 H locs ls hI hP hD hS hl
        rw [hK_j36_18] at hI
        refine lv_iinc (lv' := [(3, .int (nI (k_4 + 1))), (0, .ref ax), (1, .int v1), (2, .int v2_36_18)]) (k := 3) hx hb d_PS_linesOf_36 hl rfl (z_inc _) (by decide) rfl (fun ls hl => ?_)
        refine lv_goto (tgt := 4) hx hb d_PS_linesOf_39 rfl ?_
        have hl := lv_sub hl [1, 2, 3, 0] rfl
        exact ih_4 _ _ _ _ _ (by omega) hI hP hD hS hl
      have hI : some R = (Option.bind (if (f_has zx_lineBits (nI k_4)) = 0 then (some (v2_4)) else ((F_isEndG zx_lessEnd zx_moreEnd v1 (nI k_4)).bind (fun p_24 => (if p_24 = 0 then (some (v2_4)) else (some (v2_4 ||| (((1 : Int32)) <<< ((nI k_4) &&& 31)))))))) K_j36_18) := by rw [hK_j36_18]; exact hI
      refine lv_if_eq (tgt := 36) hx hb d_PS_linesOf_18 rfl (fun hc_18 => ?_) (fun hc_18 => ?_)
      · skip
        have hI := ob_ifC (C := fun y_ => Option.bind y_ K_j36_18) hc_18 hI
        have hl := lv_sub hl [0, 1, 2, 3] rfl
        exact J_36_18 _ _ _ _ hI hP hD hS hl
      · skip
        have hI := ob_elC (C := fun y_ => Option.bind y_ K_j36_18) hc_18 hI
        refine lv_aload_n hx hb d_PS_linesOf_21 rfl (lv_at hl 0 rfl) ?_
        refine lv_iload_n hx hb d_PS_linesOf_22 rfl (lv_at hl 1 rfl) ?_
        refine lv_iload_n hx hb d_PS_linesOf_23 rfl (lv_at hl 3 rfl) ?_
        obtain ⟨p_24, hg_24, hI⟩ := ob_bdC (C := fun y_ => Option.bind y_ K_j36_18) rfl hI
        have hPc := hP.sub (ws' := [(ax, .inr (0, [.int zx_nodeBits, .int zx_lineBits, .ref ax_lessEnd, .ref ax_moreEnd, .ref ax_web, .ref ax_planeTest, .ref ax_palette, .ref ax_desk])), (ax_lessEnd, .inl (kx_lessEnd, 24, .inl zx_lessEnd)), (ax_moreEnd, .inl (kx_moreEnd, 24, .inl zx_moreEnd))]) [0, 1, 2] rfl
        have hDc := hD.sub (ws' := [(ax, .inr (0, [.int zx_nodeBits, .int zx_lineBits, .ref ax_lessEnd, .ref ax_moreEnd, .ref ax_web, .ref ax_planeTest, .ref ax_palette, .ref ax_desk])), (ax_lessEnd, .inl (kx_lessEnd, 24, .inl zx_lessEnd)), (ax_moreEnd, .inl (kx_moreEnd, 24, .inl zx_moreEnd))]) [0, 1, 2] (by decide) rfl
        have hKc := hK.sub (tys' := [(kx_lessEnd, .int), (kx_moreEnd, .int)]) [0, 1] rfl
        have hFc := va_free (wc := [(ax, .inr (0, [.int zx_nodeBits, .int zx_lineBits, .ref ax_lessEnd, .ref ax_moreEnd, .ref ax_web, .ref ax_planeTest, .ref ax_palette, .ref ax_desk])), (ax_lessEnd, .inl (kx_lessEnd, 24, .inl zx_lessEnd)), (ax_moreEnd, .inl (kx_moreEnd, 24, .inl zx_moreEnd))]) hD hS hA [0, 1, 2] rfl
        refine va_calli (va_runV (As := [.int v1, .int (nI k_4)]) (rest := []) ⟨hx, hb, hml, hown, hts⟩ (c_isEndG l dC dI H.size ax ax_lessEnd ax_moreEnd ax_web ax_planeTest ax_palette ax_desk kx_lessEnd kx_moreEnd zx_nodeBits zx_lineBits zx_lessEnd zx_moreEnd v1 (nI k_4) p_24 hg_24) (cwV 2 hts (gi4 mw_1_233 mw_1_235 mw_p_13 mw_1_1 mw_1_236) rfl rfl rfl (by decide +kernel) ⟨Nat.le_of_ble_eq_true rfl, Nat.le_of_ble_eq_true rfl⟩) ⟨fb_, va_recv (q0 := 0) (ci := 0) hK hP rfl rfl, pre_ hPc hKc hDc hN⟩ rfl rfl hl.1 rfl (lv_room (Nat.le_of_ble_eq_true rfl)) d_PS_linesOf_24 ⟨Nat.le_of_ble_eq_true rfl, Nat.le_of_ble_eq_true rfl⟩) hS (fun q _ h => hFc q h) hFc (fun r_24 u t H locs ht hvm hp_24 hB hz1 hk1 hS => ?_)
        obtain ⟨hP1, -, hD1⟩ := hB
        rw [ht] at hP1
        obtain ⟨hP, hD⟩ := va_join (wr := []) (w1 := [(ax, .inr (0, [.int zx_nodeBits, .int zx_lineBits, .ref ax_lessEnd, .ref ax_moreEnd, .ref ax_web, .ref ax_planeTest, .ref ax_palette, .ref ax_desk])), (ax_lessEnd, .inl (kx_lessEnd, 24, .inl zx_lessEnd)), (ax_moreEnd, .inl (kx_moreEnd, 24, .inl zx_moreEnd))]) hP hD [0, 1, 2] [] rfl rfl (by decide) (by decide) hk1 hFc hP1 hD1
        obtain ⟨hp_24, hz_24⟩ := hp_24
        have hp_24 : (r_24) = p_24 := hp_24
        subst hp_24
        have hP : va_P (dC, dI) classes [(ax, .inr (0, [.int zx_nodeBits, .int zx_lineBits, .ref ax_lessEnd, .ref ax_moreEnd, .ref ax_web, .ref ax_planeTest, .ref ax_palette, .ref ax_desk])), (ax_lessEnd, .inl (kx_lessEnd, 24, .inl zx_lessEnd)), (ax_moreEnd, .inl (kx_moreEnd, 24, .inl zx_moreEnd))] H := hP
        have hD : va_D A [(ax, .inr (0, [.int zx_nodeBits, .int zx_lineBits, .ref ax_lessEnd, .ref ax_moreEnd, .ref ax_web, .ref ax_planeTest, .ref ax_palette, .ref ax_desk])), (ax_lessEnd, .inl (kx_lessEnd, 24, .inl zx_lessEnd)), (ax_moreEnd, .inl (kx_moreEnd, 24, .inl zx_moreEnd))] := hD
        refine lv_if_eq (tgt := 36) hx hb d_PS_linesOf_27 rfl (fun hc_27 => ?_) (fun hc_27 => ?_)
        · skip
          have hI := ob_ifC (C := fun y_ => Option.bind y_ K_j36_18) hc_27 hI
          have hl := lv_sub hl [0, 1, 2, 3] rfl
          exact J_36_18 _ _ _ _ hI hP hD hS hl
        · skip
          have hI := ob_elC (C := fun y_ => Option.bind y_ K_j36_18) hc_27 hI
          refine lv_iload_n hx hb d_PS_linesOf_30 rfl (lv_at hl 2 rfl) ?_
          refine lv_iconst (v := 1) hx hb d_PS_linesOf_31 (by decide) ?_
          refine lv_iload_n hx hb d_PS_linesOf_32 rfl (lv_at hl 3 rfl) ?_
          refine lv_ishl hx hb d_PS_linesOf_33 ?_
          refine lv_ior hx hb d_PS_linesOf_34 ?_
          refine lv_istore_n (lv' := [(2, .int (v2_4 ||| (((1 : Int32)) <<< ((nI k_4) &&& 31)))), (0, .ref ax), (1, .int v1), (3, .int (nI k_4))]) hx hb d_PS_linesOf_35 rfl hl (by decide) rfl (fun ls hl => ?_)
          have hl := lv_sub hl [1, 2, 0, 3] rfl
          exact J_36_18 _ _ _ _ hI hP hD hS hl
  have hl : lv_has ls 4 [(0, .ref ax), (1, .int v1), (2, .int 0), (3, .int (nI 0))] := by first | exact lv_sub hl [2, 3, 1, 0] rfl | (rw [nI_succ]; exact lv_sub hl [2, 3, 1, 0] rfl)
  exact L_4 24 0 _ _ _ _ (by omega) (by rw [hK_4]; exact hI) hP hD hS hl
set_option maxHeartbeats 4000000 in
set_option maxRecDepth 100000 in
theorem c_joinedG (l : Launch) (dC : Nat → ClassId) (dI : Nat → Nat → Nat) (sz : Nat) (ax ax_lessEnd ax_moreEnd ax_web ax_planeTest ax_palette ax_desk : Nat) (kx_lessEnd kx_moreEnd : ClassId) (zx_nodeBits : Int32) (zx_lineBits : Int32) (zx_lessEnd : Nat → Int32) (zx_moreEnd : Nat → Int32) (v1 v2 : Int32) (R : Int32) (hR : F_joinedG zx_lineBits zx_lessEnd zx_moreEnd v1 v2 = some R) : Met l y_PS_joined w_PS_joined ({ frames := 2, cells := 0, slots := 0, locals := 45 }) (Pre_ dC dI sz [.ref ax, .int v1, .int v2] [(ax, .inr (0, [.int zx_nodeBits, .int zx_lineBits, .ref ax_lessEnd, .ref ax_moreEnd, .ref ax_web, .ref ax_planeTest, .ref ax_palette, .ref ax_desk])), (ax_lessEnd, .inl (kx_lessEnd, 24, .inl zx_lessEnd)), (ax_moreEnd, .inl (kx_moreEnd, 24, .inl zx_moreEnd))] [(kx_lessEnd, .int), (kx_moreEnd, .int)]) (va_Qi (fun (r : Int32) (u : Unit) => (r = R) ∧ z01 r) (fun u t => End_ dC dI (va_A [(ax, .inr (0, [.int zx_nodeBits, .int zx_lineBits, .ref ax_lessEnd, .ref ax_moreEnd, .ref ax_web, .ref ax_planeTest, .ref ax_palette, .ref ax_desk])), (ax_lessEnd, .inl (kx_lessEnd, 24, .inl zx_lessEnd)), (ax_moreEnd, .inl (kx_moreEnd, 24, .inl zx_moreEnd))] sz) [(kx_lessEnd, .int), (kx_moreEnd, .int)] [(ax, .inr (0, [.int zx_nodeBits, .int zx_lineBits, .ref ax_lessEnd, .ref ax_moreEnd, .ref ax_web, .ref ax_planeTest, .ref ax_palette, .ref ax_desk])), (ax_lessEnd, .inl (kx_lessEnd, 24, .inl zx_lessEnd)), (ax_moreEnd, .inl (kx_moreEnd, 24, .inl zx_moreEnd))] t) (va_A [(ax, .inr (0, [.int zx_nodeBits, .int zx_lineBits, .ref ax_lessEnd, .ref ax_moreEnd, .ref ax_web, .ref ax_planeTest, .ref ax_palette, .ref ax_desk])), (ax_lessEnd, .inl (kx_lessEnd, 24, .inl zx_lessEnd)), (ax_moreEnd, .inl (kx_moreEnd, 24, .inl zx_moreEnd))] sz)) 0 0 (va_A [(ax, .inr (0, [.int zx_nodeBits, .int zx_lineBits, .ref ax_lessEnd, .ref ax_moreEnd, .ref ax_web, .ref ax_planeTest, .ref ax_palette, .ref ax_desk])), (ax_lessEnd, .inl (kx_lessEnd, 24, .inl zx_lessEnd)), (ax_moreEnd, .inl (kx_moreEnd, 24, .inl zx_moreEnd))] sz) := by
  refine Met.ofW (cc := b_PS_joined) (maxL := 3) (ret := (some .boolean)) (by decide) rfl ?_
  intro p e s m args below meth c s₁ B hml hv
  obtain ⟨hargs, hsz, hP, hK, hD0, hN⟩ := hv
  have hx := B.exec
  have hb := B.bytes
  have hr := B.returns
  have hts := atoms_spec (ws := w_PS_joined) B.pre
  have hown : s.vm.findClass R_PS = some m.cls := findClass_of_methodNamed B.named
  have hlocks := B.notSynchronized
  subst hsz
  have hD := hD0.self (sz := s.heap.size)
  generalize hAe : va_A [(ax, .inr (0, [.int zx_nodeBits, .int zx_lineBits, .ref ax_lessEnd, .ref ax_moreEnd, .ref ax_web, .ref ax_planeTest, .ref ax_palette, .ref ax_desk])), (ax_lessEnd, .inl (kx_lessEnd, 24, .inl zx_lessEnd)), (ax_moreEnd, .inl (kx_moreEnd, 24, .inl zx_moreEnd))] s.heap.size = A at hD ⊢
  have hA : ∀ q : Nat, s.heap.size ≤ q → A q := fun q h => by rw [← hAe]; exact Or.inr h
  have hS : va_S A s.heap s.heap [] := va_S.rf
  have hl := lv_entry ([.ref ax, .int v1, .int v2]) (n := 3) (Nat.le_of_ble_eq_true rfl)
  refine W.eq (congrArg (fun a => entryFrame m a 3) hargs) ?_
  rw [lg_entry_eq]
  generalize (lg_sl ([.ref ax, .int v1, .int v2]) ++ List.replicate (3 - (lg_sl ([.ref ax, .int v1, .int v2])).length) Slot.unset).toArray = ls at hl ⊢
  have hl : lv_has ls 3 [(0, .ref ax), (1, .int v1), (2, .int v2)] := hl
  generalize hH0 : ([] : List Loc) = locs at hS ⊢
  have hI := hR.symm
  rw [F_joinedG] at hI
  refine lv_aload_n hx hb d_PS_joined_0 rfl (lv_at hl 0 rfl) ?_
  refine lv_iload_n hx hb d_PS_joined_1 rfl (lv_at hl 1 rfl) ?_
  obtain ⟨p_2, hg_2, hI⟩ := ob_bd hI
  have hPc := hP.sub (ws' := [(ax, .inr (0, [.int zx_nodeBits, .int zx_lineBits, .ref ax_lessEnd, .ref ax_moreEnd, .ref ax_web, .ref ax_planeTest, .ref ax_palette, .ref ax_desk])), (ax_lessEnd, .inl (kx_lessEnd, 24, .inl zx_lessEnd)), (ax_moreEnd, .inl (kx_moreEnd, 24, .inl zx_moreEnd))]) [0, 1, 2] rfl
  have hDc := hD.sub (ws' := [(ax, .inr (0, [.int zx_nodeBits, .int zx_lineBits, .ref ax_lessEnd, .ref ax_moreEnd, .ref ax_web, .ref ax_planeTest, .ref ax_palette, .ref ax_desk])), (ax_lessEnd, .inl (kx_lessEnd, 24, .inl zx_lessEnd)), (ax_moreEnd, .inl (kx_moreEnd, 24, .inl zx_moreEnd))]) [0, 1, 2] (by decide) rfl
  have hKc := hK.sub (tys' := [(kx_lessEnd, .int), (kx_moreEnd, .int)]) [0, 1] rfl
  have hFc := va_free (wc := [(ax, .inr (0, [.int zx_nodeBits, .int zx_lineBits, .ref ax_lessEnd, .ref ax_moreEnd, .ref ax_web, .ref ax_planeTest, .ref ax_palette, .ref ax_desk])), (ax_lessEnd, .inl (kx_lessEnd, 24, .inl zx_lessEnd)), (ax_moreEnd, .inl (kx_moreEnd, 24, .inl zx_moreEnd))]) hD hS hA [0, 1, 2] rfl
  refine va_calli (va_runV (As := [.int v1]) (rest := []) ⟨hx, hb, hml, hown, hts⟩ (c_linesOfG l dC dI s.heap.size ax ax_lessEnd ax_moreEnd ax_web ax_planeTest ax_palette ax_desk kx_lessEnd kx_moreEnd zx_nodeBits zx_lineBits zx_lessEnd zx_moreEnd v1 p_2 hg_2) (cwV 1 hts (gi4 mw_1_229 mw_1_231 mw_p_12 mw_1_1 mw_1_232) rfl rfl rfl (by decide +kernel) ⟨Nat.le_of_ble_eq_true rfl, Nat.le_of_ble_eq_true rfl⟩) ⟨fb_, va_recv (q0 := 0) (ci := 0) hK hP rfl rfl, pre_ hPc hKc hDc hN⟩ rfl rfl hl.1 rfl (lv_room (Nat.le_of_ble_eq_true rfl)) d_PS_joined_2 ⟨Nat.le_of_ble_eq_true rfl, Nat.le_of_ble_eq_true rfl⟩) hS (fun q _ h => hFc q h) hFc (fun r_2 u t H locs ht hvm hp_2 hB hz1 hk1 hS => ?_)
  obtain ⟨hP1, -, hD1⟩ := hB
  rw [ht] at hP1
  obtain ⟨hP, hD⟩ := va_join (wr := []) (w1 := [(ax, .inr (0, [.int zx_nodeBits, .int zx_lineBits, .ref ax_lessEnd, .ref ax_moreEnd, .ref ax_web, .ref ax_planeTest, .ref ax_palette, .ref ax_desk])), (ax_lessEnd, .inl (kx_lessEnd, 24, .inl zx_lessEnd)), (ax_moreEnd, .inl (kx_moreEnd, 24, .inl zx_moreEnd))]) hP hD [0, 1, 2] [] rfl rfl (by decide) (by decide) hk1 hFc hP1 hD1
  have hp_2 : (r_2) = p_2 := hp_2
  subst hp_2
  have hP : va_P (dC, dI) classes [(ax, .inr (0, [.int zx_nodeBits, .int zx_lineBits, .ref ax_lessEnd, .ref ax_moreEnd, .ref ax_web, .ref ax_planeTest, .ref ax_palette, .ref ax_desk])), (ax_lessEnd, .inl (kx_lessEnd, 24, .inl zx_lessEnd)), (ax_moreEnd, .inl (kx_moreEnd, 24, .inl zx_moreEnd))] H := hP
  have hD : va_D A [(ax, .inr (0, [.int zx_nodeBits, .int zx_lineBits, .ref ax_lessEnd, .ref ax_moreEnd, .ref ax_web, .ref ax_planeTest, .ref ax_palette, .ref ax_desk])), (ax_lessEnd, .inl (kx_lessEnd, 24, .inl zx_lessEnd)), (ax_moreEnd, .inl (kx_moreEnd, 24, .inl zx_moreEnd))] := hD
  refine lv_aload_n hx hb d_PS_joined_5 rfl (lv_at hl 0 rfl) ?_
  refine lv_iload_n hx hb d_PS_joined_6 rfl (lv_at hl 2 rfl) ?_
  obtain ⟨p_7, hg_7, hI⟩ := ob_bd hI
  have hPc := hP.sub (ws' := [(ax, .inr (0, [.int zx_nodeBits, .int zx_lineBits, .ref ax_lessEnd, .ref ax_moreEnd, .ref ax_web, .ref ax_planeTest, .ref ax_palette, .ref ax_desk])), (ax_lessEnd, .inl (kx_lessEnd, 24, .inl zx_lessEnd)), (ax_moreEnd, .inl (kx_moreEnd, 24, .inl zx_moreEnd))]) [0, 1, 2] rfl
  have hDc := hD.sub (ws' := [(ax, .inr (0, [.int zx_nodeBits, .int zx_lineBits, .ref ax_lessEnd, .ref ax_moreEnd, .ref ax_web, .ref ax_planeTest, .ref ax_palette, .ref ax_desk])), (ax_lessEnd, .inl (kx_lessEnd, 24, .inl zx_lessEnd)), (ax_moreEnd, .inl (kx_moreEnd, 24, .inl zx_moreEnd))]) [0, 1, 2] (by decide) rfl
  have hKc := hK.sub (tys' := [(kx_lessEnd, .int), (kx_moreEnd, .int)]) [0, 1] rfl
  have hFc := va_free (wc := [(ax, .inr (0, [.int zx_nodeBits, .int zx_lineBits, .ref ax_lessEnd, .ref ax_moreEnd, .ref ax_web, .ref ax_planeTest, .ref ax_palette, .ref ax_desk])), (ax_lessEnd, .inl (kx_lessEnd, 24, .inl zx_lessEnd)), (ax_moreEnd, .inl (kx_moreEnd, 24, .inl zx_moreEnd))]) hD hS hA [0, 1, 2] rfl
  refine va_calli (va_runV (As := [.int v2]) (rest := [.int r_2]) ⟨hx, hb, hml, hown, hts⟩ (c_linesOfG l dC dI H.size ax ax_lessEnd ax_moreEnd ax_web ax_planeTest ax_palette ax_desk kx_lessEnd kx_moreEnd zx_nodeBits zx_lineBits zx_lessEnd zx_moreEnd v2 p_7 hg_7) (cwV 1 hts (gi4 mw_1_229 mw_1_231 mw_p_12 mw_1_1 mw_1_232) rfl rfl rfl (by decide +kernel) ⟨Nat.le_of_ble_eq_true rfl, Nat.le_of_ble_eq_true rfl⟩) ⟨fb_, va_recv (q0 := 0) (ci := 0) hK hP rfl rfl, pre_ hPc hKc hDc hN⟩ rfl rfl hl.1 rfl (lv_room (Nat.le_of_ble_eq_true rfl)) d_PS_joined_7 ⟨Nat.le_of_ble_eq_true rfl, Nat.le_of_ble_eq_true rfl⟩) hS (fun q _ h => hFc q h) hFc (fun r_7 u t H locs ht hvm hp_7 hB hz1 hk1 hS => ?_)
  obtain ⟨hP1, -, hD1⟩ := hB
  rw [ht] at hP1
  obtain ⟨hP, hD⟩ := va_join (wr := []) (w1 := [(ax, .inr (0, [.int zx_nodeBits, .int zx_lineBits, .ref ax_lessEnd, .ref ax_moreEnd, .ref ax_web, .ref ax_planeTest, .ref ax_palette, .ref ax_desk])), (ax_lessEnd, .inl (kx_lessEnd, 24, .inl zx_lessEnd)), (ax_moreEnd, .inl (kx_moreEnd, 24, .inl zx_moreEnd))]) hP hD [0, 1, 2] [] rfl rfl (by decide) (by decide) hk1 hFc hP1 hD1
  have hp_7 : (r_7) = p_7 := hp_7
  subst hp_7
  have hP : va_P (dC, dI) classes [(ax, .inr (0, [.int zx_nodeBits, .int zx_lineBits, .ref ax_lessEnd, .ref ax_moreEnd, .ref ax_web, .ref ax_planeTest, .ref ax_palette, .ref ax_desk])), (ax_lessEnd, .inl (kx_lessEnd, 24, .inl zx_lessEnd)), (ax_moreEnd, .inl (kx_moreEnd, 24, .inl zx_moreEnd))] H := hP
  have hD : va_D A [(ax, .inr (0, [.int zx_nodeBits, .int zx_lineBits, .ref ax_lessEnd, .ref ax_moreEnd, .ref ax_web, .ref ax_planeTest, .ref ax_palette, .ref ax_desk])), (ax_lessEnd, .inl (kx_lessEnd, 24, .inl zx_lessEnd)), (ax_moreEnd, .inl (kx_moreEnd, 24, .inl zx_moreEnd))] := hD
  refine lv_iand hx hb d_PS_joined_10 ?_
  refine lv_if_eq (tgt := 18) hx hb d_PS_joined_11 rfl (fun hc_11 => ?_) (fun hc_11 => ?_)
  · skip
    have hI := hI.trans (if_pos hc_11)
    refine lv_iconst (v := 0) hx hb d_PS_joined_18 (by decide) ?_
    exact W.zret (v := 0) (ty := .boolean) hx hb hr (nr01 (Or.inl rfl)) (fun t ht hW => ⟨⟨0, (), rfl, ⟨(Option.some.inj hI).symm, (Or.inl rfl)⟩, by rw [ht]; exact hP, va_K.moved hW.alike hK, hD⟩, hS.F ht⟩) hS.2.2 d_PS_joined_19
  · skip
    have hI := hI.trans (if_neg hc_11)
    refine lv_iconst (v := 1) hx hb d_PS_joined_14 (by decide) ?_
    refine lv_goto (tgt := 19) hx hb d_PS_joined_15 rfl ?_
    exact W.zret (v := 1) (ty := .boolean) hx hb hr (nr01 (Or.inr rfl)) (fun t ht hW => ⟨⟨1, (), rfl, ⟨(Option.some.inj hI).symm, (Or.inr rfl)⟩, by rw [ht]; exact hP, va_K.moved hW.alike hK, hD⟩, hS.F ht⟩) hS.2.2 d_PS_joined_19
set_option maxHeartbeats 4000000 in
set_option maxRecDepth 100000 in
theorem c_spinG (l : Launch) (dC : Nat → ClassId) (dI : Nat → Nat → Nat) (sz : Nat) (ax ax_lessEnd ax_moreEnd ax_web ax_planeTest ax_palette ax_desk ax_web_near : Nat) (kx_lessEnd kx_moreEnd kx_web_near : ClassId) (zx_nodeBits : Int32) (zx_lineBits : Int32) (zx_lessEnd : Nat → Int32) (zx_moreEnd : Nat → Int32) (zx_web_near : Nat → Int32) (v1 : Int32) (R : (Nat → Int32)) (hR : F_spinG zx_lessEnd zx_moreEnd zx_web_near v1 = some R) : Met l y_PS_spin w_PS_spin ({ frames := 2, cells := 0, slots := 0, locals := 43 }) (Pre_ dC dI sz [.ref ax, .int v1] [(ax, .inr (0, [.int zx_nodeBits, .int zx_lineBits, .ref ax_lessEnd, .ref ax_moreEnd, .ref ax_web, .ref ax_planeTest, .ref ax_palette, .ref ax_desk])), (ax_lessEnd, .inl (kx_lessEnd, 24, .inl zx_lessEnd)), (ax_moreEnd, .inl (kx_moreEnd, 24, .inl zx_moreEnd)), (ax_web, .inr (1, [.ref ax_web_near])), (ax_web_near, .inl (kx_web_near, 11, .inl zx_web_near))] [(kx_lessEnd, .int), (kx_moreEnd, .int), (kx_web_near, .int)]) (va_Qv (fun (u : (Nat → Int32)) => u = R) (fun u t => End_ dC dI (va_A [(ax, .inr (0, [.int zx_nodeBits, .int zx_lineBits, .ref ax_lessEnd, .ref ax_moreEnd, .ref ax_web, .ref ax_planeTest, .ref ax_palette, .ref ax_desk])), (ax_lessEnd, .inl (kx_lessEnd, 24, .inl zx_lessEnd)), (ax_moreEnd, .inl (kx_moreEnd, 24, .inl zx_moreEnd)), (ax_web, .inr (1, [.ref ax_web_near])), (ax_web_near, .inl (kx_web_near, 11, .inl zx_web_near))] sz) [(kx_lessEnd, .int), (kx_moreEnd, .int), (kx_web_near, .int)] [(ax, .inr (0, [.int zx_nodeBits, .int zx_lineBits, .ref ax_lessEnd, .ref ax_moreEnd, .ref ax_web, .ref ax_planeTest, .ref ax_palette, .ref ax_desk])), (ax_lessEnd, .inl (kx_lessEnd, 24, .inl zx_lessEnd)), (ax_moreEnd, .inl (kx_moreEnd, 24, .inl zx_moreEnd)), (ax_web, .inr (1, [.ref ax_web_near])), (ax_web_near, .inl (kx_web_near, 11, .inl u))] t) (va_A [(ax, .inr (0, [.int zx_nodeBits, .int zx_lineBits, .ref ax_lessEnd, .ref ax_moreEnd, .ref ax_web, .ref ax_planeTest, .ref ax_palette, .ref ax_desk])), (ax_lessEnd, .inl (kx_lessEnd, 24, .inl zx_lessEnd)), (ax_moreEnd, .inl (kx_moreEnd, 24, .inl zx_moreEnd)), (ax_web, .inr (1, [.ref ax_web_near])), (ax_web_near, .inl (kx_web_near, 11, .inl zx_web_near))] sz)) 0 0 (va_A [(ax, .inr (0, [.int zx_nodeBits, .int zx_lineBits, .ref ax_lessEnd, .ref ax_moreEnd, .ref ax_web, .ref ax_planeTest, .ref ax_palette, .ref ax_desk])), (ax_lessEnd, .inl (kx_lessEnd, 24, .inl zx_lessEnd)), (ax_moreEnd, .inl (kx_moreEnd, 24, .inl zx_moreEnd)), (ax_web, .inr (1, [.ref ax_web_near])), (ax_web_near, .inl (kx_web_near, 11, .inl zx_web_near))] sz) := by
  refine Met.ofW (cc := b_PS_spin) (maxL := 3) (ret := none) (by decide) rfl ?_
  intro p e s m args below meth c s₁ B hml hv
  obtain ⟨hargs, hsz, hP, hK, hD0, hN⟩ := hv
  have hx := B.exec
  have hb := B.bytes
  have hr := B.returns
  have hts := atoms_spec (ws := w_PS_spin) B.pre
  have hown : s.vm.findClass R_PS = some m.cls := findClass_of_methodNamed B.named
  have hlocks := B.notSynchronized
  subst hsz
  have hD := hD0.self (sz := s.heap.size)
  generalize hAe : va_A [(ax, .inr (0, [.int zx_nodeBits, .int zx_lineBits, .ref ax_lessEnd, .ref ax_moreEnd, .ref ax_web, .ref ax_planeTest, .ref ax_palette, .ref ax_desk])), (ax_lessEnd, .inl (kx_lessEnd, 24, .inl zx_lessEnd)), (ax_moreEnd, .inl (kx_moreEnd, 24, .inl zx_moreEnd)), (ax_web, .inr (1, [.ref ax_web_near])), (ax_web_near, .inl (kx_web_near, 11, .inl zx_web_near))] s.heap.size = A at hD ⊢
  have hA : ∀ q : Nat, s.heap.size ≤ q → A q := fun q h => by rw [← hAe]; exact Or.inr h
  have hS : va_S A s.heap s.heap [] := va_S.rf
  have hl := lv_entry ([.ref ax, .int v1]) (n := 3) (Nat.le_of_ble_eq_true rfl)
  refine W.eq (congrArg (fun a => entryFrame m a 3) hargs) ?_
  rw [lg_entry_eq]
  generalize (lg_sl ([.ref ax, .int v1]) ++ List.replicate (3 - (lg_sl ([.ref ax, .int v1])).length) Slot.unset).toArray = ls at hl ⊢
  have hl : lv_has ls 3 [(0, .ref ax), (1, .int v1)] := hl
  generalize hH0 : ([] : List Loc) = locs at hS ⊢
  have hI := hR.symm
  rw [F_spinG] at hI
  refine lv_aload_n hx hb d_PS_spin_0 rfl (lv_at hl 0 rfl) ?_
  refine va_get (D := (dC, dI)) (ci := 0) (v := .ref ax_web) (C := R_PS) (T := F_PS) (N := 8) hx hb hts (fun w h => List.mem_cons_of_mem _ (in_PS w h)) hown hK hP 0 rfl rfl 4 (by decide) (hts _ (List.mem_cons_of_mem _ mw_1_100)) (fun _ h9 => h9) rfl d_PS_spin_1 ?_
  obtain ⟨p_4, hg_4, hI⟩ := ob_bd hI
  have hPc := hP.sub (ws' := [(ax_web, .inr (1, [.ref ax_web_near])), (ax_web_near, .inl (kx_web_near, 11, .inl zx_web_near))]) [3, 4] rfl
  have hDc := hD.sub (ws' := [(ax_web, .inr (1, [.ref ax_web_near])), (ax_web_near, .inl (kx_web_near, 11, .inl zx_web_near))]) [3, 4] (by decide) rfl
  have hKc := hK.sub (tys' := [(kx_web_near, .int)]) [2] rfl
  have hFc := va_free (wc := [(ax_web, .inr (1, [.ref ax_web_near])), (ax_web_near, .inl (kx_web_near, 11, .inl zx_web_near))]) hD hS hA [3, 4] rfl
  refine va_callv (va_runV (As := []) (rest := []) ⟨hx, hb, hml, hown, hts⟩ (c_clearG l dC dI s.heap.size ax_web ax_web_near kx_web_near zx_web_near p_4 hg_4) (cwV 0 hts (gi4 mw_1_141 mw_1_142 mw_1_143 mw_1_2 mw_1_144) rfl rfl rfl (by decide +kernel) ⟨Nat.le_of_ble_eq_true rfl, Nat.le_of_ble_eq_true rfl⟩) ⟨fb_, va_recv (q0 := 3) (ci := 1) hK hP rfl rfl, pre_ hPc hKc hDc hN⟩ rfl rfl hl.1 rfl (lv_room (Nat.le_of_ble_eq_true rfl)) d_PS_spin_4 ⟨Nat.le_of_ble_eq_true rfl, Nat.le_of_ble_eq_true rfl⟩) hS (fun q _ h => hFc q h) hFc (fun wx_web_near_4 t H locs ht hvm hp_4 hB hz1 hk1 hS => ?_)
  obtain ⟨hP1, -, hD1⟩ := hB
  rw [ht] at hP1
  obtain ⟨hP, hD⟩ := va_join (wr := [(ax, .inr (0, [.int zx_nodeBits, .int zx_lineBits, .ref ax_lessEnd, .ref ax_moreEnd, .ref ax_web, .ref ax_planeTest, .ref ax_palette, .ref ax_desk])), (ax_lessEnd, .inl (kx_lessEnd, 24, .inl zx_lessEnd)), (ax_moreEnd, .inl (kx_moreEnd, 24, .inl zx_moreEnd))]) (w1 := [(ax_web, .inr (1, [.ref ax_web_near])), (ax_web_near, .inl (kx_web_near, 11, .inl wx_web_near_4))]) hP hD [3, 4] [0, 1, 2] rfl rfl (by decide) (by decide) hk1 hFc hP1 hD1
  have hp_4 : (wx_web_near_4) = p_4 := hp_4
  subst hp_4
  have hP : va_P (dC, dI) classes [(ax, .inr (0, [.int zx_nodeBits, .int zx_lineBits, .ref ax_lessEnd, .ref ax_moreEnd, .ref ax_web, .ref ax_planeTest, .ref ax_palette, .ref ax_desk])), (ax_lessEnd, .inl (kx_lessEnd, 24, .inl zx_lessEnd)), (ax_moreEnd, .inl (kx_moreEnd, 24, .inl zx_moreEnd)), (ax_web, .inr (1, [.ref ax_web_near])), (ax_web_near, .inl (kx_web_near, 11, .inl wx_web_near_4))] H := hP
  have hD : va_D A [(ax, .inr (0, [.int zx_nodeBits, .int zx_lineBits, .ref ax_lessEnd, .ref ax_moreEnd, .ref ax_web, .ref ax_planeTest, .ref ax_palette, .ref ax_desk])), (ax_lessEnd, .inl (kx_lessEnd, 24, .inl zx_lessEnd)), (ax_moreEnd, .inl (kx_moreEnd, 24, .inl zx_moreEnd)), (ax_web, .inr (1, [.ref ax_web_near])), (ax_web_near, .inl (kx_web_near, 11, .inl wx_web_near_4))] := hD
  refine lv_iconst (v := 0) hx hb d_PS_spin_7 (by decide) ?_
  refine lv_istore_n (lv' := [(2, .int 0), (0, .ref ax), (1, .int v1)]) hx hb d_PS_spin_8 rfl hl (by decide) rfl (fun ls hl => ?_)
  obtain ⟨K_9, hK_9⟩ : ∃ K : (Nat → Int32) → Option ((Nat → Int32)), K = (fun wx_web_near_9 => some (wx_web_near_9)) := ⟨_, rfl⟩
  have X_9 : ∀ (k_9 : Nat) (wx_web_near_9 : Nat → Int32) (H : Heap) (locs : List Loc) (ls : Array Slot), some R = K_9 wx_web_near_9 → va_P (dC, dI) classes [(ax, .inr (0, [.int zx_nodeBits, .int zx_lineBits, .ref ax_lessEnd, .ref ax_moreEnd, .ref ax_web, .ref ax_planeTest, .ref ax_palette, .ref ax_desk])), (ax_lessEnd, .inl (kx_lessEnd, 24, .inl zx_lessEnd)), (ax_moreEnd, .inl (kx_moreEnd, 24, .inl zx_moreEnd)), (ax_web, .inr (1, [.ref ax_web_near])), (ax_web_near, .inl (kx_web_near, 11, .inl wx_web_near_9))] H → va_D A [(ax, .inr (0, [.int zx_nodeBits, .int zx_lineBits, .ref ax_lessEnd, .ref ax_moreEnd, .ref ax_web, .ref ax_planeTest, .ref ax_palette, .ref ax_desk])), (ax_lessEnd, .inl (kx_lessEnd, 24, .inl zx_lessEnd)), (ax_moreEnd, .inl (kx_moreEnd, 24, .inl zx_moreEnd)), (ax_web, .inr (1, [.ref ax_web_near])), (ax_web_near, .inl (kx_web_near, 11, .inl wx_web_near_9))] → va_S A s.heap H locs → lv_has ls 3 [(0, .ref ax), (1, .int v1), (2, .int (nI k_9))] → W p l e (headSpec w_PS_spin ({ frames := 2, cells := 0, slots := 0, locals := 43 })).room s m args below meth c H locs 0 0 (MQ below (va_Qv (fun (u : (Nat → Int32)) => u = R) (fun u t => End_ dC dI A [(kx_lessEnd, .int), (kx_moreEnd, .int), (kx_web_near, .int)] [(ax, .inr (0, [.int zx_nodeBits, .int zx_lineBits, .ref ax_lessEnd, .ref ax_moreEnd, .ref ax_web, .ref ax_planeTest, .ref ax_palette, .ref ax_desk])), (ax_lessEnd, .inl (kx_lessEnd, 24, .inl zx_lessEnd)), (ax_moreEnd, .inl (kx_moreEnd, 24, .inl zx_moreEnd)), (ax_web, .inr (1, [.ref ax_web_near])), (ax_web_near, .inl (kx_web_near, 11, .inl u))] t) A) args s 0 0 A) (F0 m 48 ls []) := by
    intro k_9 wx_web_near_9 H locs ls hI hP hD hS hl
    rw [hK_9] at hI
    exact W.vret hx hb hr (fun t ht hW => ⟨⟨(wx_web_near_9), rfl, (Option.some.inj hI).symm, by rw [ht]; exact hP, va_K.moved hW.alike hK, hD⟩, hS.F ht⟩) hS.2.2 d_PS_spin_48
  have L_9 : ∀ (n_9 k_9 : Nat) (wx_web_near_9 : Nat → Int32) (H : Heap) (locs : List Loc) (ls : Array Slot), k_9 + n_9 = 24 → some R = F_spinG_L9 K_9 zx_lessEnd zx_moreEnd v1 n_9 k_9 wx_web_near_9 → va_P (dC, dI) classes [(ax, .inr (0, [.int zx_nodeBits, .int zx_lineBits, .ref ax_lessEnd, .ref ax_moreEnd, .ref ax_web, .ref ax_planeTest, .ref ax_palette, .ref ax_desk])), (ax_lessEnd, .inl (kx_lessEnd, 24, .inl zx_lessEnd)), (ax_moreEnd, .inl (kx_moreEnd, 24, .inl zx_moreEnd)), (ax_web, .inr (1, [.ref ax_web_near])), (ax_web_near, .inl (kx_web_near, 11, .inl wx_web_near_9))] H → va_D A [(ax, .inr (0, [.int zx_nodeBits, .int zx_lineBits, .ref ax_lessEnd, .ref ax_moreEnd, .ref ax_web, .ref ax_planeTest, .ref ax_palette, .ref ax_desk])), (ax_lessEnd, .inl (kx_lessEnd, 24, .inl zx_lessEnd)), (ax_moreEnd, .inl (kx_moreEnd, 24, .inl zx_moreEnd)), (ax_web, .inr (1, [.ref ax_web_near])), (ax_web_near, .inl (kx_web_near, 11, .inl wx_web_near_9))] → va_S A s.heap H locs → lv_has ls 3 [(0, .ref ax), (1, .int v1), (2, .int (nI k_9))] → W p l e (headSpec w_PS_spin ({ frames := 2, cells := 0, slots := 0, locals := 43 })).room s m args below meth c H locs 0 0 (MQ below (va_Qv (fun (u : (Nat → Int32)) => u = R) (fun u t => End_ dC dI A [(kx_lessEnd, .int), (kx_moreEnd, .int), (kx_web_near, .int)] [(ax, .inr (0, [.int zx_nodeBits, .int zx_lineBits, .ref ax_lessEnd, .ref ax_moreEnd, .ref ax_web, .ref ax_planeTest, .ref ax_palette, .ref ax_desk])), (ax_lessEnd, .inl (kx_lessEnd, 24, .inl zx_lessEnd)), (ax_moreEnd, .inl (kx_moreEnd, 24, .inl zx_moreEnd)), (ax_web, .inr (1, [.ref ax_web_near])), (ax_web_near, .inl (kx_web_near, 11, .inl u))] t) A) args s 0 0 A) (F0 m 9 ls []) := by
    intro n_9
    induction n_9 with
    | zero =>
      intro k_9 wx_web_near_9 H locs ls hkn_9 hI hP hD hS hl
      rw [F_spinG_L9] at hI
      refine lv_iload_n hx hb d_PS_spin_9 rfl (lv_at hl 2 rfl) ?_
      refine lv_bipush (v := 24) hx hb d_PS_spin_10 (by decide) ?_
      refine lv_icmp_ge (tgt := 48) hx hb d_PS_spin_12 rfl (fun hc_12 => ?_) (fun hc_12 => absurd (z_exit rfl hkn_9) hc_12)
      have hl := lv_sub hl [0, 1, 2] rfl
      exact X_9 _ _ _ _ _ hI hP hD hS hl
    | succ n_9 ih_9 =>
      intro k_9 wx_web_near_9 H locs ls hkn_9 hI hP hD hS hl
      rw [F_spinG_L9] at hI
      refine lv_iload_n hx hb d_PS_spin_9 rfl (lv_at hl 2 rfl) ?_
      refine lv_bipush (v := 24) hx hb d_PS_spin_10 (by decide) ?_
      refine lv_icmp_ge (tgt := 48) hx hb d_PS_spin_12 rfl (fun hc_12 => absurd hc_12 (z_stay rfl hkn_9 (by decide))) (fun hc_12 => ?_)
      refine lv_iload_n hx hb d_PS_spin_15 rfl (lv_at hl 1 rfl) ?_
      refine lv_iload_n hx hb d_PS_spin_16 rfl (lv_at hl 2 rfl) ?_
      have hPc := hP.sub (ws' := []) [] rfl
      have hDc := hD.sub (ws' := []) [] (by decide) rfl
      have hKc := hK.sub (tys' := []) [] rfl
      have hFc := va_free (wc := []) hD hS hA [] rfl
      refine va_calli (va_runS (As := [.int v1, .int (nI k_9)]) (rest := []) ⟨hx, hb, hml, hown, hts⟩ (c_has l dC dI H.size v1 (nI k_9)) (cwS 2 hts (gi3 mw_1_148 mw_1_149 mw_1_1 mw_1_150) rfl rfl rfl (by decide +kernel) ⟨Nat.le_of_ble_eq_true rfl, Nat.le_of_ble_eq_true rfl⟩) ⟨fb_, pre_ hPc hKc hDc hN⟩ rfl rfl hl.1 rfl (lv_room (Nat.le_of_ble_eq_true rfl)) d_PS_spin_17 ⟨Nat.le_of_ble_eq_true rfl, Nat.le_of_ble_eq_true rfl⟩) hS (fun q _ h => hFc q h) hFc (fun r_17 u t H locs ht hvm hp_17 hB hz1 hk1 hS => ?_)
      obtain ⟨hP1, -, hD1⟩ := hB
      rw [ht] at hP1
      obtain ⟨hP, hD⟩ := va_join (wr := [(ax, .inr (0, [.int zx_nodeBits, .int zx_lineBits, .ref ax_lessEnd, .ref ax_moreEnd, .ref ax_web, .ref ax_planeTest, .ref ax_palette, .ref ax_desk])), (ax_lessEnd, .inl (kx_lessEnd, 24, .inl zx_lessEnd)), (ax_moreEnd, .inl (kx_moreEnd, 24, .inl zx_moreEnd)), (ax_web, .inr (1, [.ref ax_web_near])), (ax_web_near, .inl (kx_web_near, 11, .inl wx_web_near_9))]) (w1 := []) hP hD [] [0, 1, 2, 3, 4] rfl rfl (by decide) (by decide) hk1 hFc hP1 hD1
      have hp_17 : r_17 = f_has v1 (nI k_9) := hp_17
      subst hp_17
      have hP : va_P (dC, dI) classes [(ax, .inr (0, [.int zx_nodeBits, .int zx_lineBits, .ref ax_lessEnd, .ref ax_moreEnd, .ref ax_web, .ref ax_planeTest, .ref ax_palette, .ref ax_desk])), (ax_lessEnd, .inl (kx_lessEnd, 24, .inl zx_lessEnd)), (ax_moreEnd, .inl (kx_moreEnd, 24, .inl zx_moreEnd)), (ax_web, .inr (1, [.ref ax_web_near])), (ax_web_near, .inl (kx_web_near, 11, .inl wx_web_near_9))] H := hP
      have hD : va_D A [(ax, .inr (0, [.int zx_nodeBits, .int zx_lineBits, .ref ax_lessEnd, .ref ax_moreEnd, .ref ax_web, .ref ax_planeTest, .ref ax_palette, .ref ax_desk])), (ax_lessEnd, .inl (kx_lessEnd, 24, .inl zx_lessEnd)), (ax_moreEnd, .inl (kx_moreEnd, 24, .inl zx_moreEnd)), (ax_web, .inr (1, [.ref ax_web_near])), (ax_web_near, .inl (kx_web_near, 11, .inl wx_web_near_9))] := hD
      refine lv_if_eq (tgt := 42) hx hb d_PS_spin_20 rfl (fun hc_20 => ?_) (fun hc_20 => ?_)
      · skip
        have hI := hI.trans (if_pos hc_20)
        refine lv_iinc (lv' := [(2, .int (nI (k_9 + 1))), (0, .ref ax), (1, .int v1)]) (k := 2) hx hb d_PS_spin_42 hl rfl (z_inc _) (by decide) rfl (fun ls hl => ?_)
        refine lv_goto (tgt := 9) hx hb d_PS_spin_45 rfl ?_
        have hl := lv_sub hl [1, 2, 0] rfl
        exact ih_9 _ _ _ _ _ (by omega) hI hP hD hS hl
      · skip
        have hI := hI.trans (if_neg hc_20)
        refine lv_aload_n hx hb d_PS_spin_23 rfl (lv_at hl 0 rfl) ?_
        refine va_get (D := (dC, dI)) (ci := 0) (v := .ref ax_web) (C := R_PS) (T := F_PS) (N := 8) hx hb hts (fun w h => List.mem_cons_of_mem _ (in_PS w h)) hown hK hP 0 rfl rfl 4 (by decide) (hts _ (List.mem_cons_of_mem _ mw_1_100)) (fun _ h9 => h9) rfl d_PS_spin_24 ?_
        refine lv_aload_n hx hb d_PS_spin_27 rfl (lv_at hl 0 rfl) ?_
        refine va_get (D := (dC, dI)) (ci := 0) (v := .ref ax_lessEnd) (C := R_PS) (T := F_PS) (N := 8) hx hb hts (fun w h => List.mem_cons_of_mem _ (in_PS w h)) hown hK hP 0 rfl rfl 2 (by decide) (hts _ (List.mem_cons_of_mem _ mw_1_98)) (fun _ h9 => h9) rfl d_PS_spin_28 ?_
        refine lv_iload_n hx hb d_PS_spin_31 rfl (lv_at hl 2 rfl) ?_
        refine va_iald (D := (dC, dI)) hx hb hK hP 1 0 rfl rfl (vp_in_nI (by omega) (by decide)) d_PS_spin_32 ?_
        refine lv_topi (fun y_32 e_32 => ?_)
        obtain rfl : y_32 = zx_lessEnd k_9 := e_32.trans (by rw [nI_clamp (by omega)])
        refine lv_aload_n hx hb d_PS_spin_33 rfl (lv_at hl 0 rfl) ?_
        refine va_get (D := (dC, dI)) (ci := 0) (v := .ref ax_moreEnd) (C := R_PS) (T := F_PS) (N := 8) hx hb hts (fun w h => List.mem_cons_of_mem _ (in_PS w h)) hown hK hP 0 rfl rfl 3 (by decide) (hts _ (List.mem_cons_of_mem _ mw_1_99)) (fun _ h9 => h9) rfl d_PS_spin_34 ?_
        refine lv_iload_n hx hb d_PS_spin_37 rfl (lv_at hl 2 rfl) ?_
        refine va_iald (D := (dC, dI)) hx hb hK hP 2 1 rfl rfl (vp_in_nI (by omega) (by decide)) d_PS_spin_38 ?_
        refine lv_topi (fun y_38 e_38 => ?_)
        obtain rfl : y_38 = zx_moreEnd k_9 := e_38.trans (by rw [nI_clamp (by omega)])
        obtain ⟨p_39, hg_39, hI⟩ := ob_bd hI
        have hPc := hP.sub (ws' := [(ax_web, .inr (1, [.ref ax_web_near])), (ax_web_near, .inl (kx_web_near, 11, .inl wx_web_near_9))]) [3, 4] rfl
        have hDc := hD.sub (ws' := [(ax_web, .inr (1, [.ref ax_web_near])), (ax_web_near, .inl (kx_web_near, 11, .inl wx_web_near_9))]) [3, 4] (by decide) rfl
        have hKc := hK.sub (tys' := [(kx_web_near, .int)]) [2] rfl
        have hFc := va_free (wc := [(ax_web, .inr (1, [.ref ax_web_near])), (ax_web_near, .inl (kx_web_near, 11, .inl wx_web_near_9))]) hD hS hA [3, 4] rfl
        refine va_callv (va_runV (As := [.int (zx_lessEnd k_9), .int (zx_moreEnd k_9)]) (rest := []) ⟨hx, hb, hml, hown, hts⟩ (c_joinG l dC dI H.size ax_web ax_web_near kx_web_near wx_web_near_9 (zx_lessEnd k_9) (zx_moreEnd k_9) p_39 hg_39) (cwV 2 hts (gi4 mw_1_151 mw_1_152 mw_1_153 mw_1_2 mw_1_154) rfl rfl rfl (by decide +kernel) ⟨Nat.le_of_ble_eq_true rfl, Nat.le_of_ble_eq_true rfl⟩) ⟨fb_, va_recv (q0 := 3) (ci := 1) hK hP rfl rfl, pre_ hPc hKc hDc hN⟩ rfl rfl hl.1 rfl (lv_room (Nat.le_of_ble_eq_true rfl)) d_PS_spin_39 ⟨Nat.le_of_ble_eq_true rfl, Nat.le_of_ble_eq_true rfl⟩) hS (fun q _ h => hFc q h) hFc (fun wx_web_near_39 t H locs ht hvm hp_39 hB hz1 hk1 hS => ?_)
        obtain ⟨hP1, -, hD1⟩ := hB
        rw [ht] at hP1
        obtain ⟨hP, hD⟩ := va_join (wr := [(ax, .inr (0, [.int zx_nodeBits, .int zx_lineBits, .ref ax_lessEnd, .ref ax_moreEnd, .ref ax_web, .ref ax_planeTest, .ref ax_palette, .ref ax_desk])), (ax_lessEnd, .inl (kx_lessEnd, 24, .inl zx_lessEnd)), (ax_moreEnd, .inl (kx_moreEnd, 24, .inl zx_moreEnd))]) (w1 := [(ax_web, .inr (1, [.ref ax_web_near])), (ax_web_near, .inl (kx_web_near, 11, .inl wx_web_near_39))]) hP hD [3, 4] [0, 1, 2] rfl rfl (by decide) (by decide) hk1 hFc hP1 hD1
        have hp_39 : (wx_web_near_39) = p_39 := hp_39
        subst hp_39
        have hP : va_P (dC, dI) classes [(ax, .inr (0, [.int zx_nodeBits, .int zx_lineBits, .ref ax_lessEnd, .ref ax_moreEnd, .ref ax_web, .ref ax_planeTest, .ref ax_palette, .ref ax_desk])), (ax_lessEnd, .inl (kx_lessEnd, 24, .inl zx_lessEnd)), (ax_moreEnd, .inl (kx_moreEnd, 24, .inl zx_moreEnd)), (ax_web, .inr (1, [.ref ax_web_near])), (ax_web_near, .inl (kx_web_near, 11, .inl wx_web_near_39))] H := hP
        have hD : va_D A [(ax, .inr (0, [.int zx_nodeBits, .int zx_lineBits, .ref ax_lessEnd, .ref ax_moreEnd, .ref ax_web, .ref ax_planeTest, .ref ax_palette, .ref ax_desk])), (ax_lessEnd, .inl (kx_lessEnd, 24, .inl zx_lessEnd)), (ax_moreEnd, .inl (kx_moreEnd, 24, .inl zx_moreEnd)), (ax_web, .inr (1, [.ref ax_web_near])), (ax_web_near, .inl (kx_web_near, 11, .inl wx_web_near_39))] := hD
        refine lv_iinc (lv' := [(2, .int (nI (k_9 + 1))), (0, .ref ax), (1, .int v1)]) (k := 2) hx hb d_PS_spin_42 hl rfl (z_inc _) (by decide) rfl (fun ls hl => ?_)
        refine lv_goto (tgt := 9) hx hb d_PS_spin_45 rfl ?_
        have hl := lv_sub hl [1, 2, 0] rfl
        exact ih_9 _ _ _ _ _ (by omega) hI hP hD hS hl
  have hl : lv_has ls 3 [(0, .ref ax), (1, .int v1), (2, .int (nI 0))] := by first | exact lv_sub hl [1, 2, 0] rfl | (rw [nI_succ]; exact lv_sub hl [1, 2, 0] rfl)
  exact L_9 24 0 _ _ _ _ (by omega) (by rw [hK_9]; exact hI) hP hD hS hl
set_option maxHeartbeats 4000000 in
set_option maxRecDepth 100000 in
theorem c_otherEndG (l : Launch) (dC : Nat → ClassId) (dI : Nat → Nat → Nat) (sz : Nat) (ax ax_lessEnd ax_moreEnd ax_web ax_planeTest ax_palette ax_desk : Nat) (kx_lessEnd kx_moreEnd : ClassId) (zx_nodeBits : Int32) (zx_lineBits : Int32) (zx_lessEnd : Nat → Int32) (zx_moreEnd : Nat → Int32) (v1 v2 : Int32) (R : Int32) (hR : F_otherEndG zx_lessEnd zx_moreEnd v1 v2 = some R) : Met l y_PS_otherEnd w_PS_otherEnd ({ frames := 0, cells := 0, slots := 0, locals := 0 }) (Pre_ dC dI sz [.ref ax, .int v1, .int v2] [(ax, .inr (0, [.int zx_nodeBits, .int zx_lineBits, .ref ax_lessEnd, .ref ax_moreEnd, .ref ax_web, .ref ax_planeTest, .ref ax_palette, .ref ax_desk])), (ax_lessEnd, .inl (kx_lessEnd, 24, .inl zx_lessEnd)), (ax_moreEnd, .inl (kx_moreEnd, 24, .inl zx_moreEnd))] [(kx_lessEnd, .int), (kx_moreEnd, .int)]) (va_Qi (fun (r : Int32) (u : Unit) => r = R) (fun u t => End_ dC dI (va_A [(ax, .inr (0, [.int zx_nodeBits, .int zx_lineBits, .ref ax_lessEnd, .ref ax_moreEnd, .ref ax_web, .ref ax_planeTest, .ref ax_palette, .ref ax_desk])), (ax_lessEnd, .inl (kx_lessEnd, 24, .inl zx_lessEnd)), (ax_moreEnd, .inl (kx_moreEnd, 24, .inl zx_moreEnd))] sz) [(kx_lessEnd, .int), (kx_moreEnd, .int)] [(ax, .inr (0, [.int zx_nodeBits, .int zx_lineBits, .ref ax_lessEnd, .ref ax_moreEnd, .ref ax_web, .ref ax_planeTest, .ref ax_palette, .ref ax_desk])), (ax_lessEnd, .inl (kx_lessEnd, 24, .inl zx_lessEnd)), (ax_moreEnd, .inl (kx_moreEnd, 24, .inl zx_moreEnd))] t) (va_A [(ax, .inr (0, [.int zx_nodeBits, .int zx_lineBits, .ref ax_lessEnd, .ref ax_moreEnd, .ref ax_web, .ref ax_planeTest, .ref ax_palette, .ref ax_desk])), (ax_lessEnd, .inl (kx_lessEnd, 24, .inl zx_lessEnd)), (ax_moreEnd, .inl (kx_moreEnd, 24, .inl zx_moreEnd))] sz)) 0 0 (va_A [(ax, .inr (0, [.int zx_nodeBits, .int zx_lineBits, .ref ax_lessEnd, .ref ax_moreEnd, .ref ax_web, .ref ax_planeTest, .ref ax_palette, .ref ax_desk])), (ax_lessEnd, .inl (kx_lessEnd, 24, .inl zx_lessEnd)), (ax_moreEnd, .inl (kx_moreEnd, 24, .inl zx_moreEnd))] sz) := by
  refine Met.ofW (cc := b_PS_otherEnd) (maxL := 3) (ret := (some .int)) (by decide) rfl ?_
  intro p e s m args below meth c s₁ B hml hv
  obtain ⟨hargs, hsz, hP, hK, hD0, hN⟩ := hv
  have hx := B.exec
  have hb := B.bytes
  have hr := B.returns
  have hts := atoms_spec (ws := w_PS_otherEnd) B.pre
  have hown : s.vm.findClass R_PS = some m.cls := findClass_of_methodNamed B.named
  have hlocks := B.notSynchronized
  subst hsz
  have hD := hD0.self (sz := s.heap.size)
  generalize hAe : va_A [(ax, .inr (0, [.int zx_nodeBits, .int zx_lineBits, .ref ax_lessEnd, .ref ax_moreEnd, .ref ax_web, .ref ax_planeTest, .ref ax_palette, .ref ax_desk])), (ax_lessEnd, .inl (kx_lessEnd, 24, .inl zx_lessEnd)), (ax_moreEnd, .inl (kx_moreEnd, 24, .inl zx_moreEnd))] s.heap.size = A at hD ⊢
  have hA : ∀ q : Nat, s.heap.size ≤ q → A q := fun q h => by rw [← hAe]; exact Or.inr h
  have hS : va_S A s.heap s.heap [] := va_S.rf
  have hl := lv_entry ([.ref ax, .int v1, .int v2]) (n := 3) (Nat.le_of_ble_eq_true rfl)
  refine W.eq (congrArg (fun a => entryFrame m a 3) hargs) ?_
  rw [lg_entry_eq]
  generalize (lg_sl ([.ref ax, .int v1, .int v2]) ++ List.replicate (3 - (lg_sl ([.ref ax, .int v1, .int v2])).length) Slot.unset).toArray = ls at hl ⊢
  have hl : lv_has ls 3 [(0, .ref ax), (1, .int v1), (2, .int v2)] := hl
  generalize hH0 : ([] : List Loc) = locs at hS ⊢
  have hI := hR.symm
  rw [F_otherEndG] at hI
  refine lv_aload_n hx hb d_PS_otherEnd_0 rfl (lv_at hl 0 rfl) ?_
  refine va_get (D := (dC, dI)) (ci := 0) (v := .ref ax_lessEnd) (C := R_PS) (T := F_PS) (N := 8) hx hb hts (fun w h => List.mem_cons_of_mem _ (in_PS w h)) hown hK hP 0 rfl rfl 2 (by decide) (hts _ (List.mem_cons_of_mem _ mw_1_98)) (fun _ h9 => h9) rfl d_PS_otherEnd_1 ?_
  refine lv_iload_n hx hb d_PS_otherEnd_4 rfl (lv_at hl 1 rfl) ?_
  have hi_5 := ob_in hI
  have hI := ob_th hI
  refine va_iald (D := (dC, dI)) hx hb hK hP 1 0 rfl rfl hi_5 d_PS_otherEnd_5 ?_
  refine lv_iload_n hx hb d_PS_otherEnd_6 rfl (lv_at hl 2 rfl) ?_
  refine lv_icmp_ne (tgt := 19) hx hb d_PS_otherEnd_7 rfl (fun hc_7 => ?_) (fun hc_7 => ?_)
  · skip
    have hI := hI.trans (if_neg hc_7)
    refine lv_aload_n hx hb d_PS_otherEnd_19 rfl (lv_at hl 0 rfl) ?_
    refine va_get (D := (dC, dI)) (ci := 0) (v := .ref ax_lessEnd) (C := R_PS) (T := F_PS) (N := 8) hx hb hts (fun w h => List.mem_cons_of_mem _ (in_PS w h)) hown hK hP 0 rfl rfl 2 (by decide) (hts _ (List.mem_cons_of_mem _ mw_1_98)) (fun _ h9 => h9) rfl d_PS_otherEnd_20 ?_
    refine lv_iload_n hx hb d_PS_otherEnd_23 rfl (lv_at hl 1 rfl) ?_
    refine va_iald (D := (dC, dI)) hx hb hK hP 1 0 rfl rfl hi_5 d_PS_otherEnd_24 ?_
    exact W.iret (v := zx_lessEnd (Int32.toNatClampNeg v1)) hx hb hr (fun t ht hW => ⟨⟨zx_lessEnd (Int32.toNatClampNeg v1), (), rfl, (Option.some.inj hI).symm, by rw [ht]; exact hP, va_K.moved hW.alike hK, hD⟩, hS.F ht⟩) hS.2.2 d_PS_otherEnd_25
  · skip
    have hI := hI.trans (if_pos hc_7)
    refine lv_aload_n hx hb d_PS_otherEnd_10 rfl (lv_at hl 0 rfl) ?_
    refine va_get (D := (dC, dI)) (ci := 0) (v := .ref ax_moreEnd) (C := R_PS) (T := F_PS) (N := 8) hx hb hts (fun w h => List.mem_cons_of_mem _ (in_PS w h)) hown hK hP 0 rfl rfl 3 (by decide) (hts _ (List.mem_cons_of_mem _ mw_1_99)) (fun _ h9 => h9) rfl d_PS_otherEnd_11 ?_
    refine lv_iload_n hx hb d_PS_otherEnd_14 rfl (lv_at hl 1 rfl) ?_
    refine va_iald (D := (dC, dI)) hx hb hK hP 2 1 rfl rfl hi_5 d_PS_otherEnd_15 ?_
    refine lv_goto (tgt := 25) hx hb d_PS_otherEnd_16 rfl ?_
    exact W.iret (v := zx_moreEnd (Int32.toNatClampNeg v1)) hx hb hr (fun t ht hW => ⟨⟨zx_moreEnd (Int32.toNatClampNeg v1), (), rfl, (Option.some.inj hI).symm, by rw [ht]; exact hP, va_K.moved hW.alike hK, hD⟩, hS.F ht⟩) hS.2.2 d_PS_otherEnd_25
