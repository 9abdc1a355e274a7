set_option maxHeartbeats 4000000 in
set_option maxRecDepth 100000 in
theorem c_room0 (l : Launch) (dC : Nat → ClassId) (dI : Nat → Nat → Nat) (sz : Nat) (ax ax_lessEnd ax_moreEnd ax_web ax_planeTest ax_palette ax_desk : Nat) : Met l y_PS_room w_PS_room ({ frames := 1, cells := 0, slots := 0, locals := 21 }) (Pre_ dC dI sz [.ref ax] [(ax, .inr (0, [.int 0, .int 0, .ref ax_lessEnd, .ref ax_moreEnd, .ref ax_web, .ref ax_planeTest, .ref ax_palette, .ref ax_desk]))] []) (va_Qi (fun (r : Int32) (u : Unit) => r = 0) (fun u t => End_ dC dI (va_A [(ax, .inr (0, [.int 0, .int 0, .ref ax_lessEnd, .ref ax_moreEnd, .ref ax_web, .ref ax_planeTest, .ref ax_palette, .ref ax_desk]))] sz) [] [(ax, .inr (0, [.int 0, .int 0, .ref ax_lessEnd, .ref ax_moreEnd, .ref ax_web, .ref ax_planeTest, .ref ax_palette, .ref ax_desk]))] t) (va_A [(ax, .inr (0, [.int 0, .int 0, .ref ax_lessEnd, .ref ax_moreEnd, .ref ax_web, .ref ax_planeTest, .ref ax_palette, .ref ax_desk]))] sz)) 0 0 (va_A [(ax, .inr (0, [.int 0, .int 0, .ref ax_lessEnd, .ref ax_moreEnd, .ref ax_web, .ref ax_planeTest, .ref ax_palette, .ref ax_desk]))] sz) := by
  refine Met.ofW (cc := b_PS_room) (maxL := 4) (ret := (some .int)) (by decide) rfl ?_
  intro p e s m args below meth c s₁ B hml hv
  obtain ⟨hargs, hsz, hP, hK, hD0, hN⟩ := hv
  have hx := B.exec
  have hb := B.bytes
  have hr := B.returns
  have hts := atoms_spec (ws := w_PS_room) B.pre
  have hown : s.vm.findClass R_PS = some m.cls := findClass_of_methodNamed B.named
  have hlocks := B.notSynchronized
  subst hsz
  have hD := hD0.self (sz := s.heap.size)
  generalize hAe : va_A [(ax, .inr (0, [.int 0, .int 0, .ref ax_lessEnd, .ref ax_moreEnd, .ref ax_web, .ref ax_planeTest, .ref ax_palette, .ref ax_desk]))] s.heap.size = A at hD ⊢
  have hA : ∀ q : Nat, s.heap.size ≤ q → A q := fun q h => by rw [← hAe]; exact Or.inr h
  have hS : va_S A s.heap s.heap [] := va_S.rf
  have hl := lv_entry ([.ref ax]) (n := 4) (Nat.le_of_ble_eq_true rfl)
  refine W.eq (congrArg (fun a => entryFrame m a 4) hargs) ?_
  rw [lg_entry_eq]
  generalize (lg_sl ([.ref ax]) ++ List.replicate (4 - (lg_sl ([.ref ax])).length) Slot.unset).toArray = ls at hl ⊢
  have hl : lv_has ls 4 [(0, .ref ax)] := hl
  generalize hH0 : ([] : List Loc) = locs at hS ⊢
  refine lv_iconst (v := 0) hx hb d_PS_room_0 (by decide) ?_
  refine lv_istore_n (lv' := [(1, .int 0), (0, .ref ax)]) hx hb d_PS_room_1 rfl hl (by decide) rfl (fun ls hl => ?_)
  refine lv_iconst (v := 0) hx hb d_PS_room_2 (by decide) ?_
  refine lv_istore_n (lv' := [(2, .int 0), (1, .int 0), (0, .ref ax)]) hx hb d_PS_room_3 rfl hl (by decide) rfl (fun ls hl => ?_)
  have X_4 : ∀ (k_4 : Nat) (H : Heap) (locs : List Loc) (ls : Array Slot), (True) → va_P (dC, dI) classes [(ax, .inr (0, [.int 0, .int 0, .ref ax_lessEnd, .ref ax_moreEnd, .ref ax_web, .ref ax_planeTest, .ref ax_palette, .ref ax_desk]))] H → va_D A [(ax, .inr (0, [.int 0, .int 0, .ref ax_lessEnd, .ref ax_moreEnd, .ref ax_web, .ref ax_planeTest, .ref ax_palette, .ref ax_desk]))] → va_S A s.heap H locs → lv_has ls 4 [(0, .ref ax), (1, .int 0), (2, .int (nI k_4))] → W p l e (headSpec w_PS_room ({ frames := 1, cells := 0, slots := 0, locals := 21 })).room s m args below meth c H locs 0 0 (MQ below (va_Qi (fun (r : Int32) (u : Unit) => r = 0) (fun u t => End_ dC dI A [] [(ax, .inr (0, [.int 0, .int 0, .ref ax_lessEnd, .ref ax_moreEnd, .ref ax_web, .ref ax_planeTest, .ref ax_palette, .ref ax_desk]))] t) A) args s 0 0 A) (F0 m 75 ls []) := by
    intro k_4  H locs ls hI_4 hP hD hS hl
    refine lv_iload_n hx hb d_PS_room_75 rfl (lv_at hl 1 rfl) ?_
    exact W.iret (v := 0) hx hb hr (fun t ht hW => ⟨⟨0, (), rfl, rfl, by rw [ht]; exact hP, va_K.moved hW.alike hK, hD⟩, hS.F ht⟩) hS.2.2 d_PS_room_76
  have L_4 : ∀ (n_4 k_4 : Nat) (H : Heap) (locs : List Loc) (ls : Array Slot), k_4 + n_4 = 10 → (True) → va_P (dC, dI) classes [(ax, .inr (0, [.int 0, .int 0, .ref ax_lessEnd, .ref ax_moreEnd, .ref ax_web, .ref ax_planeTest, .ref ax_palette, .ref ax_desk]))] H → va_D A [(ax, .inr (0, [.int 0, .int 0, .ref ax_lessEnd, .ref ax_moreEnd, .ref ax_web, .ref ax_planeTest, .ref ax_palette, .ref ax_desk]))] → va_S A s.heap H locs → lv_has ls 4 [(0, .ref ax), (1, .int 0), (2, .int (nI k_4))] → W p l e (headSpec w_PS_room ({ frames := 1, cells := 0, slots := 0, locals := 21 })).room s m args below meth c H locs 0 0 (MQ below (va_Qi (fun (r : Int32) (u : Unit) => r = 0) (fun u t => End_ dC dI A [] [(ax, .inr (0, [.int 0, .int 0, .ref ax_lessEnd, .ref ax_moreEnd, .ref ax_web, .ref ax_planeTest, .ref ax_palette, .ref ax_desk]))] t) A) args s 0 0 A) (F0 m 4 ls []) := by
    intro n_4
    induction n_4 with
    | zero =>
      intro k_4  H locs ls hkn_4 hI_4 hP hD hS hl
      refine lv_iload_n hx hb d_PS_room_4 rfl (lv_at hl 2 rfl) ?_
      refine lv_bipush (v := 10) hx hb d_PS_room_5 (by decide) ?_
      refine lv_icmp_ge (tgt := 75) hx hb d_PS_room_7 rfl (fun hc_7 => ?_) (fun hc_7 => absurd (z_exit rfl hkn_4) hc_7)
      have hl := lv_sub hl [0, 1, 2] rfl
      exact X_4 _  _ _ _ hI_4 hP hD hS hl
    | succ n_4 ih_4 =>
      intro k_4  H locs ls hkn_4 hI_4 hP hD hS hl
      refine lv_iload_n hx hb d_PS_room_4 rfl (lv_at hl 2 rfl) ?_
      refine lv_bipush (v := 10) hx hb d_PS_room_5 (by decide) ?_
      refine lv_icmp_ge (tgt := 75) hx hb d_PS_room_7 rfl (fun hc_7 => absurd hc_7 (z_stay rfl hkn_4 (by decide))) (fun hc_7 => ?_)
      refine lv_iload_n hx hb d_PS_room_10 rfl (lv_at hl 2 rfl) ?_
      refine lv_iconst (v := 1) hx hb d_PS_room_11 (by decide) ?_
      refine lv_iadd hx hb d_PS_room_12 ?_
      refine lv_istore_n (lv' := [(3, .int ((nI k_4) + 1)), (0, .ref ax), (1, .int 0), (2, .int (nI k_4))]) hx hb d_PS_room_13 rfl hl (by decide) rfl (fun ls hl => ?_)
      have X_14 : ∀ (k_14 : Nat) (H : Heap) (locs : List Loc) (ls : Array Slot), (True) → va_P (dC, dI) classes [(ax, .inr (0, [.int 0, .int 0, .ref ax_lessEnd, .ref ax_moreEnd, .ref ax_web, .ref ax_planeTest, .ref ax_palette, .ref ax_desk]))] H → va_D A [(ax, .inr (0, [.int 0, .int 0, .ref ax_lessEnd, .ref ax_moreEnd, .ref ax_web, .ref ax_planeTest, .ref ax_palette, .ref ax_desk]))] → va_S A s.heap H locs → lv_has ls 4 [(0, .ref ax), (1, .int 0), (2, .int (nI k_4)), (3, .int (nI k_14))] → W p l e (headSpec w_PS_room ({ frames := 1, cells := 0, slots := 0, locals := 21 })).room s m args below meth c H locs 0 0 (MQ below (va_Qi (fun (r : Int32) (u : Unit) => r = 0) (fun u t => End_ dC dI A [] [(ax, .inr (0, [.int 0, .int 0, .ref ax_lessEnd, .ref ax_moreEnd, .ref ax_web, .ref ax_planeTest, .ref ax_palette, .ref ax_desk]))] t) A) args s 0 0 A) (F0 m 69 ls []) := by
        intro k_14  H locs ls hI_14 hP hD hS hl
        refine lv_iinc (lv' := [(2, .int (nI (k_4 + 1))), (0, .ref ax), (1, .int 0), (3, .int (nI k_14))]) (k := 2) hx hb d_PS_room_69 hl rfl (z_inc _) (by decide) rfl (fun ls hl => ?_)
        refine lv_goto (tgt := 4) hx hb d_PS_room_72 rfl ?_
        have hl := lv_sub hl [1, 2, 0] rfl
        exact ih_4 _  _ _ _ (by omega) trivial hP hD hS hl
      have L_14 : ∀ (n_14 k_14 : Nat) (H : Heap) (locs : List Loc) (ls : Array Slot), k_14 + n_14 = 10 → (True) → va_P (dC, dI) classes [(ax, .inr (0, [.int 0, .int 0, .ref ax_lessEnd, .ref ax_moreEnd, .ref ax_web, .ref ax_planeTest, .ref ax_palette, .ref ax_desk]))] H → va_D A [(ax, .inr (0, [.int 0, .int 0, .ref ax_lessEnd, .ref ax_moreEnd, .ref ax_web, .ref ax_planeTest, .ref ax_palette, .ref ax_desk]))] → va_S A s.heap H locs → lv_has ls 4 [(0, .ref ax), (1, .int 0), (2, .int (nI k_4)), (3, .int (nI k_14))] → W p l e (headSpec w_PS_room ({ frames := 1, cells := 0, slots := 0, locals := 21 })).room s m args below meth c H locs 0 0 (MQ below (va_Qi (fun (r : Int32) (u : Unit) => r = 0) (fun u t => End_ dC dI A [] [(ax, .inr (0, [.int 0, .int 0, .ref ax_lessEnd, .ref ax_moreEnd, .ref ax_web, .ref ax_planeTest, .ref ax_palette, .ref ax_desk]))] t) A) args s 0 0 A) (F0 m 14 ls []) := by
        intro n_14
        induction n_14 with
        | zero =>
          intro k_14  H locs ls hkn_14 hI_14 hP hD hS hl
          refine lv_iload_n hx hb d_PS_room_14 rfl (lv_at hl 3 rfl) ?_
          refine lv_bipush (v := 10) hx hb d_PS_room_15 (by decide) ?_
          refine lv_icmp_ge (tgt := 69) hx hb d_PS_room_17 rfl (fun hc_17 => ?_) (fun hc_17 => absurd (z_exit rfl hkn_14) hc_17)
          have hl := lv_sub hl [0, 1, 2, 3] rfl
          exact X_14 _  _ _ _ hI_14 hP hD hS hl
        | succ n_14 ih_14 =>
          intro k_14  H locs ls hkn_14 hI_14 hP hD hS hl
          refine lv_iload_n hx hb d_PS_room_14 rfl (lv_at hl 3 rfl) ?_
          refine lv_bipush (v := 10) hx hb d_PS_room_15 (by decide) ?_
          refine lv_icmp_ge (tgt := 69) hx hb d_PS_room_17 rfl (fun hc_17 => absurd hc_17 (z_stay rfl hkn_14 (by decide))) (fun hc_17 => ?_)
          refine lv_aload_n hx hb d_PS_room_20 rfl (lv_at hl 0 rfl) ?_
          refine va_get (D := (dC, dI)) (ci := 0) (v := .int 0) (C := R_PS) (T := F_PS) (N := 8) hx hb hts (fun w h => List.mem_cons_of_mem _ (in_PS w h)) hown hK hP 0 rfl rfl 0 (by decide) (hts _ (List.mem_cons_of_mem _ mw_1_96)) (fun _ h9 => h9) rfl d_PS_room_21 ?_
          refine lv_iload_n hx hb d_PS_room_24 rfl (lv_at hl 2 rfl) ?_
          have hPc := hP.sub (ws' := []) [] rfl
          have hDc := hD.sub (ws' := []) [] (by decide) rfl
          have hKc := hK.sub (tys' := []) [] rfl
          have hFc := va_free (wc := []) hD hS hA [] rfl
          refine va_calli (va_runS (As := [.int 0, .int (nI k_4)]) (rest := []) ⟨hx, hb, hml, hown, hts⟩ (c_has l dC dI H.size 0 (nI k_4)) (cwS 2 hts (gi3 mw_1_148 mw_1_149 mw_1_1 mw_1_150) rfl rfl rfl (by decide +kernel) ⟨Nat.le_of_ble_eq_true rfl, Nat.le_of_ble_eq_true rfl⟩) ⟨fb_, pre_ hPc hKc hDc hN⟩ rfl rfl hl.1 rfl (lv_room (Nat.le_of_ble_eq_true rfl)) d_PS_room_25 ⟨Nat.le_of_ble_eq_true rfl, Nat.le_of_ble_eq_true rfl⟩) hS (fun q _ h => hFc q h) hFc (fun r_25 u t H locs ht hvm hp_25 hB hz1 hk1 hS => ?_)
          have hp_25 : r_25 = f_has 0 (nI k_4) := hp_25
          obtain ⟨hP1, -, hD1⟩ := hB
          rw [ht] at hP1
          obtain ⟨hP, hD⟩ := va_join (wr := [(ax, .inr (0, [.int 0, .int 0, .ref ax_lessEnd, .ref ax_moreEnd, .ref ax_web, .ref ax_planeTest, .ref ax_palette, .ref ax_desk]))]) (w1 := []) hP hD [] [0] rfl rfl (by decide) (by decide) hk1 hFc hP1 hD1
          have hP : va_P (dC, dI) classes [(ax, .inr (0, [.int 0, .int 0, .ref ax_lessEnd, .ref ax_moreEnd, .ref ax_web, .ref ax_planeTest, .ref ax_palette, .ref ax_desk]))] H := hP
          have hD : va_D A [(ax, .inr (0, [.int 0, .int 0, .ref ax_lessEnd, .ref ax_moreEnd, .ref ax_web, .ref ax_planeTest, .ref ax_palette, .ref ax_desk]))] := hD
          refine lv_if_eq (tgt := 63) hx hb d_PS_room_28 rfl (fun hc_28 => ?_) (fun hc_28 => absurd (hp_25.trans (has0 _)) hc_28)
          refine lv_iinc (lv' := [(3, .int (nI (k_14 + 1))), (0, .ref ax), (1, .int 0), (2, .int (nI k_4))]) (k := 3) hx hb d_PS_room_63 hl rfl (z_inc _) (by decide) rfl (fun ls hl => ?_)
          refine lv_goto (tgt := 14) hx hb d_PS_room_66 rfl ?_
          have hl := lv_sub hl [1, 2, 3, 0] rfl
          exact ih_14 _  _ _ _ (by omega) trivial hP hD hS hl
      have hl : lv_has ls 4 [(0, .ref ax), (1, .int 0), (2, .int (nI k_4)), (3, .int (nI (k_4 + 1)))] := by first | exact lv_sub hl [1, 2, 3, 0] rfl | (rw [nI_succ]; exact lv_sub hl [1, 2, 3, 0] rfl)
      exact L_14 (9 - k_4) (k_4 + 1)  _ _ _ (by omega) trivial hP hD hS hl
  have hl : lv_has ls 4 [(0, .ref ax), (1, .int 0), (2, .int (nI 0))] := by first | exact lv_sub hl [2, 1, 0] rfl | (rw [nI_succ]; exact lv_sub hl [2, 1, 0] rfl)
  exact L_4 10 0  _ _ _ rfl trivial hP hD hS hl
set_option maxHeartbeats 4000000 in
set_option maxRecDepth 100000 in
theorem c_wrongMeetings0 (l : Launch) (dC : Nat → ClassId) (dI : Nat → Nat → Nat) (sz : Nat) (ax ax_lessEnd ax_moreEnd ax_web ax_planeTest ax_palette ax_desk : Nat) (zx_nodeBits : Int32) : Met l y_PS_wrongMeetings w_PS_wrongMeetings ({ frames := 1, cells := 0, slots := 0, locals := 21 }) (Pre_ dC dI sz [.ref ax] [(ax, .inr (0, [.int zx_nodeBits, .int 0, .ref ax_lessEnd, .ref ax_moreEnd, .ref ax_web, .ref ax_planeTest, .ref ax_palette, .ref ax_desk]))] []) (va_Qi (fun (r : Int32) (u : Unit) => r = 0) (fun u t => End_ dC dI (va_A [(ax, .inr (0, [.int zx_nodeBits, .int 0, .ref ax_lessEnd, .ref ax_moreEnd, .ref ax_web, .ref ax_planeTest, .ref ax_palette, .ref ax_desk]))] sz) [] [(ax, .inr (0, [.int zx_nodeBits, .int 0, .ref ax_lessEnd, .ref ax_moreEnd, .ref ax_web, .ref ax_planeTest, .ref ax_palette, .ref ax_desk]))] t) (va_A [(ax, .inr (0, [.int zx_nodeBits, .int 0, .ref ax_lessEnd, .ref ax_moreEnd, .ref ax_web, .ref ax_planeTest, .ref ax_palette, .ref ax_desk]))] sz)) 0 0 (va_A [(ax, .inr (0, [.int zx_nodeBits, .int 0, .ref ax_lessEnd, .ref ax_moreEnd, .ref ax_web, .ref ax_planeTest, .ref ax_palette, .ref ax_desk]))] sz) := by
  refine Met.ofW (cc := b_PS_wrongMeetings) (maxL := 4) (ret := (some .int)) (by decide) rfl ?_
  intro p e s m args below meth c s₁ B hml hv
  obtain ⟨hargs, hsz, hP, hK, hD0, hN⟩ := hv
  have hx := B.exec
  have hb := B.bytes
  have hr := B.returns
  have hts := atoms_spec (ws := w_PS_wrongMeetings) B.pre
  have hown : s.vm.findClass R_PS = some m.cls := findClass_of_methodNamed B.named
  have hlocks := B.notSynchronized
  subst hsz
  have hD := hD0.self (sz := s.heap.size)
  generalize hAe : va_A [(ax, .inr (0, [.int zx_nodeBits, .int 0, .ref ax_lessEnd, .ref ax_moreEnd, .ref ax_web, .ref ax_planeTest, .ref ax_palette, .ref ax_desk]))] s.heap.size = A at hD ⊢
  have hA : ∀ q : Nat, s.heap.size ≤ q → A q := fun q h => by rw [← hAe]; exact Or.inr h
  have hS : va_S A s.heap s.heap [] := va_S.rf
  have hl := lv_entry ([.ref ax]) (n := 4) (Nat.le_of_ble_eq_true rfl)
  refine W.eq (congrArg (fun a => entryFrame m a 4) hargs) ?_
  rw [lg_entry_eq]
  generalize (lg_sl ([.ref ax]) ++ List.replicate (4 - (lg_sl ([.ref ax])).length) Slot.unset).toArray = ls at hl ⊢
  have hl : lv_has ls 4 [(0, .ref ax)] := hl
  generalize hH0 : ([] : List Loc) = locs at hS ⊢
  refine lv_iconst (v := 0) hx hb d_PS_wrongMeetings_0 (by decide) ?_
  refine lv_istore_n (lv' := [(1, .int 0), (0, .ref ax)]) hx hb d_PS_wrongMeetings_1 rfl hl (by decide) rfl (fun ls hl => ?_)
  refine lv_iconst (v := 0) hx hb d_PS_wrongMeetings_2 (by decide) ?_
  refine lv_istore_n (lv' := [(2, .int 0), (1, .int 0), (0, .ref ax)]) hx hb d_PS_wrongMeetings_3 rfl hl (by decide) rfl (fun ls hl => ?_)
  have X_4 : ∀ (k_4 : Nat) (H : Heap) (locs : List Loc) (ls : Array Slot), (True) → va_P (dC, dI) classes [(ax, .inr (0, [.int zx_nodeBits, .int 0, .ref ax_lessEnd, .ref ax_moreEnd, .ref ax_web, .ref ax_planeTest, .ref ax_palette, .ref ax_desk]))] H → va_D A [(ax, .inr (0, [.int zx_nodeBits, .int 0, .ref ax_lessEnd, .ref ax_moreEnd, .ref ax_web, .ref ax_planeTest, .ref ax_palette, .ref ax_desk]))] → va_S A s.heap H locs → lv_has ls 4 [(0, .ref ax), (1, .int 0), (2, .int (nI k_4))] → W p l e (headSpec w_PS_wrongMeetings ({ frames := 1, cells := 0, slots := 0, locals := 21 })).room s m args below meth c H locs 0 0 (MQ below (va_Qi (fun (r : Int32) (u : Unit) => r = 0) (fun u t => End_ dC dI A [] [(ax, .inr (0, [.int zx_nodeBits, .int 0, .ref ax_lessEnd, .ref ax_moreEnd, .ref ax_web, .ref ax_planeTest, .ref ax_palette, .ref ax_desk]))] t) A) args s 0 0 A) (F0 m 66 ls []) := by
    intro k_4  H locs ls hI_4 hP hD hS hl
    refine lv_iload_n hx hb d_PS_wrongMeetings_66 rfl (lv_at hl 1 rfl) ?_
    exact W.iret (v := 0) hx hb hr (fun t ht hW => ⟨⟨0, (), rfl, rfl, by rw [ht]; exact hP, va_K.moved hW.alike hK, hD⟩, hS.F ht⟩) hS.2.2 d_PS_wrongMeetings_67
  have L_4 : ∀ (n_4 k_4 : Nat) (H : Heap) (locs : List Loc) (ls : Array Slot), k_4 + n_4 = 24 → (True) → va_P (dC, dI) classes [(ax, .inr (0, [.int zx_nodeBits, .int 0, .ref ax_lessEnd, .ref ax_moreEnd, .ref ax_web, .ref ax_planeTest, .ref ax_palette, .ref ax_desk]))] H → va_D A [(ax, .inr (0, [.int zx_nodeBits, .int 0, .ref ax_lessEnd, .ref ax_moreEnd, .ref ax_web, .ref ax_planeTest, .ref ax_palette, .ref ax_desk]))] → va_S A s.heap H locs → lv_has ls 4 [(0, .ref ax), (1, .int 0), (2, .int (nI k_4))] → W p l e (headSpec w_PS_wrongMeetings ({ frames := 1, cells := 0, slots := 0, locals := 21 })).room s m args below meth c H locs 0 0 (MQ below (va_Qi (fun (r : Int32) (u : Unit) => r = 0) (fun u t => End_ dC dI A [] [(ax, .inr (0, [.int zx_nodeBits, .int 0, .ref ax_lessEnd, .ref ax_moreEnd, .ref ax_web, .ref ax_planeTest, .ref ax_palette, .ref ax_desk]))] t) A) args s 0 0 A) (F0 m 4 ls []) := by
    intro n_4
    induction n_4 with
    | zero =>
      intro k_4  H locs ls hkn_4 hI_4 hP hD hS hl
      refine lv_iload_n hx hb d_PS_wrongMeetings_4 rfl (lv_at hl 2 rfl) ?_
      refine lv_bipush (v := 24) hx hb d_PS_wrongMeetings_5 (by decide) ?_
      refine lv_icmp_ge (tgt := 66) hx hb d_PS_wrongMeetings_7 rfl (fun hc_7 => ?_) (fun hc_7 => absurd (z_exit rfl hkn_4) hc_7)
      have hl := lv_sub hl [0, 1, 2] rfl
      exact X_4 _  _ _ _ hI_4 hP hD hS hl
    | succ n_4 ih_4 =>
      intro k_4  H locs ls hkn_4 hI_4 hP hD hS hl
      refine lv_iload_n hx hb d_PS_wrongMeetings_4 rfl (lv_at hl 2 rfl) ?_
      refine lv_bipush (v := 24) hx hb d_PS_wrongMeetings_5 (by decide) ?_
      refine lv_icmp_ge (tgt := 66) hx hb d_PS_wrongMeetings_7 rfl (fun hc_7 => absurd hc_7 (z_stay rfl hkn_4 (by decide))) (fun hc_7 => ?_)
      refine lv_iload_n hx hb d_PS_wrongMeetings_10 rfl (lv_at hl 2 rfl) ?_
      refine lv_iconst (v := 1) hx hb d_PS_wrongMeetings_11 (by decide) ?_
      refine lv_iadd hx hb d_PS_wrongMeetings_12 ?_
      refine lv_istore_n (lv' := [(3, .int ((nI k_4) + 1)), (0, .ref ax), (1, .int 0), (2, .int (nI k_4))]) hx hb d_PS_wrongMeetings_13 rfl hl (by decide) rfl (fun ls hl => ?_)
      have X_14 : ∀ (k_14 : Nat) (H : Heap) (locs : List Loc) (ls : Array Slot), (True) → va_P (dC, dI) classes [(ax, .inr (0, [.int zx_nodeBits, .int 0, .ref ax_lessEnd, .ref ax_moreEnd, .ref ax_web, .ref ax_planeTest, .ref ax_palette, .ref ax_desk]))] H → va_D A [(ax, .inr (0, [.int zx_nodeBits, .int 0, .ref ax_lessEnd, .ref ax_moreEnd, .ref ax_web, .ref ax_planeTest, .ref ax_palette, .ref ax_desk]))] → va_S A s.heap H locs → lv_has ls 4 [(0, .ref ax), (1, .int 0), (2, .int (nI k_4)), (3, .int (nI k_14))] → W p l e (headSpec w_PS_wrongMeetings ({ frames := 1, cells := 0, slots := 0, locals := 21 })).room s m args below meth c H locs 0 0 (MQ below (va_Qi (fun (r : Int32) (u : Unit) => r = 0) (fun u t => End_ dC dI A [] [(ax, .inr (0, [.int zx_nodeBits, .int 0, .ref ax_lessEnd, .ref ax_moreEnd, .ref ax_web, .ref ax_planeTest, .ref ax_palette, .ref ax_desk]))] t) A) args s 0 0 A) (F0 m 60 ls []) := by
        intro k_14  H locs ls hI_14 hP hD hS hl
        refine lv_iinc (lv' := [(2, .int (nI (k_4 + 1))), (0, .ref ax), (1, .int 0), (3, .int (nI k_14))]) (k := 2) hx hb d_PS_wrongMeetings_60 hl rfl (z_inc _) (by decide) rfl (fun ls hl => ?_)
        refine lv_goto (tgt := 4) hx hb d_PS_wrongMeetings_63 rfl ?_
        have hl := lv_sub hl [1, 2, 0] rfl
        exact ih_4 _  _ _ _ (by omega) trivial hP hD hS hl
      have L_14 : ∀ (n_14 k_14 : Nat) (H : Heap) (locs : List Loc) (ls : Array Slot), k_14 + n_14 = 24 → (True) → va_P (dC, dI) classes [(ax, .inr (0, [.int zx_nodeBits, .int 0, .ref ax_lessEnd, .ref ax_moreEnd, .ref ax_web, .ref ax_planeTest, .ref ax_palette, .ref ax_desk]))] H → va_D A [(ax, .inr (0, [.int zx_nodeBits, .int 0, .ref ax_lessEnd, .ref ax_moreEnd, .ref ax_web, .ref ax_planeTest, .ref ax_palette, .ref ax_desk]))] → va_S A s.heap H locs → lv_has ls 4 [(0, .ref ax), (1, .int 0), (2, .int (nI k_4)), (3, .int (nI k_14))] → W p l e (headSpec w_PS_wrongMeetings ({ frames := 1, cells := 0, slots := 0, locals := 21 })).room s m args below meth c H locs 0 0 (MQ below (va_Qi (fun (r : Int32) (u : Unit) => r = 0) (fun u t => End_ dC dI A [] [(ax, .inr (0, [.int zx_nodeBits, .int 0, .ref ax_lessEnd, .ref ax_moreEnd, .ref ax_web, .ref ax_planeTest, .ref ax_palette, .ref ax_desk]))] t) A) args s 0 0 A) (F0 m 14 ls []) := by
        intro n_14
        induction n_14 with
        | zero =>
          intro k_14  H locs ls hkn_14 hI_14 hP hD hS hl
          refine lv_iload_n hx hb d_PS_wrongMeetings_14 rfl (lv_at hl 3 rfl) ?_
          refine lv_bipush (v := 24) hx hb d_PS_wrongMeetings_15 (by decide) ?_
          refine lv_icmp_ge (tgt := 60) hx hb d_PS_wrongMeetings_17 rfl (fun hc_17 => ?_) (fun hc_17 => absurd (z_exit rfl hkn_14) hc_17)
          have hl := lv_sub hl [0, 1, 2, 3] rfl
          exact X_14 _  _ _ _ hI_14 hP hD hS hl
        | succ n_14 ih_14 =>
          intro k_14  H locs ls hkn_14 hI_14 hP hD hS hl
          refine lv_iload_n hx hb d_PS_wrongMeetings_14 rfl (lv_at hl 3 rfl) ?_
          refine lv_bipush (v := 24) hx hb d_PS_wrongMeetings_15 (by decide) ?_
          refine lv_icmp_ge (tgt := 60) hx hb d_PS_wrongMeetings_17 rfl (fun hc_17 => absurd hc_17 (z_stay rfl hkn_14 (by decide))) (fun hc_17 => ?_)
          refine lv_aload_n hx hb d_PS_wrongMeetings_20 rfl (lv_at hl 0 rfl) ?_
          refine va_get (D := (dC, dI)) (ci := 0) (v := .int 0) (C := R_PS) (T := F_PS) (N := 8) hx hb hts (fun w h => List.mem_cons_of_mem _ (in_PS w h)) hown hK hP 0 rfl rfl 1 (by decide) (hts _ (List.mem_cons_of_mem _ mw_1_97)) (fun _ h9 => h9) rfl d_PS_wrongMeetings_21 ?_
          refine lv_iload_n hx hb d_PS_wrongMeetings_24 rfl (lv_at hl 2 rfl) ?_
          have hPc := hP.sub (ws' := []) [] rfl
          have hDc := hD.sub (ws' := []) [] (by decide) rfl
          have hKc := hK.sub (tys' := []) [] rfl
          have hFc := va_free (wc := []) hD hS hA [] rfl
          refine va_calli (va_runS (As := [.int 0, .int (nI k_4)]) (rest := []) ⟨hx, hb, hml, hown, hts⟩ (c_has l dC dI H.size 0 (nI k_4)) (cwS 2 hts (gi3 mw_1_148 mw_1_149 mw_1_1 mw_1_150) rfl rfl rfl (by decide +kernel) ⟨Nat.le_of_ble_eq_true rfl, Nat.le_of_ble_eq_true rfl⟩) ⟨fb_, pre_ hPc hKc hDc hN⟩ rfl rfl hl.1 rfl (lv_room (Nat.le_of_ble_eq_true rfl)) d_PS_wrongMeetings_25 ⟨Nat.le_of_ble_eq_true rfl, Nat.le_of_ble_eq_true rfl⟩) hS (fun q _ h => hFc q h) hFc (fun r_25 u t H locs ht hvm hp_25 hB hz1 hk1 hS => ?_)
          have hp_25 : r_25 = f_has 0 (nI k_4) := hp_25
          obtain ⟨hP1, -, hD1⟩ := hB
          rw [ht] at hP1
          obtain ⟨hP, hD⟩ := va_join (wr := [(ax, .inr (0, [.int zx_nodeBits, .int 0, .ref ax_lessEnd, .ref ax_moreEnd, .ref ax_web, .ref ax_planeTest, .ref ax_palette, .ref ax_desk]))]) (w1 := []) hP hD [] [0] rfl rfl (by decide) (by decide) hk1 hFc hP1 hD1
          have hP : va_P (dC, dI) classes [(ax, .inr (0, [.int zx_nodeBits, .int 0, .ref ax_lessEnd, .ref ax_moreEnd, .ref ax_web, .ref ax_planeTest, .ref ax_palette, .ref ax_desk]))] H := hP
          have hD : va_D A [(ax, .inr (0, [.int zx_nodeBits, .int 0, .ref ax_lessEnd, .ref ax_moreEnd, .ref ax_web, .ref ax_planeTest, .ref ax_palette, .ref ax_desk]))] := hD
          refine lv_if_eq (tgt := 54) hx hb d_PS_wrongMeetings_28 rfl (fun hc_28 => ?_) (fun hc_28 => absurd (hp_25.trans (has0 _)) hc_28)
          refine lv_iinc (lv' := [(3, .int (nI (k_14 + 1))), (0, .ref ax), (1, .int 0), (2, .int (nI k_4))]) (k := 3) hx hb d_PS_wrongMeetings_54 hl rfl (z_inc _) (by decide) rfl (fun ls hl => ?_)
          refine lv_goto (tgt := 14) hx hb d_PS_wrongMeetings_57 rfl ?_
          have hl := lv_sub hl [1, 2, 3, 0] rfl
          exact ih_14 _  _ _ _ (by omega) trivial hP hD hS hl
      have hl : lv_has ls 4 [(0, .ref ax), (1, .int 0), (2, .int (nI k_4)), (3, .int (nI (k_4 + 1)))] := by first | exact lv_sub hl [1, 2, 3, 0] rfl | (rw [nI_succ]; exact lv_sub hl [1, 2, 3, 0] rfl)
      exact L_14 (23 - k_4) (k_4 + 1)  _ _ _ (by omega) trivial hP hD hS hl
  have hl : lv_has ls 4 [(0, .ref ax), (1, .int 0), (2, .int (nI 0))] := by first | exact lv_sub hl [2, 1, 0] rfl | (rw [nI_succ]; exact lv_sub hl [2, 1, 0] rfl)
  exact L_4 24 0  _ _ _ rfl trivial hP hD hS hl
set_option maxHeartbeats 4000000 in
set_option maxRecDepth 100000 in
theorem c_wrong0 (l : Launch) (dC : Nat → ClassId) (dI : Nat → Nat → Nat) (sz : Nat) (ax ax_lessEnd ax_moreEnd ax_web ax_planeTest ax_palette ax_desk : Nat) : Met l y_PS_wrong w_PS_wrong ({ frames := 1, cells := 0, slots := 0, locals := 21 }) (Pre_ dC dI sz [.ref ax] [(ax, .inr (0, [.int 0, .int 0, .ref ax_lessEnd, .ref ax_moreEnd, .ref ax_web, .ref ax_planeTest, .ref ax_palette, .ref ax_desk]))] []) (va_Qi (fun (r : Int32) (u : Unit) => r = 0) (fun u t => End_ dC dI (va_A [(ax, .inr (0, [.int 0, .int 0, .ref ax_lessEnd, .ref ax_moreEnd, .ref ax_web, .ref ax_planeTest, .ref ax_palette, .ref ax_desk]))] sz) [] [(ax, .inr (0, [.int 0, .int 0, .ref ax_lessEnd, .ref ax_moreEnd, .ref ax_web, .ref ax_planeTest, .ref ax_palette, .ref ax_desk]))] t) (va_A [(ax, .inr (0, [.int 0, .int 0, .ref ax_lessEnd, .ref ax_moreEnd, .ref ax_web, .ref ax_planeTest, .ref ax_palette, .ref ax_desk]))] sz)) 0 0 (va_A [(ax, .inr (0, [.int 0, .int 0, .ref ax_lessEnd, .ref ax_moreEnd, .ref ax_web, .ref ax_planeTest, .ref ax_palette, .ref ax_desk]))] sz) := by
  refine Met.ofW (cc := b_PS_wrong) (maxL := 3) (ret := (some .int)) (by decide) rfl ?_
  intro p e s m args below meth c s₁ B hml hv
  obtain ⟨hargs, hsz, hP, hK, hD0, hN⟩ := hv
  have hx := B.exec
  have hb := B.bytes
  have hr := B.returns
  have hts := atoms_spec (ws := w_PS_wrong) B.pre
  have hown : s.vm.findClass R_PS = some m.cls := findClass_of_methodNamed B.named
  have hlocks := B.notSynchronized
  subst hsz
  have hD := hD0.self (sz := s.heap.size)
  generalize hAe : va_A [(ax, .inr (0, [.int 0, .int 0, .ref ax_lessEnd, .ref ax_moreEnd, .ref ax_web, .ref ax_planeTest, .ref ax_palette, .ref ax_desk]))] s.heap.size = A at hD ⊢
  have hA : ∀ q : Nat, s.heap.size ≤ q → A q := fun q h => by rw [← hAe]; exact Or.inr h
  have hS : va_S A s.heap s.heap [] := va_S.rf
  have hl := lv_entry ([.ref ax]) (n := 3) (Nat.le_of_ble_eq_true rfl)
  refine W.eq (congrArg (fun a => entryFrame m a 3) hargs) ?_
  rw [lg_entry_eq]
  generalize (lg_sl ([.ref ax]) ++ List.replicate (3 - (lg_sl ([.ref ax])).length) Slot.unset).toArray = ls at hl ⊢
  have hl : lv_has ls 3 [(0, .ref ax)] := hl
  generalize hH0 : ([] : List Loc) = locs at hS ⊢
  refine lv_iconst (v := 0) hx hb d_PS_wrong_0 (by decide) ?_
  refine lv_istore_n (lv' := [(1, .int 0), (0, .ref ax)]) hx hb d_PS_wrong_1 rfl hl (by decide) rfl (fun ls hl => ?_)
  refine lv_iconst (v := 0) hx hb d_PS_wrong_2 (by decide) ?_
  refine lv_istore_n (lv' := [(2, .int 0), (1, .int 0), (0, .ref ax)]) hx hb d_PS_wrong_3 rfl hl (by decide) rfl (fun ls hl => ?_)
  have X_4 : ∀ (k_4 : Nat) (H : Heap) (locs : List Loc) (ls : Array Slot), (True) → va_P (dC, dI) classes [(ax, .inr (0, [.int 0, .int 0, .ref ax_lessEnd, .ref ax_moreEnd, .ref ax_web, .ref ax_planeTest, .ref ax_palette, .ref ax_desk]))] H → va_D A [(ax, .inr (0, [.int 0, .int 0, .ref ax_lessEnd, .ref ax_moreEnd, .ref ax_web, .ref ax_planeTest, .ref ax_palette, .ref ax_desk]))] → va_S A s.heap H locs → lv_has ls 3 [(0, .ref ax), (1, .int 0), (2, .int (nI k_4))] → W p l e (headSpec w_PS_wrong ({ frames := 1, cells := 0, slots := 0, locals := 21 })).room s m args below meth c H locs 0 0 (MQ below (va_Qi (fun (r : Int32) (u : Unit) => r = 0) (fun u t => End_ dC dI A [] [(ax, .inr (0, [.int 0, .int 0, .ref ax_lessEnd, .ref ax_moreEnd, .ref ax_web, .ref ax_planeTest, .ref ax_palette, .ref ax_desk]))] t) A) args s 0 0 A) (F0 m 38 ls []) := by
    intro k_4  H locs ls hI_4 hP hD hS hl
    refine lv_iload_n hx hb d_PS_wrong_38 rfl (lv_at hl 1 rfl) ?_
    exact W.iret (v := 0) hx hb hr (fun t ht hW => ⟨⟨0, (), rfl, rfl, by rw [ht]; exact hP, va_K.moved hW.alike hK, hD⟩, hS.F ht⟩) hS.2.2 d_PS_wrong_39
  have L_4 : ∀ (n_4 k_4 : Nat) (H : Heap) (locs : List Loc) (ls : Array Slot), k_4 + n_4 = 10 → (True) → va_P (dC, dI) classes [(ax, .inr (0, [.int 0, .int 0, .ref ax_lessEnd, .ref ax_moreEnd, .ref ax_web, .ref ax_planeTest, .ref ax_palette, .ref ax_desk]))] H → va_D A [(ax, .inr (0, [.int 0, .int 0, .ref ax_lessEnd, .ref ax_moreEnd, .ref ax_web, .ref ax_planeTest, .ref ax_palette, .ref ax_desk]))] → va_S A s.heap H locs → lv_has ls 3 [(0, .ref ax), (1, .int 0), (2, .int (nI k_4))] → W p l e (headSpec w_PS_wrong ({ frames := 1, cells := 0, slots := 0, locals := 21 })).room s m args below meth c H locs 0 0 (MQ below (va_Qi (fun (r : Int32) (u : Unit) => r = 0) (fun u t => End_ dC dI A [] [(ax, .inr (0, [.int 0, .int 0, .ref ax_lessEnd, .ref ax_moreEnd, .ref ax_web, .ref ax_planeTest, .ref ax_palette, .ref ax_desk]))] t) A) args s 0 0 A) (F0 m 4 ls []) := by
    intro n_4
    induction n_4 with
    | zero =>
      intro k_4  H locs ls hkn_4 hI_4 hP hD hS hl
      refine lv_iload_n hx hb d_PS_wrong_4 rfl (lv_at hl 2 rfl) ?_
      refine lv_bipush (v := 10) hx hb d_PS_wrong_5 (by decide) ?_
      refine lv_icmp_ge (tgt := 38) hx hb d_PS_wrong_7 rfl (fun hc_7 => ?_) (fun hc_7 => absurd (z_exit rfl hkn_4) hc_7)
      have hl := lv_sub hl [0, 1, 2] rfl
      exact X_4 _  _ _ _ hI_4 hP hD hS hl
    | succ n_4 ih_4 =>
      intro k_4  H locs ls hkn_4 hI_4 hP hD hS hl
      refine lv_iload_n hx hb d_PS_wrong_4 rfl (lv_at hl 2 rfl) ?_
      refine lv_bipush (v := 10) hx hb d_PS_wrong_5 (by decide) ?_
      refine lv_icmp_ge (tgt := 38) hx hb d_PS_wrong_7 rfl (fun hc_7 => absurd hc_7 (z_stay rfl hkn_4 (by decide))) (fun hc_7 => ?_)
      refine lv_aload_n hx hb d_PS_wrong_10 rfl (lv_at hl 0 rfl) ?_
      refine va_get (D := (dC, dI)) (ci := 0) (v := .int 0) (C := R_PS) (T := F_PS) (N := 8) hx hb hts (fun w h => List.mem_cons_of_mem _ (in_PS w h)) hown hK hP 0 rfl rfl 0 (by decide) (hts _ (List.mem_cons_of_mem _ mw_1_96)) (fun _ h9 => h9) rfl d_PS_wrong_11 ?_
      refine lv_iload_n hx hb d_PS_wrong_14 rfl (lv_at hl 2 rfl) ?_
      have hPc := hP.sub (ws' := []) [] rfl
      have hDc := hD.sub (ws' := []) [] (by decide) rfl
      have hKc := hK.sub (tys' := []) [] rfl
      have hFc := va_free (wc := []) hD hS hA [] rfl
      refine va_calli (va_runS (As := [.int 0, .int (nI k_4)]) (rest := []) ⟨hx, hb, hml, hown, hts⟩ (c_has l dC dI H.size 0 (nI k_4)) (cwS 2 hts (gi3 mw_1_148 mw_1_149 mw_1_1 mw_1_150) rfl rfl rfl (by decide +kernel) ⟨Nat.le_of_ble_eq_true rfl, Nat.le_of_ble_eq_true rfl⟩) ⟨fb_, pre_ hPc hKc hDc hN⟩ rfl rfl hl.1 rfl (lv_room (Nat.le_of_ble_eq_true rfl)) d_PS_wrong_15 ⟨Nat.le_of_ble_eq_true rfl, Nat.le_of_ble_eq_true rfl⟩) hS (fun q _ h => hFc q h) hFc (fun r_15 u t H locs ht hvm hp_15 hB hz1 hk1 hS => ?_)
      have hp_15 : r_15 = f_has 0 (nI k_4) := hp_15
      obtain ⟨hP1, -, hD1⟩ := hB
      rw [ht] at hP1
      obtain ⟨hP, hD⟩ := va_join (wr := [(ax, .inr (0, [.int 0, .int 0, .ref ax_lessEnd, .ref ax_moreEnd, .ref ax_web, .ref ax_planeTest, .ref ax_palette, .ref ax_desk]))]) (w1 := []) hP hD [] [0] rfl rfl (by decide) (by decide) hk1 hFc hP1 hD1
      have hP : va_P (dC, dI) classes [(ax, .inr (0, [.int 0, .int 0, .ref ax_lessEnd, .ref ax_moreEnd, .ref ax_web, .ref ax_planeTest, .ref ax_palette, .ref ax_desk]))] H := hP
      have hD : va_D A [(ax, .inr (0, [.int 0, .int 0, .ref ax_lessEnd, .ref ax_moreEnd, .ref ax_web, .ref ax_planeTest, .ref ax_palette, .ref ax_desk]))] := hD
      refine lv_if_eq (tgt := 32) hx hb d_PS_wrong_18 rfl (fun hc_18 => ?_) (fun hc_18 => absurd (hp_15.trans (has0 _)) hc_18)
      refine lv_iinc (lv' := [(2, .int (nI (k_4 + 1))), (0, .ref ax), (1, .int 0)]) (k := 2) hx hb d_PS_wrong_32 hl rfl (z_inc _) (by decide) rfl (fun ls hl => ?_)
      refine lv_goto (tgt := 4) hx hb d_PS_wrong_35 rfl ?_
      have hl := lv_sub hl [1, 2, 0] rfl
      exact ih_4 _  _ _ _ (by omega) trivial hP hD hS hl
  have hl : lv_has ls 3 [(0, .ref ax), (1, .int 0), (2, .int (nI 0))] := by first | exact lv_sub hl [2, 1, 0] rfl | (rw [nI_succ]; exact lv_sub hl [2, 1, 0] rfl)
  exact L_4 10 0  _ _ _ rfl trivial hP hD hS hl
set_option maxHeartbeats 4000000 in
set_option maxRecDepth 100000 in
theorem c_flat0 (l : Launch) (dC : Nat → ClassId) (dI : Nat → Nat → Nat) (sz : Nat) (ax ax_lessEnd ax_moreEnd ax_web ax_planeTest ax_palette ax_desk : Nat) : Met l y_PS_flat w_PS_flat ({ frames := 2, cells := 0, slots := 0, locals := 44 }) (Pre_ dC dI sz [.ref ax] [(ax, .inr (0, [.int 0, .int 0, .ref ax_lessEnd, .ref ax_moreEnd, .ref ax_web, .ref ax_planeTest, .ref ax_palette, .ref ax_desk]))] []) (va_Qi (fun (r : Int32) (u : Unit) => r = 1) (fun u t => End_ dC dI (va_A [(ax, .inr (0, [.int 0, .int 0, .ref ax_lessEnd, .ref ax_moreEnd, .ref ax_web, .ref ax_planeTest, .ref ax_palette, .ref ax_desk]))] sz) [] [(ax, .inr (0, [.int 0, .int 0, .ref ax_lessEnd, .ref ax_moreEnd, .ref ax_web, .ref ax_planeTest, .ref ax_palette, .ref ax_desk]))] t) (va_A [(ax, .inr (0, [.int 0, .int 0, .ref ax_lessEnd, .ref ax_moreEnd, .ref ax_web, .ref ax_planeTest, .ref ax_palette, .ref ax_desk]))] sz)) 0 0 (va_A [(ax, .inr (0, [.int 0, .int 0, .ref ax_lessEnd, .ref ax_moreEnd, .ref ax_web, .ref ax_planeTest, .ref ax_palette, .ref ax_desk]))] sz) := by
  refine Met.ofW (cc := b_PS_flat) (maxL := 1) (ret := (some .boolean)) (by decide) rfl ?_
  intro p e s m args below meth c s₁ B hml hv
  obtain ⟨hargs, hsz, hP, hK, hD0, hN⟩ := hv
  have hx := B.exec
  have hb := B.bytes
  have hr := B.returns
  have hts := atoms_spec (ws := w_PS_flat) B.pre
  have hown : s.vm.findClass R_PS = some m.cls := findClass_of_methodNamed B.named
  have hlocks := B.notSynchronized
  subst hsz
  have hD := hD0.self (sz := s.heap.size)
  generalize hAe : va_A [(ax, .inr (0, [.int 0, .int 0, .ref ax_lessEnd, .ref ax_moreEnd, .ref ax_web, .ref ax_planeTest, .ref ax_palette, .ref ax_desk]))] s.heap.size = A at hD ⊢
  have hA : ∀ q : Nat, s.heap.size ≤ q → A q := fun q h => by rw [← hAe]; exact Or.inr h
  have hS : va_S A s.heap s.heap [] := va_S.rf
  have hl := lv_entry ([.ref ax]) (n := 1) (Nat.le_of_ble_eq_true rfl)
  refine W.eq (congrArg (fun a => entryFrame m a 1) hargs) ?_
  rw [lg_entry_eq]
  generalize (lg_sl ([.ref ax]) ++ List.replicate (1 - (lg_sl ([.ref ax])).length) Slot.unset).toArray = ls at hl ⊢
  have hl : lv_has ls 1 [(0, .ref ax)] := hl
  generalize hH0 : ([] : List Loc) = locs at hS ⊢
  refine lv_aload_n hx hb d_PS_flat_0 rfl (lv_at hl 0 rfl) ?_
  have hPc := hP.sub (ws' := [(ax, .inr (0, [.int 0, .int 0, .ref ax_lessEnd, .ref ax_moreEnd, .ref ax_web, .ref ax_planeTest, .ref ax_palette, .ref ax_desk]))]) [0] rfl
  have hDc := hD.sub (ws' := [(ax, .inr (0, [.int 0, .int 0, .ref ax_lessEnd, .ref ax_moreEnd, .ref ax_web, .ref ax_planeTest, .ref ax_palette, .ref ax_desk]))]) [0] (by decide) rfl
  have hKc := hK.sub (tys' := []) [] rfl
  have hFc := va_free (wc := [(ax, .inr (0, [.int 0, .int 0, .ref ax_lessEnd, .ref ax_moreEnd, .ref ax_web, .ref ax_planeTest, .ref ax_palette, .ref ax_desk]))]) hD hS hA [0] rfl
  refine va_calli (va_runV (As := []) (rest := []) ⟨hx, hb, hml, hown, hts⟩ (c_wrongMeetings0 l dC dI s.heap.size ax ax_lessEnd ax_moreEnd ax_web ax_planeTest ax_palette ax_desk 0) (cwV 0 hts (gi4 mw_2_81 mw_2_83 mw_p_22 mw_1_1 mw_2_84) rfl rfl rfl (by decide +kernel) ⟨Nat.le_of_ble_eq_true rfl, Nat.le_of_ble_eq_true rfl⟩) ⟨fb_, va_recv (q0 := 0) (ci := 0) hK hP rfl rfl, pre_ hPc hKc hDc hN⟩ rfl rfl hl.1 rfl (lv_room (Nat.le_of_ble_eq_true rfl)) d_PS_flat_1 ⟨Nat.le_of_ble_eq_true rfl, Nat.le_of_ble_eq_true rfl⟩) hS (fun q _ h => hFc q h) hFc (fun r_1 u t H locs ht hvm hp_1 hB hz1 hk1 hS => ?_)
  have hp_1 : r_1 = 0 := hp_1
  obtain ⟨hP1, -, hD1⟩ := hB
  rw [ht] at hP1
  obtain ⟨hP, hD⟩ := va_join (wr := []) (w1 := [(ax, .inr (0, [.int 0, .int 0, .ref ax_lessEnd, .ref ax_moreEnd, .ref ax_web, .ref ax_planeTest, .ref ax_palette, .ref ax_desk]))]) hP hD [0] [] rfl rfl (by decide) (by decide) hk1 hFc hP1 hD1
  have hP : va_P (dC, dI) classes [(ax, .inr (0, [.int 0, .int 0, .ref ax_lessEnd, .ref ax_moreEnd, .ref ax_web, .ref ax_planeTest, .ref ax_palette, .ref ax_desk]))] H := hP
  have hD : va_D A [(ax, .inr (0, [.int 0, .int 0, .ref ax_lessEnd, .ref ax_moreEnd, .ref ax_web, .ref ax_planeTest, .ref ax_palette, .ref ax_desk]))] := hD
  refine lv_if_ne (tgt := 18) hx hb d_PS_flat_4 rfl (fun hc_4 => absurd hp_1 hc_4) (fun hc_4 => ?_)
  refine lv_aload_n hx hb d_PS_flat_7 rfl (lv_at hl 0 rfl) ?_
  have hPc := hP.sub (ws' := [(ax, .inr (0, [.int 0, .int 0, .ref ax_lessEnd, .ref ax_moreEnd, .ref ax_web, .ref ax_planeTest, .ref ax_palette, .ref ax_desk]))]) [0] rfl
  have hDc := hD.sub (ws' := [(ax, .inr (0, [.int 0, .int 0, .ref ax_lessEnd, .ref ax_moreEnd, .ref ax_web, .ref ax_planeTest, .ref ax_palette, .ref ax_desk]))]) [0] (by decide) rfl
  have hKc := hK.sub (tys' := []) [] rfl
  have hFc := va_free (wc := [(ax, .inr (0, [.int 0, .int 0, .ref ax_lessEnd, .ref ax_moreEnd, .ref ax_web, .ref ax_planeTest, .ref ax_palette, .ref ax_desk]))]) hD hS hA [0] rfl
  refine va_calli (va_runV (As := []) (rest := []) ⟨hx, hb, hml, hown, hts⟩ (c_wrong0 l dC dI H.size ax ax_lessEnd ax_moreEnd ax_web ax_planeTest ax_palette ax_desk) (cwV 0 hts (gi4 mw_2_102 mw_2_51 mw_2_52 mw_1_1 mw_2_53) rfl rfl rfl (by decide +kernel) ⟨Nat.le_of_ble_eq_true rfl, Nat.le_of_ble_eq_true rfl⟩) ⟨fb_, va_recv (q0 := 0) (ci := 0) hK hP rfl rfl, pre_ hPc hKc hDc hN⟩ rfl rfl hl.1 rfl (lv_room (Nat.le_of_ble_eq_true rfl)) d_PS_flat_8 ⟨Nat.le_of_ble_eq_true rfl, Nat.le_of_ble_eq_true rfl⟩) hS (fun q _ h => hFc q h) hFc (fun r_8 u t H locs ht hvm hp_8 hB hz1 hk1 hS => ?_)
  have hp_8 : r_8 = 0 := hp_8
  obtain ⟨hP1, -, hD1⟩ := hB
  rw [ht] at hP1
  obtain ⟨hP, hD⟩ := va_join (wr := []) (w1 := [(ax, .inr (0, [.int 0, .int 0, .ref ax_lessEnd, .ref ax_moreEnd, .ref ax_web, .ref ax_planeTest, .ref ax_palette, .ref ax_desk]))]) hP hD [0] [] rfl rfl (by decide) (by decide) hk1 hFc hP1 hD1
  have hP : va_P (dC, dI) classes [(ax, .inr (0, [.int 0, .int 0, .ref ax_lessEnd, .ref ax_moreEnd, .ref ax_web, .ref ax_planeTest, .ref ax_palette, .ref ax_desk]))] H := hP
  have hD : va_D A [(ax, .inr (0, [.int 0, .int 0, .ref ax_lessEnd, .ref ax_moreEnd, .ref ax_web, .ref ax_planeTest, .ref ax_palette, .ref ax_desk]))] := hD
  refine lv_if_ne (tgt := 18) hx hb d_PS_flat_11 rfl (fun hc_11 => absurd hp_8 hc_11) (fun hc_11 => ?_)
  refine lv_iconst (v := 1) hx hb d_PS_flat_14 (by decide) ?_
  refine lv_goto (tgt := 19) hx hb d_PS_flat_15 rfl ?_
  exact W.zret (v := 1) (ty := .boolean) hx hb hr rfl (fun t ht hW => ⟨⟨1, (), rfl, rfl, by rw [ht]; exact hP, va_K.moved hW.alike hK, hD⟩, hS.F ht⟩) hS.2.2 d_PS_flat_19
set_option maxHeartbeats 4000000 in
set_option maxRecDepth 100000 in
theorem c_box0 (l : Launch) (dC : Nat → ClassId) (dI : Nat → Nat → Nat) (sz : Nat) (ax ax_lessEnd ax_moreEnd ax_web ax_planeTest ax_palette ax_desk : Nat) : Met l y_PS_box w_PS_box ({ frames := 0, cells := 0, slots := 0, locals := 0 }) (Pre_ dC dI sz [.ref ax] [(ax, .inr (0, [.int 0, .int 0, .ref ax_lessEnd, .ref ax_moreEnd, .ref ax_web, .ref ax_planeTest, .ref ax_palette, .ref ax_desk]))] []) (va_Qi (fun (r : Int32) (u : Unit) => r = 0) (fun u t => End_ dC dI (va_A [(ax, .inr (0, [.int 0, .int 0, .ref ax_lessEnd, .ref ax_moreEnd, .ref ax_web, .ref ax_planeTest, .ref ax_palette, .ref ax_desk]))] sz) [] [(ax, .inr (0, [.int 0, .int 0, .ref ax_lessEnd, .ref ax_moreEnd, .ref ax_web, .ref ax_planeTest, .ref ax_palette, .ref ax_desk]))] t) (va_A [(ax, .inr (0, [.int 0, .int 0, .ref ax_lessEnd, .ref ax_moreEnd, .ref ax_web, .ref ax_planeTest, .ref ax_palette, .ref ax_desk]))] sz)) 0 0 (va_A [(ax, .inr (0, [.int 0, .int 0, .ref ax_lessEnd, .ref ax_moreEnd, .ref ax_web, .ref ax_planeTest, .ref ax_palette, .ref ax_desk]))] sz) := by
  refine Met.ofW (cc := b_PS_box) (maxL := 1) (ret := (some .int)) (by decide) rfl ?_
  intro p e s m args below meth c s₁ B hml hv
  obtain ⟨hargs, hsz, hP, hK, hD0, hN⟩ := hv
  have hx := B.exec
  have hb := B.bytes
  have hr := B.returns
  have hts := atoms_spec (ws := w_PS_box) B.pre
  have hown : s.vm.findClass R_PS = some m.cls := findClass_of_methodNamed B.named
  have hlocks := B.notSynchronized
  subst hsz
  have hD := hD0.self (sz := s.heap.size)
  generalize hAe : va_A [(ax, .inr (0, [.int 0, .int 0, .ref ax_lessEnd, .ref ax_moreEnd, .ref ax_web, .ref ax_planeTest, .ref ax_palette, .ref ax_desk]))] s.heap.size = A at hD ⊢
  have hA : ∀ q : Nat, s.heap.size ≤ q → A q := fun q h => by rw [← hAe]; exact Or.inr h
  have hS : va_S A s.heap s.heap [] := va_S.rf
  have hl := lv_entry ([.ref ax]) (n := 1) (Nat.le_of_ble_eq_true rfl)
  refine W.eq (congrArg (fun a => entryFrame m a 1) hargs) ?_
  rw [lg_entry_eq]
  generalize (lg_sl ([.ref ax]) ++ List.replicate (1 - (lg_sl ([.ref ax])).length) Slot.unset).toArray = ls at hl ⊢
  have hl : lv_has ls 1 [(0, .ref ax)] := hl
  generalize hH0 : ([] : List Loc) = locs at hS ⊢
  refine lv_aload_n hx hb d_PS_box_0 rfl (lv_at hl 0 rfl) ?_
  refine va_get (D := (dC, dI)) (ci := 0) (v := .int 0) (C := R_PS) (T := F_PS) (N := 8) hx hb hts (fun w h => List.mem_cons_of_mem _ (in_PS w h)) hown hK hP 0 rfl rfl 0 (by decide) (hts _ (List.mem_cons_of_mem _ mw_1_96)) (fun _ h9 => h9) rfl d_PS_box_1 ?_
  refine lv_if_ne (tgt := 11) hx hb d_PS_box_4 rfl (fun hc_4 => absurd rfl hc_4) (fun hc_4 => ?_)
  refine lv_iconst (v := 0) hx hb d_PS_box_7 (by decide) ?_
  refine lv_goto (tgt := 26) hx hb d_PS_box_8 rfl ?_
  exact W.iret (v := 0) hx hb hr (fun t ht hW => ⟨⟨0, (), rfl, rfl, by rw [ht]; exact hP, va_K.moved hW.alike hK, hD⟩, hS.F ht⟩) hS.2.2 d_PS_box_26
set_option maxHeartbeats 4000000 in
set_option maxRecDepth 100000 in
theorem c_nodes (l : Launch) (dC : Nat → ClassId) (dI : Nat → Nat → Nat) (sz : Nat) (ax ax_lessEnd ax_moreEnd ax_web ax_planeTest ax_palette ax_desk : Nat) (zx_nodeBits : Int32) (zx_lineBits : Int32) : Met l y_PS_nodes w_PS_nodes ({ frames := 0, cells := 0, slots := 0, locals := 0 }) (Pre_ dC dI sz [.ref ax] [(ax, .inr (0, [.int zx_nodeBits, .int zx_lineBits, .ref ax_lessEnd, .ref ax_moreEnd, .ref ax_web, .ref ax_planeTest, .ref ax_palette, .ref ax_desk]))] []) (va_Qi (fun (r : Int32) (u : Unit) => r = zx_nodeBits) (fun u t => End_ dC dI (va_A [(ax, .inr (0, [.int zx_nodeBits, .int zx_lineBits, .ref ax_lessEnd, .ref ax_moreEnd, .ref ax_web, .ref ax_planeTest, .ref ax_palette, .ref ax_desk]))] sz) [] [(ax, .inr (0, [.int zx_nodeBits, .int zx_lineBits, .ref ax_lessEnd, .ref ax_moreEnd, .ref ax_web, .ref ax_planeTest, .ref ax_palette, .ref ax_desk]))] t) (va_A [(ax, .inr (0, [.int zx_nodeBits, .int zx_lineBits, .ref ax_lessEnd, .ref ax_moreEnd, .ref ax_web, .ref ax_planeTest, .ref ax_palette, .ref ax_desk]))] sz)) 0 0 (va_A [(ax, .inr (0, [.int zx_nodeBits, .int zx_lineBits, .ref ax_lessEnd, .ref ax_moreEnd, .ref ax_web, .ref ax_planeTest, .ref ax_palette, .ref ax_desk]))] sz) := by
  refine Met.ofW (cc := b_PS_nodes) (maxL := 1) (ret := (some .int)) (by decide) rfl ?_
  intro p e s m args below meth c s₁ B hml hv
  obtain ⟨hargs, hsz, hP, hK, hD0, hN⟩ := hv
  have hx := B.exec
  have hb := B.bytes
  have hr := B.returns
  have hts := atoms_spec (ws := w_PS_nodes) B.pre
  have hown : s.vm.findClass R_PS = some m.cls := findClass_of_methodNamed B.named
  have hlocks := B.notSynchronized
  subst hsz
  have hD := hD0.self (sz := s.heap.size)
  generalize hAe : va_A [(ax, .inr (0, [.int zx_nodeBits, .int zx_lineBits, .ref ax_lessEnd, .ref ax_moreEnd, .ref ax_web, .ref ax_planeTest, .ref ax_palette, .ref ax_desk]))] s.heap.size = A at hD ⊢
  have hA : ∀ q : Nat, s.heap.size ≤ q → A q := fun q h => by rw [← hAe]; exact Or.inr h
  have hS : va_S A s.heap s.heap [] := va_S.rf
  have hl := lv_entry ([.ref ax]) (n := 1) (Nat.le_of_ble_eq_true rfl)
  refine W.eq (congrArg (fun a => entryFrame m a 1) hargs) ?_
  rw [lg_entry_eq]
  generalize (lg_sl ([.ref ax]) ++ List.replicate (1 - (lg_sl ([.ref ax])).length) Slot.unset).toArray = ls at hl ⊢
  have hl : lv_has ls 1 [(0, .ref ax)] := hl
  generalize hH0 : ([] : List Loc) = locs at hS ⊢
  refine lv_aload_n hx hb d_PS_nodes_0 rfl (lv_at hl 0 rfl) ?_
  refine va_get (D := (dC, dI)) (ci := 0) (v := .int zx_nodeBits) (C := R_PS) (T := F_PS) (N := 8) hx hb hts (fun w h => List.mem_cons_of_mem _ (in_PS w h)) hown hK hP 0 rfl rfl 0 (by decide) (hts _ (List.mem_cons_of_mem _ mw_1_96)) (fun _ h9 => h9) rfl d_PS_nodes_1 ?_
  exact W.iret (v := zx_nodeBits) hx hb hr (fun t ht hW => ⟨⟨zx_nodeBits, (), rfl, rfl, by rw [ht]; exact hP, va_K.moved hW.alike hK, hD⟩, hS.F ht⟩) hS.2.2 d_PS_nodes_4
set_option maxHeartbeats 4000000 in
set_option maxRecDepth 100000 in
theorem c_lines (l : Launch) (dC : Nat → ClassId) (dI : Nat → Nat → Nat) (sz : Nat) (ax ax_lessEnd ax_moreEnd ax_web ax_planeTest ax_palette ax_desk : Nat) (zx_nodeBits : Int32) (zx_lineBits : Int32) : Met l y_PS_lines w_PS_lines ({ frames := 0, cells := 0, slots := 0, locals := 0 }) (Pre_ dC dI sz [.ref ax] [(ax, .inr (0, [.int zx_nodeBits, .int zx_lineBits, .ref ax_lessEnd, .ref ax_moreEnd, .ref ax_web, .ref ax_planeTest, .ref ax_palette, .ref ax_desk]))] []) (va_Qi (fun (r : Int32) (u : Unit) => r = zx_lineBits) (fun u t => End_ dC dI (va_A [(ax, .inr (0, [.int zx_nodeBits, .int zx_lineBits, .ref ax_lessEnd, .ref ax_moreEnd, .ref ax_web, .ref ax_planeTest, .ref ax_palette, .ref ax_desk]))] sz) [] [(ax, .inr (0, [.int zx_nodeBits, .int zx_lineBits, .ref ax_lessEnd, .ref ax_moreEnd, .ref ax_web, .ref ax_planeTest, .ref ax_palette, .ref ax_desk]))] t) (va_A [(ax, .inr (0, [.int zx_nodeBits, .int zx_lineBits, .ref ax_lessEnd, .ref ax_moreEnd, .ref ax_web, .ref ax_planeTest, .ref ax_palette, .ref ax_desk]))] sz)) 0 0 (va_A [(ax, .inr (0, [.int zx_nodeBits, .int zx_lineBits, .ref ax_lessEnd, .ref ax_moreEnd, .ref ax_web, .ref ax_planeTest, .ref ax_palette, .ref ax_desk]))] sz) := by
  refine Met.ofW (cc := b_PS_lines) (maxL := 1) (ret := (some .int)) (by decide) rfl ?_
  intro p e s m args below meth c s₁ B hml hv
  obtain ⟨hargs, hsz, hP, hK, hD0, hN⟩ := hv
  have hx := B.exec
  have hb := B.bytes
  have hr := B.returns
  have hts := atoms_spec (ws := w_PS_lines) B.pre
  have hown : s.vm.findClass R_PS = some m.cls := findClass_of_methodNamed B.named
  have hlocks := B.notSynchronized
  subst hsz
  have hD := hD0.self (sz := s.heap.size)
  generalize hAe : va_A [(ax, .inr (0, [.int zx_nodeBits, .int zx_lineBits, .ref ax_lessEnd, .ref ax_moreEnd, .ref ax_web, .ref ax_planeTest, .ref ax_palette, .ref ax_desk]))] s.heap.size = A at hD ⊢
  have hA : ∀ q : Nat, s.heap.size ≤ q → A q := fun q h => by rw [← hAe]; exact Or.inr h
  have hS : va_S A s.heap s.heap [] := va_S.rf
  have hl := lv_entry ([.ref ax]) (n := 1) (Nat.le_of_ble_eq_true rfl)
  refine W.eq (congrArg (fun a => entryFrame m a 1) hargs) ?_
  rw [lg_entry_eq]
  generalize (lg_sl ([.ref ax]) ++ List.replicate (1 - (lg_sl ([.ref ax])).length) Slot.unset).toArray = ls at hl ⊢
  have hl : lv_has ls 1 [(0, .ref ax)] := hl
  generalize hH0 : ([] : List Loc) = locs at hS ⊢
  refine lv_aload_n hx hb d_PS_lines_0 rfl (lv_at hl 0 rfl) ?_
  refine va_get (D := (dC, dI)) (ci := 0) (v := .int zx_lineBits) (C := R_PS) (T := F_PS) (N := 8) hx hb hts (fun w h => List.mem_cons_of_mem _ (in_PS w h)) hown hK hP 0 rfl rfl 1 (by decide) (hts _ (List.mem_cons_of_mem _ mw_1_97)) (fun _ h9 => h9) rfl d_PS_lines_1 ?_
  exact W.iret (v := zx_lineBits) hx hb hr (fun t ht hW => ⟨⟨zx_lineBits, (), rfl, rfl, by rw [ht]; exact hP, va_K.moved hW.alike hK, hD⟩, hS.F ht⟩) hS.2.2 d_PS_lines_4
