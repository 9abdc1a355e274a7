set_option maxHeartbeats 4000000 in
set_option maxRecDepth 100000 in
theorem c_nodeW (l : Launch) (hfl : l.stackTraces = false) (s0 : State) (h0 : T0 s0) (hnc : NC s0) (dC : Nat → ClassId) (dI : Nat → Nat → Nat) (sz : Nat) (ax ab ax_lessEnd ax_moreEnd ax_web ax_planeTest ax_palette ax_desk : Nat) (kb : ClassId) (zx_nodeBits : Int32) (zx_lineBits : Int32) (zb : Nat → Int64) (v1 : Int32) (R : Int32 × Int32 × (Nat → Int64)) (hR : F_nodeW zx_nodeBits zb v1 = some R) : Met l y_Law_node w_Law_node ({ frames := 7, cells := 1, slots := 6, locals := 111 }) (PreX_ s0 dC dI sz [.ref ax, .int v1, .ref ab] [(ax, .inr (0, [.int zx_nodeBits, .int zx_lineBits, .ref ax_lessEnd, .ref ax_moreEnd, .ref ax_web, .ref ax_planeTest, .ref ax_palette, .ref ax_desk])), (ab, .inl (kb, 1, .inr (.inl zb)))] [(kb, .long)]) (va_Qi (fun (r : Int32) (u : Int32 × (Nat → Int64)) => (r, u) = R) (fun u t => End_ dC dI (va_A [(ax, .inr (0, [.int zx_nodeBits, .int zx_lineBits, .ref ax_lessEnd, .ref ax_moreEnd, .ref ax_web, .ref ax_planeTest, .ref ax_palette, .ref ax_desk])), (ab, .inl (kb, 1, .inr (.inl zb)))] sz) [(kb, .long)] [(ax, .inr (0, [.int u.1, .int zx_lineBits, .ref ax_lessEnd, .ref ax_moreEnd, .ref ax_web, .ref ax_planeTest, .ref ax_palette, .ref ax_desk])), (ab, .inl (kb, 1, .inr (.inl u.2)))] t) (va_A [(ax, .inr (0, [.int zx_nodeBits, .int zx_lineBits, .ref ax_lessEnd, .ref ax_moreEnd, .ref ax_web, .ref ax_planeTest, .ref ax_palette, .ref ax_desk])), (ab, .inl (kb, 1, .inr (.inl zb)))] sz)) 1 6 (va_A [(ax, .inr (0, [.int zx_nodeBits, .int zx_lineBits, .ref ax_lessEnd, .ref ax_moreEnd, .ref ax_web, .ref ax_planeTest, .ref ax_palette, .ref ax_desk])), (ab, .inl (kb, 1, .inr (.inl zb)))] sz) := by
  refine va_MetW (cc := b_Law_node) (maxL := 4) (ret := (some .int)) (by decide) rfl ?_
  intro p e s m args below meth c s₁ B hml hv
  have htab := x_tab B (atoms_spec (ws := w_Law_node) B.pre _ List.mem_cons_self)
  obtain ⟨hargs9, hsz9, hP9, hK9, hD9, hN9, hO, hlo⟩ := hv
  have hv : Pre_ dC dI sz [.ref ax, .int v1, .ref ab] [(ax, .inr (0, [.int zx_nodeBits, .int zx_lineBits, .ref ax_lessEnd, .ref ax_moreEnd, .ref ax_web, .ref ax_planeTest, .ref ax_palette, .ref ax_desk])), (ab, .inl (kb, 1, .inr (.inl zb)))] [(kb, .long)] args s := ⟨hargs9, hsz9, hP9, hK9, hD9, hN9⟩
  have lo_x : s0.heap.size ≤ ax := hlo (ax, .inr (0, [.int zx_nodeBits, .int zx_lineBits, .ref ax_lessEnd, .ref ax_moreEnd, .ref ax_web, .ref ax_planeTest, .ref ax_palette, .ref ax_desk])) (List.mem_of_getElem? (i := 0) rfl)
  have lo_b : s0.heap.size ≤ ab := hlo (ab, .inl (kb, 1, .inr (.inl zb))) (List.mem_of_getElem? (i := 1) rfl)
  obtain ⟨hargs, hsz, hP, hK, hD0, hN⟩ := hv
  have hx := B.exec
  have hb := B.bytes
  have hr := B.returns
  have hts := atoms_spec (ws := w_Law_node) B.pre
  have hown : s.vm.findClass R_Law = some m.cls := findClass_of_methodNamed B.named
  have hlocks := B.notSynchronized
  subst hsz
  have hD := hD0.self (sz := s.heap.size)
  generalize hAe : va_A [(ax, .inr (0, [.int zx_nodeBits, .int zx_lineBits, .ref ax_lessEnd, .ref ax_moreEnd, .ref ax_web, .ref ax_planeTest, .ref ax_palette, .ref ax_desk])), (ab, .inl (kb, 1, .inr (.inl zb)))] s.heap.size = A at hD ⊢
  have hA : ∀ q : Nat, s.heap.size ≤ q → A q := fun q h => by rw [← hAe]; exact Or.inr h
  have hS : va_S A s.heap s.heap [] := va_S.rf
  have hl := lv_entry ([.ref ax, .int v1, .ref ab]) (n := 4) (Nat.le_of_ble_eq_true rfl)
  refine W.eq (congrArg (fun a => entryFrame m a 4) hargs) ?_
  rw [lg_entry_eq]
  generalize (lg_sl ([.ref ax, .int v1, .ref ab]) ++ List.replicate (4 - (lg_sl ([.ref ax, .int v1, .ref ab])).length) Slot.unset).toArray = ls at hl ⊢
  have hl : lv_has ls 4 [(0, .ref ax), (1, .int v1), (2, .ref ab)] := hl
  generalize hH0 : ([] : List Loc) = locs at hS ⊢
  have hI := hR.symm
  rw [F_nodeW] at hI
  refine lv_aload_n hx hb d_Law_node_0 rfl (lv_at hl 2 rfl) ?_
  refine lv_iconst (v := 0) hx hb d_Law_node_1 (by decide) ?_
  refine lv_aload_n hx hb d_Law_node_2 rfl (lv_at hl 0 rfl) ?_
  refine lv_iload_n hx hb d_Law_node_3 rfl (lv_at hl 1 rfl) ?_
  obtain ⟨p_4, hg_4, hI⟩ := ob_bd hI
  have hPc := hP.sub (ws' := [(ax, .inr (0, [.int zx_nodeBits, .int zx_lineBits, .ref ax_lessEnd, .ref ax_moreEnd, .ref ax_web, .ref ax_planeTest, .ref ax_palette, .ref ax_desk]))]) [0] rfl
  have hDc := hD.sub (ws' := [(ax, .inr (0, [.int zx_nodeBits, .int zx_lineBits, .ref ax_lessEnd, .ref ax_moreEnd, .ref ax_web, .ref ax_planeTest, .ref ax_palette, .ref ax_desk]))]) [0] (by decide) rfl
  have hKc := hK.sub (tys' := []) [] rfl
  have hFc := va_free (wc := [(ax, .inr (0, [.int zx_nodeBits, .int zx_lineBits, .ref ax_lessEnd, .ref ax_moreEnd, .ref ax_web, .ref ax_planeTest, .ref ax_palette, .ref ax_desk]))]) hD hS hA [0] rfl
  have hok := og_keep hO hlo hAe hS
  refine x_calli (As := [.int v1]) (rest := [.int 0, .ref ab]) ⟨hx, hb, hml, hown, hts⟩ (c_nodeT l hfl s0 h0 dC dI s.heap.size ax ax_lessEnd ax_moreEnd ax_web ax_planeTest ax_palette ax_desk zx_nodeBits zx_lineBits v1 p_4 hg_4) (cwV 1 hts (gi4 mw_2_117 mw_2_118 mw_2_119 mw_1_1 mw_2_120) rfl rfl rfl (by decide +kernel) ⟨Nat.le_of_ble_eq_true rfl, Nat.le_of_ble_eq_true rfl⟩) ⟨fbx_, va_recv (q0 := 0) (ci := 0) hK hP rfl rfl, prex_ hPc hKc hDc hN hO.1 hok.1 hok.2 (List.forall_mem_cons.mpr ⟨lo_x, fun _ h => absurd h List.not_mem_nil⟩)⟩ rfl hl.1 rfl (lv_room (Nat.le_of_ble_eq_true rfl)) d_Law_node_4 ⟨Nat.le_of_ble_eq_true rfl, Nat.le_of_ble_eq_true rfl⟩ hS (fun q _ h => hFc q h) hFc (fun q _ h => hFc q h) (fun E ce q9 wx_nodeBits_4 t T9 locs hal hBX hh9 hz1 hk1 hS hce hcv hcl X9 => ?_) (fun r_4 wx_nodeBits_4 t H locs ht hvm hp_4 hB hz1 hk1 hS => ?_)
  · skip
    obtain ⟨hpx, hPx, -, hDx⟩ := hBX
    have hpx : (E = "java/lang/IndexOutOfBoundsException" ∧ ((1 : Nat), (0 : Int32), wx_nodeBits_4) = p_4) ∨ (E = "java/lang/IllegalStateException" ∧ ((2 : Nat), (0 : Int32), wx_nodeBits_4) = p_4) := hpx
    obtain ⟨hP, hD⟩ := va_join (wr := [(ab, .inl (kb, 1, .inr (.inl zb)))]) (w1 := [(ax, .inr (0, [.int wx_nodeBits_4, .int zx_lineBits, .ref ax_lessEnd, .ref ax_moreEnd, .ref ax_web, .ref ax_planeTest, .ref ax_palette, .ref ax_desk]))]) hP hD [0] [1] rfl rfl (by decide) (by decide) hk1 hFc hPx hDx
    have hP : va_P (dC, dI) classes [(ab, .inl (kb, 1, .inr (.inl zb))), (ax, .inr (0, [.int wx_nodeBits_4, .int zx_lineBits, .ref ax_lessEnd, .ref ax_moreEnd, .ref ax_web, .ref ax_planeTest, .ref ax_palette, .ref ax_desk]))] t.heap := hP
    have hD : va_D A [(ab, .inl (kb, 1, .inr (.inl zb))), (ax, .inr (0, [.int wx_nodeBits_4, .int zx_lineBits, .ref ax_lessEnd, .ref ax_moreEnd, .ref ax_web, .ref ax_planeTest, .ref ax_palette, .ref ax_desk]))] := hD
    rcases hpx with ⟨rfl, rfl⟩ | ⟨rfl, rfl⟩
    · skip
      have hI := hI.trans (if_neg (show ¬ (1 : Nat) = 0 by decide))
      have hI := hI.trans (if_pos (show (1 : Nat) = 1 from rfl))
      refine x_catch (own := R_Law) (name := "java/lang/IndexOutOfBoundsException") (g := F0 m 4 ls [.int 0, .ref ab]) X9 rfl hown [] (⟨0, 9, 12, 13⟩ : ExceptionTableEntry) [(⟨0, 9, 15, 15⟩ : ExceptionTableEntry)] htab (fun _ h => absurd h List.not_mem_nil) rfl (by decide) (hts _ (List.mem_cons_of_mem _ mw_2_115)) (thr_at h0 hO (Bundle.ownAtoms R_PS 59 "java/lang/IndexOutOfBoundsException" ["java/lang/RuntimeException", "java/lang/Exception"]) (List.mem_of_getElem? (i := 0) rfl) (.castable "java/lang/IndexOutOfBoundsException" "java/lang/IndexOutOfBoundsException") (by decide +kernel)) (by rw [hh9]; exact hce) hcv hcl ?_
      rw [hh9]
      refine W.eq (g2 := F0 m 12 ls [.ref q9]) rfl ?_
      refine lv_astore_n (lv' := [(3, .ref q9), (0, .ref ax), (1, .int v1), (2, .ref ab)]) hx hb d_Law_node_12 rfl hl (by decide) rfl (fun ls hl => ?_)
      refine lv_iconst (v := 1) hx hb d_Law_node_13 (by decide) ?_
      have hP := hP.sub (ws' := [(ax, .inr (0, [.int wx_nodeBits_4, .int zx_lineBits, .ref ax_lessEnd, .ref ax_moreEnd, .ref ax_web, .ref ax_planeTest, .ref ax_palette, .ref ax_desk])), (ab, .inl (kb, 1, .inr (.inl zb)))]) [1, 0] rfl
      have hD := hD.sub (ws' := [(ax, .inr (0, [.int wx_nodeBits_4, .int zx_lineBits, .ref ax_lessEnd, .ref ax_moreEnd, .ref ax_web, .ref ax_planeTest, .ref ax_palette, .ref ax_desk])), (ab, .inl (kb, 1, .inr (.inl zb)))]) [1, 0] (by decide) rfl
      exact W.iret (v := 1) hx hb hr (fun t ht hW => ⟨⟨1, (wx_nodeBits_4, zb), rfl, (Option.some.inj hI).symm, by rw [ht]; exact hP, va_K.moved hW.alike hK, hD⟩, hS.F ht⟩) hS.2.2 d_Law_node_14
    · skip
      have hI := hI.trans (if_neg (show ¬ (2 : Nat) = 0 by decide))
      have hI := hI.trans (if_neg (show ¬ (2 : Nat) = 1 by decide))
      have hI := hI.trans (if_pos (show (2 : Nat) = 2 from rfl))
      refine x_catch (own := R_Law) (name := "java/lang/IllegalStateException") (g := F0 m 4 ls [.int 0, .ref ab]) X9 rfl hown [(⟨0, 9, 12, 13⟩ : ExceptionTableEntry)] (⟨0, 9, 15, 15⟩ : ExceptionTableEntry) [] htab (List.forall_mem_cons.mpr ⟨Or.inr ⟨rfl, by decide, "java/lang/IndexOutOfBoundsException", hts _ (List.mem_cons_of_mem _ mw_2_115), nc_at hnc hO "java/lang/IllegalStateException" "java/lang/IndexOutOfBoundsException" (by decide) (by decide) (by decide)⟩, fun _ h => absurd h List.not_mem_nil⟩) rfl (by decide) (hts _ (List.mem_cons_of_mem _ mw_2_116)) (thr_at h0 hO (Bundle.ownAtoms R_PS 70 "java/lang/IllegalStateException" ["java/lang/RuntimeException", "java/lang/Exception"]) (List.mem_of_getElem? (i := 1) rfl) (.castable "java/lang/IllegalStateException" "java/lang/IllegalStateException") (by decide +kernel)) (by rw [hh9]; exact hce) hcv hcl ?_
      rw [hh9]
      refine W.eq (g2 := F0 m 15 ls [.ref q9]) rfl ?_
      refine lv_astore_n (lv' := [(3, .ref q9), (0, .ref ax), (1, .int v1), (2, .ref ab)]) hx hb d_Law_node_15 rfl hl (by decide) rfl (fun ls hl => ?_)
      refine lv_iconst (v := 2) hx hb d_Law_node_16 (by decide) ?_
      have hP := hP.sub (ws' := [(ax, .inr (0, [.int wx_nodeBits_4, .int zx_lineBits, .ref ax_lessEnd, .ref ax_moreEnd, .ref ax_web, .ref ax_planeTest, .ref ax_palette, .ref ax_desk])), (ab, .inl (kb, 1, .inr (.inl zb)))]) [1, 0] rfl
      have hD := hD.sub (ws' := [(ax, .inr (0, [.int wx_nodeBits_4, .int zx_lineBits, .ref ax_lessEnd, .ref ax_moreEnd, .ref ax_web, .ref ax_planeTest, .ref ax_palette, .ref ax_desk])), (ab, .inl (kb, 1, .inr (.inl zb)))]) [1, 0] (by decide) rfl
      exact W.iret (v := 2) hx hb hr (fun t ht hW => ⟨⟨2, (wx_nodeBits_4, zb), rfl, (Option.some.inj hI).symm, by rw [ht]; exact hP, va_K.moved hW.alike hK, hD⟩, hS.F ht⟩) hS.2.2 d_Law_node_17
  · skip
    have hp_4 : ((0 : Nat), r_4, wx_nodeBits_4) = p_4 := hp_4
    subst hp_4
    have hI := hI.trans (if_pos (show (0 : Nat) = 0 from rfl))
    obtain ⟨hP1, -, hD1⟩ := hB
    rw [ht] at hP1
    obtain ⟨hP, hD⟩ := va_join (wr := [(ab, .inl (kb, 1, .inr (.inl zb)))]) (w1 := [(ax, .inr (0, [.int wx_nodeBits_4, .int zx_lineBits, .ref ax_lessEnd, .ref ax_moreEnd, .ref ax_web, .ref ax_planeTest, .ref ax_palette, .ref ax_desk]))]) hP hD [0] [1] rfl rfl (by decide) (by decide) hk1 hFc hP1 hD1
    have hP : va_P (dC, dI) classes [(ab, .inl (kb, 1, .inr (.inl zb))), (ax, .inr (0, [.int wx_nodeBits_4, .int zx_lineBits, .ref ax_lessEnd, .ref ax_moreEnd, .ref ax_web, .ref ax_planeTest, .ref ax_palette, .ref ax_desk]))] H := hP
    have hD : va_D A [(ab, .inl (kb, 1, .inr (.inl zb))), (ax, .inr (0, [.int wx_nodeBits_4, .int zx_lineBits, .ref ax_lessEnd, .ref ax_moreEnd, .ref ax_web, .ref ax_planeTest, .ref ax_palette, .ref ax_desk]))] := hD
    refine lv_i2l (v := Int32.toInt64 r_4) hx hb d_Law_node_7 rfl ?_
    refine va_last (D := (dC, dI)) hx hb hK hP hD hS 0 0 rfl rfl (by unfold vp_in; decide +kernel) d_Law_node_8 (fun H locs hP hD hS => ?_)
    rw [show Int32.toNatClampNeg 0 = 0 from rfl] at hP hD
    have hP : va_P (dC, dI) classes [(ab, .inl (kb, 1, .inr (.inl (vp_updL zb 0 (Int32.toInt64 r_4))))), (ax, .inr (0, [.int wx_nodeBits_4, .int zx_lineBits, .ref ax_lessEnd, .ref ax_moreEnd, .ref ax_web, .ref ax_planeTest, .ref ax_palette, .ref ax_desk]))] H := hP
    have hD : va_D A [(ab, .inl (kb, 1, .inr (.inl (vp_updL zb 0 (Int32.toInt64 r_4))))), (ax, .inr (0, [.int wx_nodeBits_4, .int zx_lineBits, .ref ax_lessEnd, .ref ax_moreEnd, .ref ax_web, .ref ax_planeTest, .ref ax_palette, .ref ax_desk]))] := hD
    refine lv_goto (tgt := 18) hx hb d_Law_node_9 rfl ?_
    refine lv_iconst (v := 0) hx hb d_Law_node_18 (by decide) ?_
    have hP := hP.sub (ws' := [(ax, .inr (0, [.int wx_nodeBits_4, .int zx_lineBits, .ref ax_lessEnd, .ref ax_moreEnd, .ref ax_web, .ref ax_planeTest, .ref ax_palette, .ref ax_desk])), (ab, .inl (kb, 1, .inr (.inl (vp_updL zb 0 (Int32.toInt64 r_4)))))]) [1, 0] rfl
    have hD := hD.sub (ws' := [(ax, .inr (0, [.int wx_nodeBits_4, .int zx_lineBits, .ref ax_lessEnd, .ref ax_moreEnd, .ref ax_web, .ref ax_planeTest, .ref ax_palette, .ref ax_desk])), (ab, .inl (kb, 1, .inr (.inl (vp_updL zb 0 (Int32.toInt64 r_4)))))]) [1, 0] (by decide) rfl
    exact W.iret (v := 0) hx hb hr (fun t ht hW => ⟨⟨0, (wx_nodeBits_4, vp_updL zb 0 (Int32.toInt64 r_4)), rfl, (Option.some.inj hI).symm, by rw [ht]; exact hP, va_K.moved hW.alike hK, hD⟩, hS.F ht⟩) hS.2.2 d_Law_node_19
set_option maxHeartbeats 4000000 in
set_option maxRecDepth 100000 in
theorem c_lineW (l : Launch) (hfl : l.stackTraces = false) (s0 : State) (h0 : T0 s0) (hnc : NC s0) (dC : Nat → ClassId) (dI : Nat → Nat → Nat) (sz : Nat) (ax ab ax_lessEnd ax_moreEnd ax_web ax_planeTest ax_palette ax_desk : Nat) (kx_lessEnd kx_moreEnd kb : ClassId) (zx_nodeBits : Int32) (zx_lineBits : Int32) (zx_lessEnd : Nat → Int32) (zx_moreEnd : Nat → Int32) (zb : Nat → Int64) (v1 v2 : Int32) (R : Int32 × Int32 × (Nat → Int32) × (Nat → Int32) × (Nat → Int64)) (hR : F_lineW zx_nodeBits zx_lineBits zx_lessEnd zx_moreEnd zb v1 v2 = some R) : Met l y_Law_line w_Law_line ({ frames := 7, cells := 1, slots := 6, locals := 113 }) (PreX_ s0 dC dI sz [.ref ax, .int v1, .int v2, .ref ab] [(ax, .inr (0, [.int zx_nodeBits, .int zx_lineBits, .ref ax_lessEnd, .ref ax_moreEnd, .ref ax_web, .ref ax_planeTest, .ref ax_palette, .ref ax_desk])), (ax_lessEnd, .inl (kx_lessEnd, 24, .inl zx_lessEnd)), (ax_moreEnd, .inl (kx_moreEnd, 24, .inl zx_moreEnd)), (ab, .inl (kb, 1, .inr (.inl zb)))] [(kx_lessEnd, .int), (kx_moreEnd, .int), (kb, .long)]) (va_Qi (fun (r : Int32) (u : Int32 × (Nat → Int32) × (Nat → Int32) × (Nat → Int64)) => (r, u) = R) (fun u t => End_ dC dI (va_A [(ax, .inr (0, [.int zx_nodeBits, .int zx_lineBits, .ref ax_lessEnd, .ref ax_moreEnd, .ref ax_web, .ref ax_planeTest, .ref ax_palette, .ref ax_desk])), (ax_lessEnd, .inl (kx_lessEnd, 24, .inl zx_lessEnd)), (ax_moreEnd, .inl (kx_moreEnd, 24, .inl zx_moreEnd)), (ab, .inl (kb, 1, .inr (.inl zb)))] sz) [(kx_lessEnd, .int), (kx_moreEnd, .int), (kb, .long)] [(ax, .inr (0, [.int zx_nodeBits, .int u.1, .ref ax_lessEnd, .ref ax_moreEnd, .ref ax_web, .ref ax_planeTest, .ref ax_palette, .ref ax_desk])), (ax_lessEnd, .inl (kx_lessEnd, 24, .inl u.2.1)), (ax_moreEnd, .inl (kx_moreEnd, 24, .inl u.2.2.1)), (ab, .inl (kb, 1, .inr (.inl u.2.2.2)))] t) (va_A [(ax, .inr (0, [.int zx_nodeBits, .int zx_lineBits, .ref ax_lessEnd, .ref ax_moreEnd, .ref ax_web, .ref ax_planeTest, .ref ax_palette, .ref ax_desk])), (ax_lessEnd, .inl (kx_lessEnd, 24, .inl zx_lessEnd)), (ax_moreEnd, .inl (kx_moreEnd, 24, .inl zx_moreEnd)), (ab, .inl (kb, 1, .inr (.inl zb)))] sz)) 1 6 (va_A [(ax, .inr (0, [.int zx_nodeBits, .int zx_lineBits, .ref ax_lessEnd, .ref ax_moreEnd, .ref ax_web, .ref ax_planeTest, .ref ax_palette, .ref ax_desk])), (ax_lessEnd, .inl (kx_lessEnd, 24, .inl zx_lessEnd)), (ax_moreEnd, .inl (kx_moreEnd, 24, .inl zx_moreEnd)), (ab, .inl (kb, 1, .inr (.inl zb)))] sz) := by
  refine va_MetW (cc := b_Law_line) (maxL := 5) (ret := (some .int)) (by decide) rfl ?_
  intro p e s m args below meth c s₁ B hml hv
  have htab := x_tab B (atoms_spec (ws := w_Law_line) B.pre _ List.mem_cons_self)
  obtain ⟨hargs9, hsz9, hP9, hK9, hD9, hN9, hO, hlo⟩ := hv
  have hv : Pre_ dC dI sz [.ref ax, .int v1, .int v2, .ref ab] [(ax, .inr (0, [.int zx_nodeBits, .int zx_lineBits, .ref ax_lessEnd, .ref ax_moreEnd, .ref ax_web, .ref ax_planeTest, .ref ax_palette, .ref ax_desk])), (ax_lessEnd, .inl (kx_lessEnd, 24, .inl zx_lessEnd)), (ax_moreEnd, .inl (kx_moreEnd, 24, .inl zx_moreEnd)), (ab, .inl (kb, 1, .inr (.inl zb)))] [(kx_lessEnd, .int), (kx_moreEnd, .int), (kb, .long)] args s := ⟨hargs9, hsz9, hP9, hK9, hD9, hN9⟩
  have lo_x : s0.heap.size ≤ ax := hlo (ax, .inr (0, [.int zx_nodeBits, .int zx_lineBits, .ref ax_lessEnd, .ref ax_moreEnd, .ref ax_web, .ref ax_planeTest, .ref ax_palette, .ref ax_desk])) (List.mem_of_getElem? (i := 0) rfl)
  have lo_x_lessEnd : s0.heap.size ≤ ax_lessEnd := hlo (ax_lessEnd, .inl (kx_lessEnd, 24, .inl zx_lessEnd)) (List.mem_of_getElem? (i := 1) rfl)
  have lo_x_moreEnd : s0.heap.size ≤ ax_moreEnd := hlo (ax_moreEnd, .inl (kx_moreEnd, 24, .inl zx_moreEnd)) (List.mem_of_getElem? (i := 2) rfl)
  have lo_b : s0.heap.size ≤ ab := hlo (ab, .inl (kb, 1, .inr (.inl zb))) (List.mem_of_getElem? (i := 3) rfl)
  obtain ⟨hargs, hsz, hP, hK, hD0, hN⟩ := hv
  have hx := B.exec
  have hb := B.bytes
  have hr := B.returns
  have hts := atoms_spec (ws := w_Law_line) B.pre
  have hown : s.vm.findClass R_Law = some m.cls := findClass_of_methodNamed B.named
  have hlocks := B.notSynchronized
  subst hsz
  have hD := hD0.self (sz := s.heap.size)
  generalize hAe : va_A [(ax, .inr (0, [.int zx_nodeBits, .int zx_lineBits, .ref ax_lessEnd, .ref ax_moreEnd, .ref ax_web, .ref ax_planeTest, .ref ax_palette, .ref ax_desk])), (ax_lessEnd, .inl (kx_lessEnd, 24, .inl zx_lessEnd)), (ax_moreEnd, .inl (kx_moreEnd, 24, .inl zx_moreEnd)), (ab, .inl (kb, 1, .inr (.inl zb)))] s.heap.size = A at hD ⊢
  have hA : ∀ q : Nat, s.heap.size ≤ q → A q := fun q h => by rw [← hAe]; exact Or.inr h
  have hS : va_S A s.heap s.heap [] := va_S.rf
  have hl := lv_entry ([.ref ax, .int v1, .int v2, .ref ab]) (n := 5) (Nat.le_of_ble_eq_true rfl)
  refine W.eq (congrArg (fun a => entryFrame m a 5) hargs) ?_
  rw [lg_entry_eq]
  generalize (lg_sl ([.ref ax, .int v1, .int v2, .ref ab]) ++ List.replicate (5 - (lg_sl ([.ref ax, .int v1, .int v2, .ref ab])).length) Slot.unset).toArray = ls at hl ⊢
  have hl : lv_has ls 5 [(0, .ref ax), (1, .int v1), (2, .int v2), (3, .ref ab)] := hl
  generalize hH0 : ([] : List Loc) = locs at hS ⊢
  have hI := hR.symm
  rw [F_lineW] at hI
  refine lv_aload_n hx hb d_Law_line_0 rfl (lv_at hl 3 rfl) ?_
  refine lv_iconst (v := 0) hx hb d_Law_line_1 (by decide) ?_
  refine lv_aload_n hx hb d_Law_line_2 rfl (lv_at hl 0 rfl) ?_
  refine lv_iload_n hx hb d_Law_line_3 rfl (lv_at hl 1 rfl) ?_
  refine lv_iload_n hx hb d_Law_line_4 rfl (lv_at hl 2 rfl) ?_
  obtain ⟨p_5, hg_5, hI⟩ := ob_bd hI
  have hPc := hP.sub (ws' := [(ax, .inr (0, [.int zx_nodeBits, .int zx_lineBits, .ref ax_lessEnd, .ref ax_moreEnd, .ref ax_web, .ref ax_planeTest, .ref ax_palette, .ref ax_desk])), (ax_lessEnd, .inl (kx_lessEnd, 24, .inl zx_lessEnd)), (ax_moreEnd, .inl (kx_moreEnd, 24, .inl zx_moreEnd))]) [0, 1, 2] rfl
  have hDc := hD.sub (ws' := [(ax, .inr (0, [.int zx_nodeBits, .int zx_lineBits, .ref ax_lessEnd, .ref ax_moreEnd, .ref ax_web, .ref ax_planeTest, .ref ax_palette, .ref ax_desk])), (ax_lessEnd, .inl (kx_lessEnd, 24, .inl zx_lessEnd)), (ax_moreEnd, .inl (kx_moreEnd, 24, .inl zx_moreEnd))]) [0, 1, 2] (by decide) rfl
  have hKc := hK.sub (tys' := [(kx_lessEnd, .int), (kx_moreEnd, .int)]) [0, 1] rfl
  have hFc := va_free (wc := [(ax, .inr (0, [.int zx_nodeBits, .int zx_lineBits, .ref ax_lessEnd, .ref ax_moreEnd, .ref ax_web, .ref ax_planeTest, .ref ax_palette, .ref ax_desk])), (ax_lessEnd, .inl (kx_lessEnd, 24, .inl zx_lessEnd)), (ax_moreEnd, .inl (kx_moreEnd, 24, .inl zx_moreEnd))]) hD hS hA [0, 1, 2] rfl
  have hok := og_keep hO hlo hAe hS
  refine x_calli (As := [.int v1, .int v2]) (rest := [.int 0, .ref ab]) ⟨hx, hb, hml, hown, hts⟩ (c_lineT l hfl s0 h0 dC dI s.heap.size ax ax_lessEnd ax_moreEnd ax_web ax_planeTest ax_palette ax_desk kx_lessEnd kx_moreEnd zx_nodeBits zx_lineBits zx_lessEnd zx_moreEnd v1 v2 p_5 hg_5) (cwV 2 hts (gi4 mw_2_214 mw_2_215 mw_2_216 mw_1_1 mw_2_217) rfl rfl rfl (by decide +kernel) ⟨Nat.le_of_ble_eq_true rfl, Nat.le_of_ble_eq_true rfl⟩) ⟨fbx_, va_recv (q0 := 0) (ci := 0) hK hP rfl rfl, prex_ hPc hKc hDc hN hO.1 hok.1 hok.2 (List.forall_mem_cons.mpr ⟨lo_x, List.forall_mem_cons.mpr ⟨lo_x_lessEnd, List.forall_mem_cons.mpr ⟨lo_x_moreEnd, fun _ h => absurd h List.not_mem_nil⟩⟩⟩)⟩ rfl hl.1 rfl (lv_room (Nat.le_of_ble_eq_true rfl)) d_Law_line_5 ⟨Nat.le_of_ble_eq_true rfl, Nat.le_of_ble_eq_true rfl⟩ hS (fun q _ h => hFc q h) hFc (fun q _ h => hFc q h) (fun E ce q9 u t T9 locs hal hBX hh9 hz1 hk1 hS hce hcv hcl X9 => ?_) (fun r_5 u t H locs ht hvm hp_5 hB hz1 hk1 hS => ?_)
  · skip
    obtain ⟨wx_lineBits_5, wx_lessEnd_5, wx_moreEnd_5⟩ := u
    obtain ⟨hpx, hPx, -, hDx⟩ := hBX
    have hpx : (E = "java/util/NoSuchElementException" ∧ ((3 : Nat), (0 : Int32), wx_lineBits_5, wx_lessEnd_5, wx_moreEnd_5) = p_5) ∨ (E = "java/lang/IllegalArgumentException" ∧ ((4 : Nat), (0 : Int32), wx_lineBits_5, wx_lessEnd_5, wx_moreEnd_5) = p_5) ∨ (E = "java/lang/IllegalStateException" ∧ ((2 : Nat), (0 : Int32), wx_lineBits_5, wx_lessEnd_5, wx_moreEnd_5) = p_5) := hpx
    obtain ⟨hP, hD⟩ := va_join (wr := [(ab, .inl (kb, 1, .inr (.inl zb)))]) (w1 := [(ax, .inr (0, [.int zx_nodeBits, .int wx_lineBits_5, .ref ax_lessEnd, .ref ax_moreEnd, .ref ax_web, .ref ax_planeTest, .ref ax_palette, .ref ax_desk])), (ax_lessEnd, .inl (kx_lessEnd, 24, .inl wx_lessEnd_5)), (ax_moreEnd, .inl (kx_moreEnd, 24, .inl wx_moreEnd_5))]) hP hD [0, 1, 2] [3] rfl rfl (by decide) (by decide) hk1 hFc hPx hDx
    have hP : va_P (dC, dI) classes [(ab, .inl (kb, 1, .inr (.inl zb))), (ax, .inr (0, [.int zx_nodeBits, .int wx_lineBits_5, .ref ax_lessEnd, .ref ax_moreEnd, .ref ax_web, .ref ax_planeTest, .ref ax_palette, .ref ax_desk])), (ax_lessEnd, .inl (kx_lessEnd, 24, .inl wx_lessEnd_5)), (ax_moreEnd, .inl (kx_moreEnd, 24, .inl wx_moreEnd_5))] t.heap := hP
    have hD : va_D A [(ab, .inl (kb, 1, .inr (.inl zb))), (ax, .inr (0, [.int zx_nodeBits, .int wx_lineBits_5, .ref ax_lessEnd, .ref ax_moreEnd, .ref ax_web, .ref ax_planeTest, .ref ax_palette, .ref ax_desk])), (ax_lessEnd, .inl (kx_lessEnd, 24, .inl wx_lessEnd_5)), (ax_moreEnd, .inl (kx_moreEnd, 24, .inl wx_moreEnd_5))] := hD
    rcases hpx with ⟨rfl, rfl⟩ | ⟨rfl, rfl⟩ | ⟨rfl, rfl⟩
    · skip
      have hI := hI.trans (if_neg (show ¬ (3 : Nat) = 0 by decide))
      have hI := hI.trans (if_pos (show (3 : Nat) = 3 from rfl))
      refine x_catch (own := R_Law) (name := "java/util/NoSuchElementException") (g := F0 m 5 ls [.int 0, .ref ab]) X9 rfl hown [] (⟨0, 10, 13, 21⟩ : ExceptionTableEntry) [(⟨0, 10, 17, 23⟩ : ExceptionTableEntry), (⟨0, 10, 21, 15⟩ : ExceptionTableEntry)] htab (fun _ h => absurd h List.not_mem_nil) rfl (by decide) (hts _ (List.mem_cons_of_mem _ mw_2_212)) (thr_at h0 hO (nsAtoms R_PS 84 "java/util/NoSuchElementException") (List.mem_of_getElem? (i := 2) rfl) (.castable "java/util/NoSuchElementException" "java/util/NoSuchElementException") (by decide +kernel)) (by rw [hh9]; exact hce) hcv hcl ?_
      rw [hh9]
      refine W.eq (g2 := F0 m 13 ls [.ref q9]) rfl ?_
      refine lv_astore (lv' := [(4, .ref q9), (0, .ref ax), (1, .int v1), (2, .int v2), (3, .ref ab)]) hx hb d_Law_line_13 hl (by decide) rfl (fun ls hl => ?_)
      refine lv_iconst (v := 1) hx hb d_Law_line_15 (by decide) ?_
      have hP := hP.sub (ws' := [(ax, .inr (0, [.int zx_nodeBits, .int wx_lineBits_5, .ref ax_lessEnd, .ref ax_moreEnd, .ref ax_web, .ref ax_planeTest, .ref ax_palette, .ref ax_desk])), (ax_lessEnd, .inl (kx_lessEnd, 24, .inl wx_lessEnd_5)), (ax_moreEnd, .inl (kx_moreEnd, 24, .inl wx_moreEnd_5)), (ab, .inl (kb, 1, .inr (.inl zb)))]) [1, 2, 3, 0] rfl
      have hD := hD.sub (ws' := [(ax, .inr (0, [.int zx_nodeBits, .int wx_lineBits_5, .ref ax_lessEnd, .ref ax_moreEnd, .ref ax_web, .ref ax_planeTest, .ref ax_palette, .ref ax_desk])), (ax_lessEnd, .inl (kx_lessEnd, 24, .inl wx_lessEnd_5)), (ax_moreEnd, .inl (kx_moreEnd, 24, .inl wx_moreEnd_5)), (ab, .inl (kb, 1, .inr (.inl zb)))]) [1, 2, 3, 0] (by decide) rfl
      exact W.iret (v := 1) hx hb hr (fun t ht hW => ⟨⟨1, (wx_lineBits_5, wx_lessEnd_5, wx_moreEnd_5, zb), rfl, (Option.some.inj hI).symm, by rw [ht]; exact hP, va_K.moved hW.alike hK, hD⟩, hS.F ht⟩) hS.2.2 d_Law_line_16
    · skip
      have hI := hI.trans (if_neg (show ¬ (4 : Nat) = 0 by decide))
      have hI := hI.trans (if_neg (show ¬ (4 : Nat) = 3 by decide))
      have hI := hI.trans (if_pos (show (4 : Nat) = 4 from rfl))
      refine x_catch (own := R_Law) (name := "java/lang/IllegalArgumentException") (g := F0 m 5 ls [.int 0, .ref ab]) X9 rfl hown [(⟨0, 10, 13, 21⟩ : ExceptionTableEntry)] (⟨0, 10, 17, 23⟩ : ExceptionTableEntry) [(⟨0, 10, 21, 15⟩ : ExceptionTableEntry)] htab (List.forall_mem_cons.mpr ⟨Or.inr ⟨rfl, by decide, "java/util/NoSuchElementException", hts _ (List.mem_cons_of_mem _ mw_2_212), nc_at hnc hO "java/lang/IllegalArgumentException" "java/util/NoSuchElementException" (by decide) (by decide) (by decide)⟩, fun _ h => absurd h List.not_mem_nil⟩) rfl (by decide) (hts _ (List.mem_cons_of_mem _ mw_2_213)) (thr_at h0 hO (Bundle.ownAtoms R_PS 89 "java/lang/IllegalArgumentException" ["java/lang/RuntimeException", "java/lang/Exception"]) (List.mem_of_getElem? (i := 3) rfl) (.castable "java/lang/IllegalArgumentException" "java/lang/IllegalArgumentException") (by decide +kernel)) (by rw [hh9]; exact hce) hcv hcl ?_
      rw [hh9]
      refine W.eq (g2 := F0 m 17 ls [.ref q9]) rfl ?_
      refine lv_astore (lv' := [(4, .ref q9), (0, .ref ax), (1, .int v1), (2, .int v2), (3, .ref ab)]) hx hb d_Law_line_17 hl (by decide) rfl (fun ls hl => ?_)
      refine lv_iconst (v := 2) hx hb d_Law_line_19 (by decide) ?_
      have hP := hP.sub (ws' := [(ax, .inr (0, [.int zx_nodeBits, .int wx_lineBits_5, .ref ax_lessEnd, .ref ax_moreEnd, .ref ax_web, .ref ax_planeTest, .ref ax_palette, .ref ax_desk])), (ax_lessEnd, .inl (kx_lessEnd, 24, .inl wx_lessEnd_5)), (ax_moreEnd, .inl (kx_moreEnd, 24, .inl wx_moreEnd_5)), (ab, .inl (kb, 1, .inr (.inl zb)))]) [1, 2, 3, 0] rfl
      have hD := hD.sub (ws' := [(ax, .inr (0, [.int zx_nodeBits, .int wx_lineBits_5, .ref ax_lessEnd, .ref ax_moreEnd, .ref ax_web, .ref ax_planeTest, .ref ax_palette, .ref ax_desk])), (ax_lessEnd, .inl (kx_lessEnd, 24, .inl wx_lessEnd_5)), (ax_moreEnd, .inl (kx_moreEnd, 24, .inl wx_moreEnd_5)), (ab, .inl (kb, 1, .inr (.inl zb)))]) [1, 2, 3, 0] (by decide) rfl
      exact W.iret (v := 2) hx hb hr (fun t ht hW => ⟨⟨2, (wx_lineBits_5, wx_lessEnd_5, wx_moreEnd_5, zb), rfl, (Option.some.inj hI).symm, by rw [ht]; exact hP, va_K.moved hW.alike hK, hD⟩, hS.F ht⟩) hS.2.2 d_Law_line_20
    · skip
      have hI := hI.trans (if_neg (show ¬ (2 : Nat) = 0 by decide))
      have hI := hI.trans (if_neg (show ¬ (2 : Nat) = 3 by decide))
      have hI := hI.trans (if_neg (show ¬ (2 : Nat) = 4 by decide))
      have hI := hI.trans (if_pos (show (2 : Nat) = 2 from rfl))
      refine x_catch (own := R_Law) (name := "java/lang/IllegalStateException") (g := F0 m 5 ls [.int 0, .ref ab]) X9 rfl hown [(⟨0, 10, 13, 21⟩ : ExceptionTableEntry), (⟨0, 10, 17, 23⟩ : ExceptionTableEntry)] (⟨0, 10, 21, 15⟩ : ExceptionTableEntry) [] htab (List.forall_mem_cons.mpr ⟨Or.inr ⟨rfl, by decide, "java/util/NoSuchElementException", hts _ (List.mem_cons_of_mem _ mw_2_212), nc_at hnc hO "java/lang/IllegalStateException" "java/util/NoSuchElementException" (by decide) (by decide) (by decide)⟩, List.forall_mem_cons.mpr ⟨Or.inr ⟨rfl, by decide, "java/lang/IllegalArgumentException", hts _ (List.mem_cons_of_mem _ mw_2_213), nc_at hnc hO "java/lang/IllegalStateException" "java/lang/IllegalArgumentException" (by decide) (by decide) (by decide)⟩, fun _ h => absurd h List.not_mem_nil⟩⟩) rfl (by decide) (hts _ (List.mem_cons_of_mem _ mw_2_116)) (thr_at h0 hO (Bundle.ownAtoms R_PS 70 "java/lang/IllegalStateException" ["java/lang/RuntimeException", "java/lang/Exception"]) (List.mem_of_getElem? (i := 1) rfl) (.castable "java/lang/IllegalStateException" "java/lang/IllegalStateException") (by decide +kernel)) (by rw [hh9]; exact hce) hcv hcl ?_
      rw [hh9]
      refine W.eq (g2 := F0 m 21 ls [.ref q9]) rfl ?_
      refine lv_astore (lv' := [(4, .ref q9), (0, .ref ax), (1, .int v1), (2, .int v2), (3, .ref ab)]) hx hb d_Law_line_21 hl (by decide) rfl (fun ls hl => ?_)
      refine lv_iconst (v := 3) hx hb d_Law_line_23 (by decide) ?_
      have hP := hP.sub (ws' := [(ax, .inr (0, [.int zx_nodeBits, .int wx_lineBits_5, .ref ax_lessEnd, .ref ax_moreEnd, .ref ax_web, .ref ax_planeTest, .ref ax_palette, .ref ax_desk])), (ax_lessEnd, .inl (kx_lessEnd, 24, .inl wx_lessEnd_5)), (ax_moreEnd, .inl (kx_moreEnd, 24, .inl wx_moreEnd_5)), (ab, .inl (kb, 1, .inr (.inl zb)))]) [1, 2, 3, 0] rfl
      have hD := hD.sub (ws' := [(ax, .inr (0, [.int zx_nodeBits, .int wx_lineBits_5, .ref ax_lessEnd, .ref ax_moreEnd, .ref ax_web, .ref ax_planeTest, .ref ax_palette, .ref ax_desk])), (ax_lessEnd, .inl (kx_lessEnd, 24, .inl wx_lessEnd_5)), (ax_moreEnd, .inl (kx_moreEnd, 24, .inl wx_moreEnd_5)), (ab, .inl (kb, 1, .inr (.inl zb)))]) [1, 2, 3, 0] (by decide) rfl
      exact W.iret (v := 3) hx hb hr (fun t ht hW => ⟨⟨3, (wx_lineBits_5, wx_lessEnd_5, wx_moreEnd_5, zb), rfl, (Option.some.inj hI).symm, by rw [ht]; exact hP, va_K.moved hW.alike hK, hD⟩, hS.F ht⟩) hS.2.2 d_Law_line_24
  · skip
    obtain ⟨wx_lineBits_5, wx_lessEnd_5, wx_moreEnd_5⟩ := u
    have hp_5 : ((0 : Nat), r_5, wx_lineBits_5, wx_lessEnd_5, wx_moreEnd_5) = p_5 := hp_5
    subst hp_5
    have hI := hI.trans (if_pos (show (0 : Nat) = 0 from rfl))
    obtain ⟨hP1, -, hD1⟩ := hB
    rw [ht] at hP1
    obtain ⟨hP, hD⟩ := va_join (wr := [(ab, .inl (kb, 1, .inr (.inl zb)))]) (w1 := [(ax, .inr (0, [.int zx_nodeBits, .int wx_lineBits_5, .ref ax_lessEnd, .ref ax_moreEnd, .ref ax_web, .ref ax_planeTest, .ref ax_palette, .ref ax_desk])), (ax_lessEnd, .inl (kx_lessEnd, 24, .inl wx_lessEnd_5)), (ax_moreEnd, .inl (kx_moreEnd, 24, .inl wx_moreEnd_5))]) hP hD [0, 1, 2] [3] rfl rfl (by decide) (by decide) hk1 hFc hP1 hD1
    have hP : va_P (dC, dI) classes [(ab, .inl (kb, 1, .inr (.inl zb))), (ax, .inr (0, [.int zx_nodeBits, .int wx_lineBits_5, .ref ax_lessEnd, .ref ax_moreEnd, .ref ax_web, .ref ax_planeTest, .ref ax_palette, .ref ax_desk])), (ax_lessEnd, .inl (kx_lessEnd, 24, .inl wx_lessEnd_5)), (ax_moreEnd, .inl (kx_moreEnd, 24, .inl wx_moreEnd_5))] H := hP
    have hD : va_D A [(ab, .inl (kb, 1, .inr (.inl zb))), (ax, .inr (0, [.int zx_nodeBits, .int wx_lineBits_5, .ref ax_lessEnd, .ref ax_moreEnd, .ref ax_web, .ref ax_planeTest, .ref ax_palette, .ref ax_desk])), (ax_lessEnd, .inl (kx_lessEnd, 24, .inl wx_lessEnd_5)), (ax_moreEnd, .inl (kx_moreEnd, 24, .inl wx_moreEnd_5))] := hD
    refine lv_i2l (v := Int32.toInt64 r_5) hx hb d_Law_line_8 rfl ?_
    refine va_last (D := (dC, dI)) hx hb hK hP hD hS 0 2 rfl rfl (by unfold vp_in; decide +kernel) d_Law_line_9 (fun H locs hP hD hS => ?_)
    rw [show Int32.toNatClampNeg 0 = 0 from rfl] at hP hD
    have hP : va_P (dC, dI) classes [(ab, .inl (kb, 1, .inr (.inl (vp_updL zb 0 (Int32.toInt64 r_5))))), (ax, .inr (0, [.int zx_nodeBits, .int wx_lineBits_5, .ref ax_lessEnd, .ref ax_moreEnd, .ref ax_web, .ref ax_planeTest, .ref ax_palette, .ref ax_desk])), (ax_lessEnd, .inl (kx_lessEnd, 24, .inl wx_lessEnd_5)), (ax_moreEnd, .inl (kx_moreEnd, 24, .inl wx_moreEnd_5))] H := hP
    have hD : va_D A [(ab, .inl (kb, 1, .inr (.inl (vp_updL zb 0 (Int32.toInt64 r_5))))), (ax, .inr (0, [.int zx_nodeBits, .int wx_lineBits_5, .ref ax_lessEnd, .ref ax_moreEnd, .ref ax_web, .ref ax_planeTest, .ref ax_palette, .ref ax_desk])), (ax_lessEnd, .inl (kx_lessEnd, 24, .inl wx_lessEnd_5)), (ax_moreEnd, .inl (kx_moreEnd, 24, .inl wx_moreEnd_5))] := hD
    refine lv_goto (tgt := 25) hx hb d_Law_line_10 rfl ?_
    refine lv_iconst (v := 0) hx hb d_Law_line_25 (by decide) ?_
    have hP := hP.sub (ws' := [(ax, .inr (0, [.int zx_nodeBits, .int wx_lineBits_5, .ref ax_lessEnd, .ref ax_moreEnd, .ref ax_web, .ref ax_planeTest, .ref ax_palette, .ref ax_desk])), (ax_lessEnd, .inl (kx_lessEnd, 24, .inl wx_lessEnd_5)), (ax_moreEnd, .inl (kx_moreEnd, 24, .inl wx_moreEnd_5)), (ab, .inl (kb, 1, .inr (.inl (vp_updL zb 0 (Int32.toInt64 r_5)))))]) [1, 2, 3, 0] rfl
    have hD := hD.sub (ws' := [(ax, .inr (0, [.int zx_nodeBits, .int wx_lineBits_5, .ref ax_lessEnd, .ref ax_moreEnd, .ref ax_web, .ref ax_planeTest, .ref ax_palette, .ref ax_desk])), (ax_lessEnd, .inl (kx_lessEnd, 24, .inl wx_lessEnd_5)), (ax_moreEnd, .inl (kx_moreEnd, 24, .inl wx_moreEnd_5)), (ab, .inl (kb, 1, .inr (.inl (vp_updL zb 0 (Int32.toInt64 r_5)))))]) [1, 2, 3, 0] (by decide) rfl
    exact W.iret (v := 0) hx hb hr (fun t ht hW => ⟨⟨0, (wx_lineBits_5, wx_lessEnd_5, wx_moreEnd_5, vp_updL zb 0 (Int32.toInt64 r_5)), rfl, (Option.some.inj hI).symm, by rw [ht]; exact hP, va_K.moved hW.alike hK, hD⟩, hS.F ht⟩) hS.2.2 d_Law_line_26
set_option maxHeartbeats 4000000 in
set_option maxRecDepth 100000 in
theorem c_cutW (l : Launch) (hfl : l.stackTraces = false) (s0 : State) (h0 : T0 s0) (hnc : NC s0) (dC : Nat → ClassId) (dI : Nat → Nat → Nat) (sz : Nat) (ax ab ax_lessEnd ax_moreEnd ax_web ax_planeTest ax_palette ax_desk : Nat) (kb : ClassId) (zx_nodeBits : Int32) (zx_lineBits : Int32) (zb : Nat → Int64) (v1 : Int32) (R : Int32 × Int32 × (Nat → Int64)) (hR : F_cutW zx_lineBits zb v1 = some R) : Met l y_Law_cut w_Law_cut ({ frames := 7, cells := 1, slots := 6, locals := 111 }) (PreX_ s0 dC dI sz [.ref ax, .int v1, .ref ab] [(ax, .inr (0, [.int zx_nodeBits, .int zx_lineBits, .ref ax_lessEnd, .ref ax_moreEnd, .ref ax_web, .ref ax_planeTest, .ref ax_palette, .ref ax_desk])), (ab, .inl (kb, 1, .inr (.inl zb)))] [(kb, .long)]) (va_Qi (fun (r : Int32) (u : Int32 × (Nat → Int64)) => (r, u) = R) (fun u t => End_ dC dI (va_A [(ax, .inr (0, [.int zx_nodeBits, .int zx_lineBits, .ref ax_lessEnd, .ref ax_moreEnd, .ref ax_web, .ref ax_planeTest, .ref ax_palette, .ref ax_desk])), (ab, .inl (kb, 1, .inr (.inl zb)))] sz) [(kb, .long)] [(ax, .inr (0, [.int zx_nodeBits, .int u.1, .ref ax_lessEnd, .ref ax_moreEnd, .ref ax_web, .ref ax_planeTest, .ref ax_palette, .ref ax_desk])), (ab, .inl (kb, 1, .inr (.inl u.2)))] t) (va_A [(ax, .inr (0, [.int zx_nodeBits, .int zx_lineBits, .ref ax_lessEnd, .ref ax_moreEnd, .ref ax_web, .ref ax_planeTest, .ref ax_palette, .ref ax_desk])), (ab, .inl (kb, 1, .inr (.inl zb)))] sz)) 1 6 (va_A [(ax, .inr (0, [.int zx_nodeBits, .int zx_lineBits, .ref ax_lessEnd, .ref ax_moreEnd, .ref ax_web, .ref ax_planeTest, .ref ax_palette, .ref ax_desk])), (ab, .inl (kb, 1, .inr (.inl zb)))] sz) := by
  refine va_MetW (cc := b_Law_cut) (maxL := 4) (ret := (some .int)) (by decide) rfl ?_
  intro p e s m args below meth c s₁ B hml hv
  have htab := x_tab B (atoms_spec (ws := w_Law_cut) B.pre _ List.mem_cons_self)
  obtain ⟨hargs9, hsz9, hP9, hK9, hD9, hN9, hO, hlo⟩ := hv
  have hv : Pre_ dC dI sz [.ref ax, .int v1, .ref ab] [(ax, .inr (0, [.int zx_nodeBits, .int zx_lineBits, .ref ax_lessEnd, .ref ax_moreEnd, .ref ax_web, .ref ax_planeTest, .ref ax_palette, .ref ax_desk])), (ab, .inl (kb, 1, .inr (.inl zb)))] [(kb, .long)] args s := ⟨hargs9, hsz9, hP9, hK9, hD9, hN9⟩
  have lo_x : s0.heap.size ≤ ax := hlo (ax, .inr (0, [.int zx_nodeBits, .int zx_lineBits, .ref ax_lessEnd, .ref ax_moreEnd, .ref ax_web, .ref ax_planeTest, .ref ax_palette, .ref ax_desk])) (List.mem_of_getElem? (i := 0) rfl)
  have lo_b : s0.heap.size ≤ ab := hlo (ab, .inl (kb, 1, .inr (.inl zb))) (List.mem_of_getElem? (i := 1) rfl)
  obtain ⟨hargs, hsz, hP, hK, hD0, hN⟩ := hv
  have hx := B.exec
  have hb := B.bytes
  have hr := B.returns
  have hts := atoms_spec (ws := w_Law_cut) B.pre
  have hown : s.vm.findClass R_Law = some m.cls := findClass_of_methodNamed B.named
  have hlocks := B.notSynchronized
  subst hsz
  have hD := hD0.self (sz := s.heap.size)
  generalize hAe : va_A [(ax, .inr (0, [.int zx_nodeBits, .int zx_lineBits, .ref ax_lessEnd, .ref ax_moreEnd, .ref ax_web, .ref ax_planeTest, .ref ax_palette, .ref ax_desk])), (ab, .inl (kb, 1, .inr (.inl zb)))] s.heap.size = A at hD ⊢
  have hA : ∀ q : Nat, s.heap.size ≤ q → A q := fun q h => by rw [← hAe]; exact Or.inr h
  have hS : va_S A s.heap s.heap [] := va_S.rf
  have hl := lv_entry ([.ref ax, .int v1, .ref ab]) (n := 4) (Nat.le_of_ble_eq_true rfl)
  refine W.eq (congrArg (fun a => entryFrame m a 4) hargs) ?_
  rw [lg_entry_eq]
  generalize (lg_sl ([.ref ax, .int v1, .ref ab]) ++ List.replicate (4 - (lg_sl ([.ref ax, .int v1, .ref ab])).length) Slot.unset).toArray = ls at hl ⊢
  have hl : lv_has ls 4 [(0, .ref ax), (1, .int v1), (2, .ref ab)] := hl
  generalize hH0 : ([] : List Loc) = locs at hS ⊢
  have hI := hR.symm
  rw [F_cutW] at hI
  refine lv_aload_n hx hb d_Law_cut_0 rfl (lv_at hl 2 rfl) ?_
  refine lv_iconst (v := 0) hx hb d_Law_cut_1 (by decide) ?_
  refine lv_aload_n hx hb d_Law_cut_2 rfl (lv_at hl 0 rfl) ?_
  refine lv_iload_n hx hb d_Law_cut_3 rfl (lv_at hl 1 rfl) ?_
  obtain ⟨p_4, hg_4, hI⟩ := ob_bd hI
  have hPc := hP.sub (ws' := [(ax, .inr (0, [.int zx_nodeBits, .int zx_lineBits, .ref ax_lessEnd, .ref ax_moreEnd, .ref ax_web, .ref ax_planeTest, .ref ax_palette, .ref ax_desk]))]) [0] rfl
  have hDc := hD.sub (ws' := [(ax, .inr (0, [.int zx_nodeBits, .int zx_lineBits, .ref ax_lessEnd, .ref ax_moreEnd, .ref ax_web, .ref ax_planeTest, .ref ax_palette, .ref ax_desk]))]) [0] (by decide) rfl
  have hKc := hK.sub (tys' := []) [] rfl
  have hFc := va_free (wc := [(ax, .inr (0, [.int zx_nodeBits, .int zx_lineBits, .ref ax_lessEnd, .ref ax_moreEnd, .ref ax_web, .ref ax_planeTest, .ref ax_palette, .ref ax_desk]))]) hD hS hA [0] rfl
  have hok := og_keep hO hlo hAe hS
  refine x_calli (As := [.int v1]) (rest := [.int 0, .ref ab]) ⟨hx, hb, hml, hown, hts⟩ (c_cutT l hfl s0 h0 dC dI s.heap.size ax ax_lessEnd ax_moreEnd ax_web ax_planeTest ax_palette ax_desk zx_nodeBits zx_lineBits v1 p_4 hg_4) (cwV 1 hts (gi4 mw_3_24 mw_3_25 mw_3_26 mw_1_1 mw_3_27) rfl rfl rfl (by decide +kernel) ⟨Nat.le_of_ble_eq_true rfl, Nat.le_of_ble_eq_true rfl⟩) ⟨fbx_, va_recv (q0 := 0) (ci := 0) hK hP rfl rfl, prex_ hPc hKc hDc hN hO.1 hok.1 hok.2 (List.forall_mem_cons.mpr ⟨lo_x, fun _ h => absurd h List.not_mem_nil⟩)⟩ rfl hl.1 rfl (lv_room (Nat.le_of_ble_eq_true rfl)) d_Law_cut_4 ⟨Nat.le_of_ble_eq_true rfl, Nat.le_of_ble_eq_true rfl⟩ hS (fun q _ h => hFc q h) hFc (fun q _ h => hFc q h) (fun E ce q9 wx_lineBits_4 t T9 locs hal hBX hh9 hz1 hk1 hS hce hcv hcl X9 => ?_) (fun r_4 wx_lineBits_4 t H locs ht hvm hp_4 hB hz1 hk1 hS => ?_)
  · skip
    obtain ⟨hpx, hPx, -, hDx⟩ := hBX
    have hpx : (E = "java/util/NoSuchElementException" ∧ ((3 : Nat), (0 : Int32), wx_lineBits_4) = p_4) := hpx
    obtain ⟨hP, hD⟩ := va_join (wr := [(ab, .inl (kb, 1, .inr (.inl zb)))]) (w1 := [(ax, .inr (0, [.int zx_nodeBits, .int wx_lineBits_4, .ref ax_lessEnd, .ref ax_moreEnd, .ref ax_web, .ref ax_planeTest, .ref ax_palette, .ref ax_desk]))]) hP hD [0] [1] rfl rfl (by decide) (by decide) hk1 hFc hPx hDx
    have hP : va_P (dC, dI) classes [(ab, .inl (kb, 1, .inr (.inl zb))), (ax, .inr (0, [.int zx_nodeBits, .int wx_lineBits_4, .ref ax_lessEnd, .ref ax_moreEnd, .ref ax_web, .ref ax_planeTest, .ref ax_palette, .ref ax_desk]))] t.heap := hP
    have hD : va_D A [(ab, .inl (kb, 1, .inr (.inl zb))), (ax, .inr (0, [.int zx_nodeBits, .int wx_lineBits_4, .ref ax_lessEnd, .ref ax_moreEnd, .ref ax_web, .ref ax_planeTest, .ref ax_palette, .ref ax_desk]))] := hD
    rcases hpx with ⟨rfl, rfl⟩
    · skip
      have hI := hI.trans (if_neg (show ¬ (3 : Nat) = 0 by decide))
      have hI := hI.trans (if_pos (show (3 : Nat) = 3 from rfl))
      refine x_catch (own := R_Law) (name := "java/util/NoSuchElementException") (g := F0 m 4 ls [.int 0, .ref ab]) X9 rfl hown [] (⟨0, 9, 12, 21⟩ : ExceptionTableEntry) [] htab (fun _ h => absurd h List.not_mem_nil) rfl (by decide) (hts _ (List.mem_cons_of_mem _ mw_2_212)) (thr_at h0 hO (nsAtoms R_PS 84 "java/util/NoSuchElementException") (List.mem_of_getElem? (i := 2) rfl) (.castable "java/util/NoSuchElementException" "java/util/NoSuchElementException") (by decide +kernel)) (by rw [hh9]; exact hce) hcv hcl ?_
      rw [hh9]
      refine W.eq (g2 := F0 m 12 ls [.ref q9]) rfl ?_
      refine lv_astore_n (lv' := [(3, .ref q9), (0, .ref ax), (1, .int v1), (2, .ref ab)]) hx hb d_Law_cut_12 rfl hl (by decide) rfl (fun ls hl => ?_)
      refine lv_iconst (v := 1) hx hb d_Law_cut_13 (by decide) ?_
      have hP := hP.sub (ws' := [(ax, .inr (0, [.int zx_nodeBits, .int wx_lineBits_4, .ref ax_lessEnd, .ref ax_moreEnd, .ref ax_web, .ref ax_planeTest, .ref ax_palette, .ref ax_desk])), (ab, .inl (kb, 1, .inr (.inl zb)))]) [1, 0] rfl
      have hD := hD.sub (ws' := [(ax, .inr (0, [.int zx_nodeBits, .int wx_lineBits_4, .ref ax_lessEnd, .ref ax_moreEnd, .ref ax_web, .ref ax_planeTest, .ref ax_palette, .ref ax_desk])), (ab, .inl (kb, 1, .inr (.inl zb)))]) [1, 0] (by decide) rfl
      exact W.iret (v := 1) hx hb hr (fun t ht hW => ⟨⟨1, (wx_lineBits_4, zb), rfl, (Option.some.inj hI).symm, by rw [ht]; exact hP, va_K.moved hW.alike hK, hD⟩, hS.F ht⟩) hS.2.2 d_Law_cut_14
  · skip
    have hp_4 : ((0 : Nat), r_4, wx_lineBits_4) = p_4 := hp_4
    subst hp_4
    have hI := hI.trans (if_pos (show (0 : Nat) = 0 from rfl))
    obtain ⟨hP1, -, hD1⟩ := hB
    rw [ht] at hP1
    obtain ⟨hP, hD⟩ := va_join (wr := [(ab, .inl (kb, 1, .inr (.inl zb)))]) (w1 := [(ax, .inr (0, [.int zx_nodeBits, .int wx_lineBits_4, .ref ax_lessEnd, .ref ax_moreEnd, .ref ax_web, .ref ax_planeTest, .ref ax_palette, .ref ax_desk]))]) hP hD [0] [1] rfl rfl (by decide) (by decide) hk1 hFc hP1 hD1
    have hP : va_P (dC, dI) classes [(ab, .inl (kb, 1, .inr (.inl zb))), (ax, .inr (0, [.int zx_nodeBits, .int wx_lineBits_4, .ref ax_lessEnd, .ref ax_moreEnd, .ref ax_web, .ref ax_planeTest, .ref ax_palette, .ref ax_desk]))] H := hP
    have hD : va_D A [(ab, .inl (kb, 1, .inr (.inl zb))), (ax, .inr (0, [.int zx_nodeBits, .int wx_lineBits_4, .ref ax_lessEnd, .ref ax_moreEnd, .ref ax_web, .ref ax_planeTest, .ref ax_palette, .ref ax_desk]))] := hD
    refine lv_i2l (v := Int32.toInt64 r_4) hx hb d_Law_cut_7 rfl ?_
    refine va_last (D := (dC, dI)) hx hb hK hP hD hS 0 0 rfl rfl (by unfold vp_in; decide +kernel) d_Law_cut_8 (fun H locs hP hD hS => ?_)
    rw [show Int32.toNatClampNeg 0 = 0 from rfl] at hP hD
    have hP : va_P (dC, dI) classes [(ab, .inl (kb, 1, .inr (.inl (vp_updL zb 0 (Int32.toInt64 r_4))))), (ax, .inr (0, [.int zx_nodeBits, .int wx_lineBits_4, .ref ax_lessEnd, .ref ax_moreEnd, .ref ax_web, .ref ax_planeTest, .ref ax_palette, .ref ax_desk]))] H := hP
    have hD : va_D A [(ab, .inl (kb, 1, .inr (.inl (vp_updL zb 0 (Int32.toInt64 r_4))))), (ax, .inr (0, [.int zx_nodeBits, .int wx_lineBits_4, .ref ax_lessEnd, .ref ax_moreEnd, .ref ax_web, .ref ax_planeTest, .ref ax_palette, .ref ax_desk]))] := hD
    refine lv_goto (tgt := 15) hx hb d_Law_cut_9 rfl ?_
    refine lv_iconst (v := 0) hx hb d_Law_cut_15 (by decide) ?_
    have hP := hP.sub (ws' := [(ax, .inr (0, [.int zx_nodeBits, .int wx_lineBits_4, .ref ax_lessEnd, .ref ax_moreEnd, .ref ax_web, .ref ax_planeTest, .ref ax_palette, .ref ax_desk])), (ab, .inl (kb, 1, .inr (.inl (vp_updL zb 0 (Int32.toInt64 r_4)))))]) [1, 0] rfl
    have hD := hD.sub (ws' := [(ax, .inr (0, [.int zx_nodeBits, .int wx_lineBits_4, .ref ax_lessEnd, .ref ax_moreEnd, .ref ax_web, .ref ax_planeTest, .ref ax_palette, .ref ax_desk])), (ab, .inl (kb, 1, .inr (.inl (vp_updL zb 0 (Int32.toInt64 r_4)))))]) [1, 0] (by decide) rfl
    exact W.iret (v := 0) hx hb hr (fun t ht hW => ⟨⟨0, (wx_lineBits_4, vp_updL zb 0 (Int32.toInt64 r_4)), rfl, (Option.some.inj hI).symm, by rw [ht]; exact hP, va_K.moved hW.alike hK, hD⟩, hS.F ht⟩) hS.2.2 d_Law_cut_16
set_option maxHeartbeats 4000000 in
set_option maxRecDepth 100000 in
theorem c_dropW (l : Launch) (hfl : l.stackTraces = false) (s0 : State) (h0 : T0 s0) (hnc : NC s0) (dC : Nat → ClassId) (dI : Nat → Nat → Nat) (sz : Nat) (ax ab ax_lessEnd ax_moreEnd ax_web ax_planeTest ax_palette ax_desk : Nat) (kx_lessEnd kx_moreEnd kb : ClassId) (zx_nodeBits : Int32) (zx_lineBits : Int32) (zx_lessEnd : Nat → Int32) (zx_moreEnd : Nat → Int32) (zb : Nat → Int64) (v1 : Int32) (R : Int32 × Int32 × Int32 × (Nat → Int64)) (hR : F_dropW zx_nodeBits zx_lineBits zx_lessEnd zx_moreEnd zb v1 = some R) : Met l y_Law_drop w_Law_drop ({ frames := 7, cells := 1, slots := 6, locals := 112 }) (PreX_ s0 dC dI sz [.ref ax, .int v1, .ref ab] [(ax, .inr (0, [.int zx_nodeBits, .int zx_lineBits, .ref ax_lessEnd, .ref ax_moreEnd, .ref ax_web, .ref ax_planeTest, .ref ax_palette, .ref ax_desk])), (ax_lessEnd, .inl (kx_lessEnd, 24, .inl zx_lessEnd)), (ax_moreEnd, .inl (kx_moreEnd, 24, .inl zx_moreEnd)), (ab, .inl (kb, 1, .inr (.inl zb)))] [(kx_lessEnd, .int), (kx_moreEnd, .int), (kb, .long)]) (va_Qi (fun (r : Int32) (u : Int32 × Int32 × (Nat → Int64)) => (r, u) = R) (fun u t => End_ dC dI (va_A [(ax, .inr (0, [.int zx_nodeBits, .int zx_lineBits, .ref ax_lessEnd, .ref ax_moreEnd, .ref ax_web, .ref ax_planeTest, .ref ax_palette, .ref ax_desk])), (ax_lessEnd, .inl (kx_lessEnd, 24, .inl zx_lessEnd)), (ax_moreEnd, .inl (kx_moreEnd, 24, .inl zx_moreEnd)), (ab, .inl (kb, 1, .inr (.inl zb)))] sz) [(kx_lessEnd, .int), (kx_moreEnd, .int), (kb, .long)] [(ax, .inr (0, [.int u.1, .int u.2.1, .ref ax_lessEnd, .ref ax_moreEnd, .ref ax_web, .ref ax_planeTest, .ref ax_palette, .ref ax_desk])), (ax_lessEnd, .inl (kx_lessEnd, 24, .inl zx_lessEnd)), (ax_moreEnd, .inl (kx_moreEnd, 24, .inl zx_moreEnd)), (ab, .inl (kb, 1, .inr (.inl u.2.2)))] t) (va_A [(ax, .inr (0, [.int zx_nodeBits, .int zx_lineBits, .ref ax_lessEnd, .ref ax_moreEnd, .ref ax_web, .ref ax_planeTest, .ref ax_palette, .ref ax_desk])), (ax_lessEnd, .inl (kx_lessEnd, 24, .inl zx_lessEnd)), (ax_moreEnd, .inl (kx_moreEnd, 24, .inl zx_moreEnd)), (ab, .inl (kb, 1, .inr (.inl zb)))] sz)) 1 6 (va_A [(ax, .inr (0, [.int zx_nodeBits, .int zx_lineBits, .ref ax_lessEnd, .ref ax_moreEnd, .ref ax_web, .ref ax_planeTest, .ref ax_palette, .ref ax_desk])), (ax_lessEnd, .inl (kx_lessEnd, 24, .inl zx_lessEnd)), (ax_moreEnd, .inl (kx_moreEnd, 24, .inl zx_moreEnd)), (ab, .inl (kb, 1, .inr (.inl zb)))] sz) := by
  refine va_MetW (cc := b_Law_drop) (maxL := 4) (ret := (some .int)) (by decide) rfl ?_
  intro p e s m args below meth c s₁ B hml hv
  have htab := x_tab B (atoms_spec (ws := w_Law_drop) B.pre _ List.mem_cons_self)
  obtain ⟨hargs9, hsz9, hP9, hK9, hD9, hN9, hO, hlo⟩ := hv
  have hv : Pre_ dC dI sz [.ref ax, .int v1, .ref ab] [(ax, .inr (0, [.int zx_nodeBits, .int zx_lineBits, .ref ax_lessEnd, .ref ax_moreEnd, .ref ax_web, .ref ax_planeTest, .ref ax_palette, .ref ax_desk])), (ax_lessEnd, .inl (kx_lessEnd, 24, .inl zx_lessEnd)), (ax_moreEnd, .inl (kx_moreEnd, 24, .inl zx_moreEnd)), (ab, .inl (kb, 1, .inr (.inl zb)))] [(kx_lessEnd, .int), (kx_moreEnd, .int), (kb, .long)] args s := ⟨hargs9, hsz9, hP9, hK9, hD9, hN9⟩
  have lo_x : s0.heap.size ≤ ax := hlo (ax, .inr (0, [.int zx_nodeBits, .int zx_lineBits, .ref ax_lessEnd, .ref ax_moreEnd, .ref ax_web, .ref ax_planeTest, .ref ax_palette, .ref ax_desk])) (List.mem_of_getElem? (i := 0) rfl)
  have lo_x_lessEnd : s0.heap.size ≤ ax_lessEnd := hlo (ax_lessEnd, .inl (kx_lessEnd, 24, .inl zx_lessEnd)) (List.mem_of_getElem? (i := 1) rfl)
  have lo_x_moreEnd : s0.heap.size ≤ ax_moreEnd := hlo (ax_moreEnd, .inl (kx_moreEnd, 24, .inl zx_moreEnd)) (List.mem_of_getElem? (i := 2) rfl)
  have lo_b : s0.heap.size ≤ ab := hlo (ab, .inl (kb, 1, .inr (.inl zb))) (List.mem_of_getElem? (i := 3) rfl)
  obtain ⟨hargs, hsz, hP, hK, hD0, hN⟩ := hv
  have hx := B.exec
  have hb := B.bytes
  have hr := B.returns
  have hts := atoms_spec (ws := w_Law_drop) B.pre
  have hown : s.vm.findClass R_Law = some m.cls := findClass_of_methodNamed B.named
  have hlocks := B.notSynchronized
  subst hsz
  have hD := hD0.self (sz := s.heap.size)
  generalize hAe : va_A [(ax, .inr (0, [.int zx_nodeBits, .int zx_lineBits, .ref ax_lessEnd, .ref ax_moreEnd, .ref ax_web, .ref ax_planeTest, .ref ax_palette, .ref ax_desk])), (ax_lessEnd, .inl (kx_lessEnd, 24, .inl zx_lessEnd)), (ax_moreEnd, .inl (kx_moreEnd, 24, .inl zx_moreEnd)), (ab, .inl (kb, 1, .inr (.inl zb)))] s.heap.size = A at hD ⊢
  have hA : ∀ q : Nat, s.heap.size ≤ q → A q := fun q h => by rw [← hAe]; exact Or.inr h
  have hS : va_S A s.heap s.heap [] := va_S.rf
  have hl := lv_entry ([.ref ax, .int v1, .ref ab]) (n := 4) (Nat.le_of_ble_eq_true rfl)
  refine W.eq (congrArg (fun a => entryFrame m a 4) hargs) ?_
  rw [lg_entry_eq]
  generalize (lg_sl ([.ref ax, .int v1, .ref ab]) ++ List.replicate (4 - (lg_sl ([.ref ax, .int v1, .ref ab])).length) Slot.unset).toArray = ls at hl ⊢
  have hl : lv_has ls 4 [(0, .ref ax), (1, .int v1), (2, .ref ab)] := hl
  generalize hH0 : ([] : List Loc) = locs at hS ⊢
  have hI := hR.symm
  rw [F_dropW] at hI
  refine lv_aload_n hx hb d_Law_drop_0 rfl (lv_at hl 2 rfl) ?_
  refine lv_iconst (v := 0) hx hb d_Law_drop_1 (by decide) ?_
  refine lv_aload_n hx hb d_Law_drop_2 rfl (lv_at hl 0 rfl) ?_
  refine lv_iload_n hx hb d_Law_drop_3 rfl (lv_at hl 1 rfl) ?_
  obtain ⟨p_4, hg_4, hI⟩ := ob_bd hI
  have hPc := hP.sub (ws' := [(ax, .inr (0, [.int zx_nodeBits, .int zx_lineBits, .ref ax_lessEnd, .ref ax_moreEnd, .ref ax_web, .ref ax_planeTest, .ref ax_palette, .ref ax_desk])), (ax_lessEnd, .inl (kx_lessEnd, 24, .inl zx_lessEnd)), (ax_moreEnd, .inl (kx_moreEnd, 24, .inl zx_moreEnd))]) [0, 1, 2] rfl
  have hDc := hD.sub (ws' := [(ax, .inr (0, [.int zx_nodeBits, .int zx_lineBits, .ref ax_lessEnd, .ref ax_moreEnd, .ref ax_web, .ref ax_planeTest, .ref ax_palette, .ref ax_desk])), (ax_lessEnd, .inl (kx_lessEnd, 24, .inl zx_lessEnd)), (ax_moreEnd, .inl (kx_moreEnd, 24, .inl zx_moreEnd))]) [0, 1, 2] (by decide) rfl
  have hKc := hK.sub (tys' := [(kx_lessEnd, .int), (kx_moreEnd, .int)]) [0, 1] rfl
  have hFc := va_free (wc := [(ax, .inr (0, [.int zx_nodeBits, .int zx_lineBits, .ref ax_lessEnd, .ref ax_moreEnd, .ref ax_web, .ref ax_planeTest, .ref ax_palette, .ref ax_desk])), (ax_lessEnd, .inl (kx_lessEnd, 24, .inl zx_lessEnd)), (ax_moreEnd, .inl (kx_moreEnd, 24, .inl zx_moreEnd))]) hD hS hA [0, 1, 2] rfl
  have hok := og_keep hO hlo hAe hS
  refine x_calli (As := [.int v1]) (rest := [.int 0, .ref ab]) ⟨hx, hb, hml, hown, hts⟩ (c_dropT l hfl s0 h0 dC dI s.heap.size ax ax_lessEnd ax_moreEnd ax_web ax_planeTest ax_palette ax_desk kx_lessEnd kx_moreEnd zx_nodeBits zx_lineBits zx_lessEnd zx_moreEnd v1 p_4 hg_4) (cwV 1 hts (gi4 mw_3_36 mw_3_37 mw_3_38 mw_1_1 mw_3_39) rfl rfl rfl (by decide +kernel) ⟨Nat.le_of_ble_eq_true rfl, Nat.le_of_ble_eq_true rfl⟩) ⟨fbx_, va_recv (q0 := 0) (ci := 0) hK hP rfl rfl, prex_ hPc hKc hDc hN hO.1 hok.1 hok.2 (List.forall_mem_cons.mpr ⟨lo_x, List.forall_mem_cons.mpr ⟨lo_x_lessEnd, List.forall_mem_cons.mpr ⟨lo_x_moreEnd, fun _ h => absurd h List.not_mem_nil⟩⟩⟩)⟩ rfl hl.1 rfl (lv_room (Nat.le_of_ble_eq_true rfl)) d_Law_drop_4 ⟨Nat.le_of_ble_eq_true rfl, Nat.le_of_ble_eq_true rfl⟩ hS (fun q _ h => hFc q h) hFc (fun q _ h => hFc q h) (fun E ce q9 u t T9 locs hal hBX hh9 hz1 hk1 hS hce hcv hcl X9 => ?_) (fun r_4 u t H locs ht hvm hp_4 hB hz1 hk1 hS => ?_)
  · skip
    obtain ⟨wx_nodeBits_4, wx_lineBits_4⟩ := u
    obtain ⟨hpx, hPx, -, hDx⟩ := hBX
    have hpx : (E = "java/util/NoSuchElementException" ∧ ((3 : Nat), (0 : Int32), wx_nodeBits_4, wx_lineBits_4) = p_4) := hpx
    obtain ⟨hP, hD⟩ := va_join (wr := [(ab, .inl (kb, 1, .inr (.inl zb)))]) (w1 := [(ax, .inr (0, [.int wx_nodeBits_4, .int wx_lineBits_4, .ref ax_lessEnd, .ref ax_moreEnd, .ref ax_web, .ref ax_planeTest, .ref ax_palette, .ref ax_desk])), (ax_lessEnd, .inl (kx_lessEnd, 24, .inl zx_lessEnd)), (ax_moreEnd, .inl (kx_moreEnd, 24, .inl zx_moreEnd))]) hP hD [0, 1, 2] [3] rfl rfl (by decide) (by decide) hk1 hFc hPx hDx
    have hP : va_P (dC, dI) classes [(ab, .inl (kb, 1, .inr (.inl zb))), (ax, .inr (0, [.int wx_nodeBits_4, .int wx_lineBits_4, .ref ax_lessEnd, .ref ax_moreEnd, .ref ax_web, .ref ax_planeTest, .ref ax_palette, .ref ax_desk])), (ax_lessEnd, .inl (kx_lessEnd, 24, .inl zx_lessEnd)), (ax_moreEnd, .inl (kx_moreEnd, 24, .inl zx_moreEnd))] t.heap := hP
    have hD : va_D A [(ab, .inl (kb, 1, .inr (.inl zb))), (ax, .inr (0, [.int wx_nodeBits_4, .int wx_lineBits_4, .ref ax_lessEnd, .ref ax_moreEnd, .ref ax_web, .ref ax_planeTest, .ref ax_palette, .ref ax_desk])), (ax_lessEnd, .inl (kx_lessEnd, 24, .inl zx_lessEnd)), (ax_moreEnd, .inl (kx_moreEnd, 24, .inl zx_moreEnd))] := hD
    rcases hpx with ⟨rfl, rfl⟩
    · skip
      have hI := hI.trans (if_neg (show ¬ (3 : Nat) = 0 by decide))
      have hI := hI.trans (if_pos (show (3 : Nat) = 3 from rfl))
      refine x_catch (own := R_Law) (name := "java/util/NoSuchElementException") (g := F0 m 4 ls [.int 0, .ref ab]) X9 rfl hown [] (⟨0, 9, 12, 21⟩ : ExceptionTableEntry) [] htab (fun _ h => absurd h List.not_mem_nil) rfl (by decide) (hts _ (List.mem_cons_of_mem _ mw_2_212)) (thr_at h0 hO (nsAtoms R_PS 84 "java/util/NoSuchElementException") (List.mem_of_getElem? (i := 2) rfl) (.castable "java/util/NoSuchElementException" "java/util/NoSuchElementException") (by decide +kernel)) (by rw [hh9]; exact hce) hcv hcl ?_
      rw [hh9]
      refine W.eq (g2 := F0 m 12 ls [.ref q9]) rfl ?_
      refine lv_astore_n (lv' := [(3, .ref q9), (0, .ref ax), (1, .int v1), (2, .ref ab)]) hx hb d_Law_drop_12 rfl hl (by decide) rfl (fun ls hl => ?_)
      refine lv_iconst (v := 1) hx hb d_Law_drop_13 (by decide) ?_
      have hP := hP.sub (ws' := [(ax, .inr (0, [.int wx_nodeBits_4, .int wx_lineBits_4, .ref ax_lessEnd, .ref ax_moreEnd, .ref ax_web, .ref ax_planeTest, .ref ax_palette, .ref ax_desk])), (ax_lessEnd, .inl (kx_lessEnd, 24, .inl zx_lessEnd)), (ax_moreEnd, .inl (kx_moreEnd, 24, .inl zx_moreEnd)), (ab, .inl (kb, 1, .inr (.inl zb)))]) [1, 2, 3, 0] rfl
      have hD := hD.sub (ws' := [(ax, .inr (0, [.int wx_nodeBits_4, .int wx_lineBits_4, .ref ax_lessEnd, .ref ax_moreEnd, .ref ax_web, .ref ax_planeTest, .ref ax_palette, .ref ax_desk])), (ax_lessEnd, .inl (kx_lessEnd, 24, .inl zx_lessEnd)), (ax_moreEnd, .inl (kx_moreEnd, 24, .inl zx_moreEnd)), (ab, .inl (kb, 1, .inr (.inl zb)))]) [1, 2, 3, 0] (by decide) rfl
      exact W.iret (v := 1) hx hb hr (fun t ht hW => ⟨⟨1, (wx_nodeBits_4, wx_lineBits_4, zb), rfl, (Option.some.inj hI).symm, by rw [ht]; exact hP, va_K.moved hW.alike hK, hD⟩, hS.F ht⟩) hS.2.2 d_Law_drop_14
  · skip
    obtain ⟨wx_nodeBits_4, wx_lineBits_4⟩ := u
    have hp_4 : ((0 : Nat), r_4, wx_nodeBits_4, wx_lineBits_4) = p_4 := hp_4
    subst hp_4
    have hI := hI.trans (if_pos (show (0 : Nat) = 0 from rfl))
    obtain ⟨hP1, -, hD1⟩ := hB
    rw [ht] at hP1
    obtain ⟨hP, hD⟩ := va_join (wr := [(ab, .inl (kb, 1, .inr (.inl zb)))]) (w1 := [(ax, .inr (0, [.int wx_nodeBits_4, .int wx_lineBits_4, .ref ax_lessEnd, .ref ax_moreEnd, .ref ax_web, .ref ax_planeTest, .ref ax_palette, .ref ax_desk])), (ax_lessEnd, .inl (kx_lessEnd, 24, .inl zx_lessEnd)), (ax_moreEnd, .inl (kx_moreEnd, 24, .inl zx_moreEnd))]) hP hD [0, 1, 2] [3] rfl rfl (by decide) (by decide) hk1 hFc hP1 hD1
    have hP : va_P (dC, dI) classes [(ab, .inl (kb, 1, .inr (.inl zb))), (ax, .inr (0, [.int wx_nodeBits_4, .int wx_lineBits_4, .ref ax_lessEnd, .ref ax_moreEnd, .ref ax_web, .ref ax_planeTest, .ref ax_palette, .ref ax_desk])), (ax_lessEnd, .inl (kx_lessEnd, 24, .inl zx_lessEnd)), (ax_moreEnd, .inl (kx_moreEnd, 24, .inl zx_moreEnd))] H := hP
    have hD : va_D A [(ab, .inl (kb, 1, .inr (.inl zb))), (ax, .inr (0, [.int wx_nodeBits_4, .int wx_lineBits_4, .ref ax_lessEnd, .ref ax_moreEnd, .ref ax_web, .ref ax_planeTest, .ref ax_palette, .ref ax_desk])), (ax_lessEnd, .inl (kx_lessEnd, 24, .inl zx_lessEnd)), (ax_moreEnd, .inl (kx_moreEnd, 24, .inl zx_moreEnd))] := hD
    refine lv_i2l (v := Int32.toInt64 r_4) hx hb d_Law_drop_7 rfl ?_
    refine va_last (D := (dC, dI)) hx hb hK hP hD hS 0 2 rfl rfl (by unfold vp_in; decide +kernel) d_Law_drop_8 (fun H locs hP hD hS => ?_)
    rw [show Int32.toNatClampNeg 0 = 0 from rfl] at hP hD
    have hP : va_P (dC, dI) classes [(ab, .inl (kb, 1, .inr (.inl (vp_updL zb 0 (Int32.toInt64 r_4))))), (ax, .inr (0, [.int wx_nodeBits_4, .int wx_lineBits_4, .ref ax_lessEnd, .ref ax_moreEnd, .ref ax_web, .ref ax_planeTest, .ref ax_palette, .ref ax_desk])), (ax_lessEnd, .inl (kx_lessEnd, 24, .inl zx_lessEnd)), (ax_moreEnd, .inl (kx_moreEnd, 24, .inl zx_moreEnd))] H := hP
    have hD : va_D A [(ab, .inl (kb, 1, .inr (.inl (vp_updL zb 0 (Int32.toInt64 r_4))))), (ax, .inr (0, [.int wx_nodeBits_4, .int wx_lineBits_4, .ref ax_lessEnd, .ref ax_moreEnd, .ref ax_web, .ref ax_planeTest, .ref ax_palette, .ref ax_desk])), (ax_lessEnd, .inl (kx_lessEnd, 24, .inl zx_lessEnd)), (ax_moreEnd, .inl (kx_moreEnd, 24, .inl zx_moreEnd))] := hD
    refine lv_goto (tgt := 15) hx hb d_Law_drop_9 rfl ?_
    refine lv_iconst (v := 0) hx hb d_Law_drop_15 (by decide) ?_
    have hP := hP.sub (ws' := [(ax, .inr (0, [.int wx_nodeBits_4, .int wx_lineBits_4, .ref ax_lessEnd, .ref ax_moreEnd, .ref ax_web, .ref ax_planeTest, .ref ax_palette, .ref ax_desk])), (ax_lessEnd, .inl (kx_lessEnd, 24, .inl zx_lessEnd)), (ax_moreEnd, .inl (kx_moreEnd, 24, .inl zx_moreEnd)), (ab, .inl (kb, 1, .inr (.inl (vp_updL zb 0 (Int32.toInt64 r_4)))))]) [1, 2, 3, 0] rfl
    have hD := hD.sub (ws' := [(ax, .inr (0, [.int wx_nodeBits_4, .int wx_lineBits_4, .ref ax_lessEnd, .ref ax_moreEnd, .ref ax_web, .ref ax_planeTest, .ref ax_palette, .ref ax_desk])), (ax_lessEnd, .inl (kx_lessEnd, 24, .inl zx_lessEnd)), (ax_moreEnd, .inl (kx_moreEnd, 24, .inl zx_moreEnd)), (ab, .inl (kb, 1, .inr (.inl (vp_updL zb 0 (Int32.toInt64 r_4)))))]) [1, 2, 3, 0] (by decide) rfl
    exact W.iret (v := 0) hx hb hr (fun t ht hW => ⟨⟨0, (wx_nodeBits_4, wx_lineBits_4, vp_updL zb 0 (Int32.toInt64 r_4)), rfl, (Option.some.inj hI).symm, by rw [ht]; exact hP, va_K.moved hW.alike hK, hD⟩, hS.F ht⟩) hS.2.2 d_Law_drop_16
set_option maxHeartbeats 4000000 in
set_option maxRecDepth 100000 in
theorem c_endW (l : Launch) (hfl : l.stackTraces = false) (s0 : State) (h0 : T0 s0) (hnc : NC s0) (dC : Nat → ClassId) (dI : Nat → Nat → Nat) (sz : Nat) (ax ab ax_lessEnd ax_moreEnd ax_web ax_planeTest ax_palette ax_desk : Nat) (kx_lessEnd kx_moreEnd kb : ClassId) (zx_nodeBits : Int32) (zx_lineBits : Int32) (zx_lessEnd : Nat → Int32) (zx_moreEnd : Nat → Int32) (zb : Nat → Int64) (v1 v2 : Int32) (R : Int32 × (Nat → Int64)) (hR : F_endW zx_lineBits zx_lessEnd zx_moreEnd zb v1 v2 = some R) : Met l y_Law_end w_Law_end ({ frames := 7, cells := 1, slots := 6, locals := 112 }) (PreX_ s0 dC dI sz [.ref ax, .int v1, .int v2, .ref ab] [(ax, .inr (0, [.int zx_nodeBits, .int zx_lineBits, .ref ax_lessEnd, .ref ax_moreEnd, .ref ax_web, .ref ax_planeTest, .ref ax_palette, .ref ax_desk])), (ax_lessEnd, .inl (kx_lessEnd, 24, .inl zx_lessEnd)), (ax_moreEnd, .inl (kx_moreEnd, 24, .inl zx_moreEnd)), (ab, .inl (kb, 1, .inr (.inl zb)))] [(kx_lessEnd, .int), (kx_moreEnd, .int), (kb, .long)]) (va_Qi (fun (r : Int32) (u : (Nat → Int64)) => (r, u) = R) (fun u t => End_ dC dI (va_A [(ax, .inr (0, [.int zx_nodeBits, .int zx_lineBits, .ref ax_lessEnd, .ref ax_moreEnd, .ref ax_web, .ref ax_planeTest, .ref ax_palette, .ref ax_desk])), (ax_lessEnd, .inl (kx_lessEnd, 24, .inl zx_lessEnd)), (ax_moreEnd, .inl (kx_moreEnd, 24, .inl zx_moreEnd)), (ab, .inl (kb, 1, .inr (.inl zb)))] sz) [(kx_lessEnd, .int), (kx_moreEnd, .int), (kb, .long)] [(ax, .inr (0, [.int zx_nodeBits, .int zx_lineBits, .ref ax_lessEnd, .ref ax_moreEnd, .ref ax_web, .ref ax_planeTest, .ref ax_palette, .ref ax_desk])), (ax_lessEnd, .inl (kx_lessEnd, 24, .inl zx_lessEnd)), (ax_moreEnd, .inl (kx_moreEnd, 24, .inl zx_moreEnd)), (ab, .inl (kb, 1, .inr (.inl u)))] t) (va_A [(ax, .inr (0, [.int zx_nodeBits, .int zx_lineBits, .ref ax_lessEnd, .ref ax_moreEnd, .ref ax_web, .ref ax_planeTest, .ref ax_palette, .ref ax_desk])), (ax_lessEnd, .inl (kx_lessEnd, 24, .inl zx_lessEnd)), (ax_moreEnd, .inl (kx_moreEnd, 24, .inl zx_moreEnd)), (ab, .inl (kb, 1, .inr (.inl zb)))] sz)) 1 6 (va_A [(ax, .inr (0, [.int zx_nodeBits, .int zx_lineBits, .ref ax_lessEnd, .ref ax_moreEnd, .ref ax_web, .ref ax_planeTest, .ref ax_palette, .ref ax_desk])), (ax_lessEnd, .inl (kx_lessEnd, 24, .inl zx_lessEnd)), (ax_moreEnd, .inl (kx_moreEnd, 24, .inl zx_moreEnd)), (ab, .inl (kb, 1, .inr (.inl zb)))] sz) := by
  refine va_MetW (cc := b_Law_end) (maxL := 5) (ret := (some .int)) (by decide) rfl ?_
  intro p e s m args below meth c s₁ B hml hv
  have htab := x_tab B (atoms_spec (ws := w_Law_end) B.pre _ List.mem_cons_self)
  obtain ⟨hargs9, hsz9, hP9, hK9, hD9, hN9, hO, hlo⟩ := hv
  have hv : Pre_ dC dI sz [.ref ax, .int v1, .int v2, .ref ab] [(ax, .inr (0, [.int zx_nodeBits, .int zx_lineBits, .ref ax_lessEnd, .ref ax_moreEnd, .ref ax_web, .ref ax_planeTest, .ref ax_palette, .ref ax_desk])), (ax_lessEnd, .inl (kx_lessEnd, 24, .inl zx_lessEnd)), (ax_moreEnd, .inl (kx_moreEnd, 24, .inl zx_moreEnd)), (ab, .inl (kb, 1, .inr (.inl zb)))] [(kx_lessEnd, .int), (kx_moreEnd, .int), (kb, .long)] args s := ⟨hargs9, hsz9, hP9, hK9, hD9, hN9⟩
  have lo_x : s0.heap.size ≤ ax := hlo (ax, .inr (0, [.int zx_nodeBits, .int zx_lineBits, .ref ax_lessEnd, .ref ax_moreEnd, .ref ax_web, .ref ax_planeTest, .ref ax_palette, .ref ax_desk])) (List.mem_of_getElem? (i := 0) rfl)
  have lo_x_lessEnd : s0.heap.size ≤ ax_lessEnd := hlo (ax_lessEnd, .inl (kx_lessEnd, 24, .inl zx_lessEnd)) (List.mem_of_getElem? (i := 1) rfl)
  have lo_x_moreEnd : s0.heap.size ≤ ax_moreEnd := hlo (ax_moreEnd, .inl (kx_moreEnd, 24, .inl zx_moreEnd)) (List.mem_of_getElem? (i := 2) rfl)
  have lo_b : s0.heap.size ≤ ab := hlo (ab, .inl (kb, 1, .inr (.inl zb))) (List.mem_of_getElem? (i := 3) rfl)
  obtain ⟨hargs, hsz, hP, hK, hD0, hN⟩ := hv
  have hx := B.exec
  have hb := B.bytes
  have hr := B.returns
  have hts := atoms_spec (ws := w_Law_end) B.pre
  have hown : s.vm.findClass R_Law = some m.cls := findClass_of_methodNamed B.named
  have hlocks := B.notSynchronized
  subst hsz
  have hD := hD0.self (sz := s.heap.size)
  generalize hAe : va_A [(ax, .inr (0, [.int zx_nodeBits, .int zx_lineBits, .ref ax_lessEnd, .ref ax_moreEnd, .ref ax_web, .ref ax_planeTest, .ref ax_palette, .ref ax_desk])), (ax_lessEnd, .inl (kx_lessEnd, 24, .inl zx_lessEnd)), (ax_moreEnd, .inl (kx_moreEnd, 24, .inl zx_moreEnd)), (ab, .inl (kb, 1, .inr (.inl zb)))] s.heap.size = A at hD ⊢
  have hA : ∀ q : Nat, s.heap.size ≤ q → A q := fun q h => by rw [← hAe]; exact Or.inr h
  have hS : va_S A s.heap s.heap [] := va_S.rf
  have hl := lv_entry ([.ref ax, .int v1, .int v2, .ref ab]) (n := 5) (Nat.le_of_ble_eq_true rfl)
  refine W.eq (congrArg (fun a => entryFrame m a 5) hargs) ?_
  rw [lg_entry_eq]
  generalize (lg_sl ([.ref ax, .int v1, .int v2, .ref ab]) ++ List.replicate (5 - (lg_sl ([.ref ax, .int v1, .int v2, .ref ab])).length) Slot.unset).toArray = ls at hl ⊢
  have hl : lv_has ls 5 [(0, .ref ax), (1, .int v1), (2, .int v2), (3, .ref ab)] := hl
  generalize hH0 : ([] : List Loc) = locs at hS ⊢
  have hI := hR.symm
  rw [F_endW] at hI
  refine lv_aload_n hx hb d_Law_end_0 rfl (lv_at hl 3 rfl) ?_
  refine lv_iconst (v := 0) hx hb d_Law_end_1 (by decide) ?_
  refine lv_aload_n hx hb d_Law_end_2 rfl (lv_at hl 0 rfl) ?_
  refine lv_iload_n hx hb d_Law_end_3 rfl (lv_at hl 1 rfl) ?_
  refine lv_iload_n hx hb d_Law_end_4 rfl (lv_at hl 2 rfl) ?_
  obtain ⟨p_5, hg_5, hI⟩ := ob_bd hI
  have hPc := hP.sub (ws' := [(ax, .inr (0, [.int zx_nodeBits, .int zx_lineBits, .ref ax_lessEnd, .ref ax_moreEnd, .ref ax_web, .ref ax_planeTest, .ref ax_palette, .ref ax_desk])), (ax_lessEnd, .inl (kx_lessEnd, 24, .inl zx_lessEnd)), (ax_moreEnd, .inl (kx_moreEnd, 24, .inl zx_moreEnd))]) [0, 1, 2] rfl
  have hDc := hD.sub (ws' := [(ax, .inr (0, [.int zx_nodeBits, .int zx_lineBits, .ref ax_lessEnd, .ref ax_moreEnd, .ref ax_web, .ref ax_planeTest, .ref ax_palette, .ref ax_desk])), (ax_lessEnd, .inl (kx_lessEnd, 24, .inl zx_lessEnd)), (ax_moreEnd, .inl (kx_moreEnd, 24, .inl zx_moreEnd))]) [0, 1, 2] (by decide) rfl
  have hKc := hK.sub (tys' := [(kx_lessEnd, .int), (kx_moreEnd, .int)]) [0, 1] rfl
  have hFc := va_free (wc := [(ax, .inr (0, [.int zx_nodeBits, .int zx_lineBits, .ref ax_lessEnd, .ref ax_moreEnd, .ref ax_web, .ref ax_planeTest, .ref ax_palette, .ref ax_desk])), (ax_lessEnd, .inl (kx_lessEnd, 24, .inl zx_lessEnd)), (ax_moreEnd, .inl (kx_moreEnd, 24, .inl zx_moreEnd))]) hD hS hA [0, 1, 2] rfl
  have hok := og_keep hO hlo hAe hS
  refine x_calli (As := [.int v1, .int v2]) (rest := [.int 0, .ref ab]) ⟨hx, hb, hml, hown, hts⟩ (c_endT l hfl s0 h0 dC dI s.heap.size ax ax_lessEnd ax_moreEnd ax_web ax_planeTest ax_palette ax_desk kx_lessEnd kx_moreEnd zx_nodeBits zx_lineBits zx_lessEnd zx_moreEnd v1 v2 p_5 hg_5) (cwV 2 hts (gi4 mw_3_44 mw_3_45 mw_3_46 mw_1_1 mw_3_47) rfl rfl rfl (by decide +kernel) ⟨Nat.le_of_ble_eq_true rfl, Nat.le_of_ble_eq_true rfl⟩) ⟨fbx_, va_recv (q0 := 0) (ci := 0) hK hP rfl rfl, prex_ hPc hKc hDc hN hO.1 hok.1 hok.2 (List.forall_mem_cons.mpr ⟨lo_x, List.forall_mem_cons.mpr ⟨lo_x_lessEnd, List.forall_mem_cons.mpr ⟨lo_x_moreEnd, fun _ h => absurd h List.not_mem_nil⟩⟩⟩)⟩ rfl hl.1 rfl (lv_room (Nat.le_of_ble_eq_true rfl)) d_Law_end_5 ⟨Nat.le_of_ble_eq_true rfl, Nat.le_of_ble_eq_true rfl⟩ hS (fun q _ h => hFc q h) hFc (fun q _ h => hFc q h) (fun E ce q9 u t T9 locs hal hBX hh9 hz1 hk1 hS hce hcv hcl X9 => ?_) (fun r_5 u t H locs ht hvm hp_5 hB hz1 hk1 hS => ?_)
  · skip
    obtain ⟨hpx, hPx, -, hDx⟩ := hBX
    have hpx : (E = "java/util/NoSuchElementException" ∧ ((3 : Nat), (0 : Int32)) = p_5) ∨ (E = "java/lang/IndexOutOfBoundsException" ∧ ((1 : Nat), (0 : Int32)) = p_5) := hpx
    obtain ⟨hP, hD⟩ := va_join (wr := [(ab, .inl (kb, 1, .inr (.inl zb)))]) (w1 := [(ax, .inr (0, [.int zx_nodeBits, .int zx_lineBits, .ref ax_lessEnd, .ref ax_moreEnd, .ref ax_web, .ref ax_planeTest, .ref ax_palette, .ref ax_desk])), (ax_lessEnd, .inl (kx_lessEnd, 24, .inl zx_lessEnd)), (ax_moreEnd, .inl (kx_moreEnd, 24, .inl zx_moreEnd))]) hP hD [0, 1, 2] [3] rfl rfl (by decide) (by decide) hk1 hFc hPx hDx
    have hP : va_P (dC, dI) classes [(ab, .inl (kb, 1, .inr (.inl zb))), (ax, .inr (0, [.int zx_nodeBits, .int zx_lineBits, .ref ax_lessEnd, .ref ax_moreEnd, .ref ax_web, .ref ax_planeTest, .ref ax_palette, .ref ax_desk])), (ax_lessEnd, .inl (kx_lessEnd, 24, .inl zx_lessEnd)), (ax_moreEnd, .inl (kx_moreEnd, 24, .inl zx_moreEnd))] t.heap := hP
    have hD : va_D A [(ab, .inl (kb, 1, .inr (.inl zb))), (ax, .inr (0, [.int zx_nodeBits, .int zx_lineBits, .ref ax_lessEnd, .ref ax_moreEnd, .ref ax_web, .ref ax_planeTest, .ref ax_palette, .ref ax_desk])), (ax_lessEnd, .inl (kx_lessEnd, 24, .inl zx_lessEnd)), (ax_moreEnd, .inl (kx_moreEnd, 24, .inl zx_moreEnd))] := hD
    rcases hpx with ⟨rfl, rfl⟩ | ⟨rfl, rfl⟩
    · skip
      have hI := hI.trans (if_neg (show ¬ (3 : Nat) = 0 by decide))
      have hI := hI.trans (if_pos (show (3 : Nat) = 3 from rfl))
      refine x_catch (own := R_Law) (name := "java/util/NoSuchElementException") (g := F0 m 5 ls [.int 0, .ref ab]) X9 rfl hown [] (⟨0, 10, 13, 21⟩ : ExceptionTableEntry) [(⟨0, 10, 17, 13⟩ : ExceptionTableEntry)] htab (fun _ h => absurd h List.not_mem_nil) rfl (by decide) (hts _ (List.mem_cons_of_mem _ mw_2_212)) (thr_at h0 hO (nsAtoms R_PS 84 "java/util/NoSuchElementException") (List.mem_of_getElem? (i := 2) rfl) (.castable "java/util/NoSuchElementException" "java/util/NoSuchElementException") (by decide +kernel)) (by rw [hh9]; exact hce) hcv hcl ?_
      rw [hh9]
      refine W.eq (g2 := F0 m 13 ls [.ref q9]) rfl ?_
      refine lv_astore (lv' := [(4, .ref q9), (0, .ref ax), (1, .int v1), (2, .int v2), (3, .ref ab)]) hx hb d_Law_end_13 hl (by decide) rfl (fun ls hl => ?_)
      refine lv_iconst (v := 1) hx hb d_Law_end_15 (by decide) ?_
      have hP := hP.sub (ws' := [(ax, .inr (0, [.int zx_nodeBits, .int zx_lineBits, .ref ax_lessEnd, .ref ax_moreEnd, .ref ax_web, .ref ax_planeTest, .ref ax_palette, .ref ax_desk])), (ax_lessEnd, .inl (kx_lessEnd, 24, .inl zx_lessEnd)), (ax_moreEnd, .inl (kx_moreEnd, 24, .inl zx_moreEnd)), (ab, .inl (kb, 1, .inr (.inl zb)))]) [1, 2, 3, 0] rfl
      have hD := hD.sub (ws' := [(ax, .inr (0, [.int zx_nodeBits, .int zx_lineBits, .ref ax_lessEnd, .ref ax_moreEnd, .ref ax_web, .ref ax_planeTest, .ref ax_palette, .ref ax_desk])), (ax_lessEnd, .inl (kx_lessEnd, 24, .inl zx_lessEnd)), (ax_moreEnd, .inl (kx_moreEnd, 24, .inl zx_moreEnd)), (ab, .inl (kb, 1, .inr (.inl zb)))]) [1, 2, 3, 0] (by decide) rfl
      exact W.iret (v := 1) hx hb hr (fun t ht hW => ⟨⟨1, (zb), rfl, (Option.some.inj hI).symm, by rw [ht]; exact hP, va_K.moved hW.alike hK, hD⟩, hS.F ht⟩) hS.2.2 d_Law_end_16
    · skip
      have hI := hI.trans (if_neg (show ¬ (1 : Nat) = 0 by decide))
      have hI := hI.trans (if_neg (show ¬ (1 : Nat) = 3 by decide))
      have hI := hI.trans (if_pos (show (1 : Nat) = 1 from rfl))
      refine x_catch (own := R_Law) (name := "java/lang/IndexOutOfBoundsException") (g := F0 m 5 ls [.int 0, .ref ab]) X9 rfl hown [(⟨0, 10, 13, 21⟩ : ExceptionTableEntry)] (⟨0, 10, 17, 13⟩ : ExceptionTableEntry) [] htab (List.forall_mem_cons.mpr ⟨Or.inr ⟨rfl, by decide, "java/util/NoSuchElementException", hts _ (List.mem_cons_of_mem _ mw_2_212), nc_at hnc hO "java/lang/IndexOutOfBoundsException" "java/util/NoSuchElementException" (by decide) (by decide) (by decide)⟩, fun _ h => absurd h List.not_mem_nil⟩) rfl (by decide) (hts _ (List.mem_cons_of_mem _ mw_2_115)) (thr_at h0 hO (Bundle.ownAtoms R_PS 59 "java/lang/IndexOutOfBoundsException" ["java/lang/RuntimeException", "java/lang/Exception"]) (List.mem_of_getElem? (i := 0) rfl) (.castable "java/lang/IndexOutOfBoundsException" "java/lang/IndexOutOfBoundsException") (by decide +kernel)) (by rw [hh9]; exact hce) hcv hcl ?_
      rw [hh9]
      refine W.eq (g2 := F0 m 17 ls [.ref q9]) rfl ?_
      refine lv_astore (lv' := [(4, .ref q9), (0, .ref ax), (1, .int v1), (2, .int v2), (3, .ref ab)]) hx hb d_Law_end_17 hl (by decide) rfl (fun ls hl => ?_)
      refine lv_iconst (v := 2) hx hb d_Law_end_19 (by decide) ?_
      have hP := hP.sub (ws' := [(ax, .inr (0, [.int zx_nodeBits, .int zx_lineBits, .ref ax_lessEnd, .ref ax_moreEnd, .ref ax_web, .ref ax_planeTest, .ref ax_palette, .ref ax_desk])), (ax_lessEnd, .inl (kx_lessEnd, 24, .inl zx_lessEnd)), (ax_moreEnd, .inl (kx_moreEnd, 24, .inl zx_moreEnd)), (ab, .inl (kb, 1, .inr (.inl zb)))]) [1, 2, 3, 0] rfl
      have hD := hD.sub (ws' := [(ax, .inr (0, [.int zx_nodeBits, .int zx_lineBits, .ref ax_lessEnd, .ref ax_moreEnd, .ref ax_web, .ref ax_planeTest, .ref ax_palette, .ref ax_desk])), (ax_lessEnd, .inl (kx_lessEnd, 24, .inl zx_lessEnd)), (ax_moreEnd, .inl (kx_moreEnd, 24, .inl zx_moreEnd)), (ab, .inl (kb, 1, .inr (.inl zb)))]) [1, 2, 3, 0] (by decide) rfl
      exact W.iret (v := 2) hx hb hr (fun t ht hW => ⟨⟨2, (zb), rfl, (Option.some.inj hI).symm, by rw [ht]; exact hP, va_K.moved hW.alike hK, hD⟩, hS.F ht⟩) hS.2.2 d_Law_end_20
  · skip
    have hp_5 : ((0 : Nat), r_5) = p_5 := hp_5
    subst hp_5
    have hI := hI.trans (if_pos (show (0 : Nat) = 0 from rfl))
    obtain ⟨hP1, -, hD1⟩ := hB
    rw [ht] at hP1
    obtain ⟨hP, hD⟩ := va_join (wr := [(ab, .inl (kb, 1, .inr (.inl zb)))]) (w1 := [(ax, .inr (0, [.int zx_nodeBits, .int zx_lineBits, .ref ax_lessEnd, .ref ax_moreEnd, .ref ax_web, .ref ax_planeTest, .ref ax_palette, .ref ax_desk])), (ax_lessEnd, .inl (kx_lessEnd, 24, .inl zx_lessEnd)), (ax_moreEnd, .inl (kx_moreEnd, 24, .inl zx_moreEnd))]) hP hD [0, 1, 2] [3] rfl rfl (by decide) (by decide) hk1 hFc hP1 hD1
    have hP : va_P (dC, dI) classes [(ab, .inl (kb, 1, .inr (.inl zb))), (ax, .inr (0, [.int zx_nodeBits, .int zx_lineBits, .ref ax_lessEnd, .ref ax_moreEnd, .ref ax_web, .ref ax_planeTest, .ref ax_palette, .ref ax_desk])), (ax_lessEnd, .inl (kx_lessEnd, 24, .inl zx_lessEnd)), (ax_moreEnd, .inl (kx_moreEnd, 24, .inl zx_moreEnd))] H := hP
    have hD : va_D A [(ab, .inl (kb, 1, .inr (.inl zb))), (ax, .inr (0, [.int zx_nodeBits, .int zx_lineBits, .ref ax_lessEnd, .ref ax_moreEnd, .ref ax_web, .ref ax_planeTest, .ref ax_palette, .ref ax_desk])), (ax_lessEnd, .inl (kx_lessEnd, 24, .inl zx_lessEnd)), (ax_moreEnd, .inl (kx_moreEnd, 24, .inl zx_moreEnd))] := hD
    refine lv_i2l (v := Int32.toInt64 r_5) hx hb d_Law_end_8 rfl ?_
    refine va_last (D := (dC, dI)) hx hb hK hP hD hS 0 2 rfl rfl (by unfold vp_in; decide +kernel) d_Law_end_9 (fun H locs hP hD hS => ?_)
    rw [show Int32.toNatClampNeg 0 = 0 from rfl] at hP hD
    have hP : va_P (dC, dI) classes [(ab, .inl (kb, 1, .inr (.inl (vp_updL zb 0 (Int32.toInt64 r_5))))), (ax, .inr (0, [.int zx_nodeBits, .int zx_lineBits, .ref ax_lessEnd, .ref ax_moreEnd, .ref ax_web, .ref ax_planeTest, .ref ax_palette, .ref ax_desk])), (ax_lessEnd, .inl (kx_lessEnd, 24, .inl zx_lessEnd)), (ax_moreEnd, .inl (kx_moreEnd, 24, .inl zx_moreEnd))] H := hP
    have hD : va_D A [(ab, .inl (kb, 1, .inr (.inl (vp_updL zb 0 (Int32.toInt64 r_5))))), (ax, .inr (0, [.int zx_nodeBits, .int zx_lineBits, .ref ax_lessEnd, .ref ax_moreEnd, .ref ax_web, .ref ax_planeTest, .ref ax_palette, .ref ax_desk])), (ax_lessEnd, .inl (kx_lessEnd, 24, .inl zx_lessEnd)), (ax_moreEnd, .inl (kx_moreEnd, 24, .inl zx_moreEnd))] := hD
    refine lv_goto (tgt := 21) hx hb d_Law_end_10 rfl ?_
    refine lv_iconst (v := 0) hx hb d_Law_end_21 (by decide) ?_
    have hP := hP.sub (ws' := [(ax, .inr (0, [.int zx_nodeBits, .int zx_lineBits, .ref ax_lessEnd, .ref ax_moreEnd, .ref ax_web, .ref ax_planeTest, .ref ax_palette, .ref ax_desk])), (ax_lessEnd, .inl (kx_lessEnd, 24, .inl zx_lessEnd)), (ax_moreEnd, .inl (kx_moreEnd, 24, .inl zx_moreEnd)), (ab, .inl (kb, 1, .inr (.inl (vp_updL zb 0 (Int32.toInt64 r_5)))))]) [1, 2, 3, 0] rfl
    have hD := hD.sub (ws' := [(ax, .inr (0, [.int zx_nodeBits, .int zx_lineBits, .ref ax_lessEnd, .ref ax_moreEnd, .ref ax_web, .ref ax_planeTest, .ref ax_palette, .ref ax_desk])), (ax_lessEnd, .inl (kx_lessEnd, 24, .inl zx_lessEnd)), (ax_moreEnd, .inl (kx_moreEnd, 24, .inl zx_moreEnd)), (ab, .inl (kb, 1, .inr (.inl (vp_updL zb 0 (Int32.toInt64 r_5)))))]) [1, 2, 3, 0] (by decide) rfl
    exact W.iret (v := 0) hx hb hr (fun t ht hW => ⟨⟨0, (vp_updL zb 0 (Int32.toInt64 r_5)), rfl, (Option.some.inj hI).symm, by rw [ht]; exact hP, va_K.moved hW.alike hK, hD⟩, hS.F ht⟩) hS.2.2 d_Law_end_22
