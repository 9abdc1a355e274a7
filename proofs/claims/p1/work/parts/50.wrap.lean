set_option maxHeartbeats 4000000 in
set_option maxRecDepth 100000 in
theorem c_wnode (l : Launch) (hfl : l.stackTraces = false) (s0 : State) (h0 : T0 s0) (hnc : NC s0) (dC : Nat → ClassId) (dI : Nat → Nat → Nat) (sz : Nat) (ax ab ax_lessEnd ax_moreEnd ax_web ax_planeTest ax_palette ax_desk : Nat) (kb : ClassId) (zb : Nat → Int64) (vi : Int32) : Met l y_Law_node w_Law_node ({ frames := 7, cells := 1, slots := 6, locals := 111 }) (PreX_ s0 dC dI sz [.ref ax, .int vi, .ref ab] [(ax, .inr (0, [.int 0, .int 0, .ref ax_lessEnd, .ref ax_moreEnd, .ref ax_web, .ref ax_planeTest, .ref ax_palette, .ref ax_desk])), (ab, .inl (kb, 1, .inr (.inl zb)))] [(kb, .long)]) (va_Qi (fun (r : Int32) (u : Int32 × (Nat → Int64)) => (f_isNN vi = 0 ∧ r = 1) ∨ (¬ f_isNN vi = 0 ∧ r = 0 ∧ u.2 0 = Int32.toInt64 (f_bc ((0 : Int32) ||| ((1 : Int32) <<< (vi &&& 31)))))) (fun u t => End_ dC dI (va_A [(ax, .inr (0, [.int 0, .int 0, .ref ax_lessEnd, .ref ax_moreEnd, .ref ax_web, .ref ax_planeTest, .ref ax_palette, .ref ax_desk])), (ab, .inl (kb, 1, .inr (.inl zb)))] sz) [(kb, .long)] [(ax, .inr (0, [.int u.1, .int 0, .ref ax_lessEnd, .ref ax_moreEnd, .ref ax_web, .ref ax_planeTest, .ref ax_palette, .ref ax_desk])), (ab, .inl (kb, 1, .inr (.inl u.2)))] t) (va_A [(ax, .inr (0, [.int 0, .int 0, .ref ax_lessEnd, .ref ax_moreEnd, .ref ax_web, .ref ax_planeTest, .ref ax_palette, .ref ax_desk])), (ab, .inl (kb, 1, .inr (.inl zb)))] sz)) 1 6 (va_A [(ax, .inr (0, [.int 0, .int 0, .ref ax_lessEnd, .ref ax_moreEnd, .ref ax_web, .ref ax_planeTest, .ref ax_palette, .ref ax_desk])), (ab, .inl (kb, 1, .inr (.inl zb)))] sz) := by
  refine va_MetW (cc := b_Law_node) (maxL := 4) (ret := (some .int)) (by decide) rfl ?_
  intro p e s m args below meth c s₁ B hml hv
  have htab := x_tab B (atoms_spec (ws := w_Law_node) B.pre _ List.mem_cons_self)
  obtain ⟨hargs9, hsz9, hP9, hK9, hD9, hN9, hO, hlo⟩ := hv
  have hv : Pre_ dC dI sz [.ref ax, .int vi, .ref ab] [(ax, .inr (0, [.int 0, .int 0, .ref ax_lessEnd, .ref ax_moreEnd, .ref ax_web, .ref ax_planeTest, .ref ax_palette, .ref ax_desk])), (ab, .inl (kb, 1, .inr (.inl zb)))] [(kb, .long)] args s := ⟨hargs9, hsz9, hP9, hK9, hD9, hN9⟩
  have lo_x : s0.heap.size ≤ ax := hlo (ax, .inr (0, [.int 0, .int 0, .ref ax_lessEnd, .ref ax_moreEnd, .ref ax_web, .ref ax_planeTest, .ref ax_palette, .ref ax_desk])) (List.mem_of_getElem? (i := 0) rfl)
  have lo_b : s0.heap.size ≤ ab := hlo (ab, .inl (kb, 1, .inr (.inl zb))) (List.mem_of_getElem? (i := 1) rfl)
  obtain ⟨hargs, hsz, hP, hK, hD0, hN⟩ := hv
  have hx := B.exec
  have hb := B.bytes
  have hr := B.returns
  have hts := atoms_spec (ws := w_Law_node) B.pre
  have hown : s.vm.findClass R_Law = some m.cls := findClass_of_methodNamed B.named
  have hlocks := B.notSynchronized
  subst hsz
  have hD := hD0.self (sz := s.heap.size)
  generalize hAe : va_A [(ax, .inr (0, [.int 0, .int 0, .ref ax_lessEnd, .ref ax_moreEnd, .ref ax_web, .ref ax_planeTest, .ref ax_palette, .ref ax_desk])), (ab, .inl (kb, 1, .inr (.inl zb)))] s.heap.size = A at hD ⊢
  have hA : ∀ q : Nat, s.heap.size ≤ q → A q := fun q h => by rw [← hAe]; exact Or.inr h
  have hS : va_S A s.heap s.heap [] := va_S.rf
  have hl := lv_entry ([.ref ax, .int vi, .ref ab]) (n := 4) (Nat.le_of_ble_eq_true rfl)
  refine W.eq (congrArg (fun a => entryFrame m a 4) hargs) ?_
  rw [lg_entry_eq]
  generalize (lg_sl ([.ref ax, .int vi, .ref ab]) ++ List.replicate (4 - (lg_sl ([.ref ax, .int vi, .ref ab])).length) Slot.unset).toArray = ls at hl ⊢
  have hl : lv_has ls 4 [(0, .ref ax), (1, .int vi), (2, .ref ab)] := hl
  generalize hH0 : ([] : List Loc) = locs at hS ⊢
  refine lv_aload_n hx hb d_Law_node_0 rfl (lv_at hl 2 rfl) ?_
  refine lv_iconst (v := 0) hx hb d_Law_node_1 (by decide) ?_
  refine lv_aload_n hx hb d_Law_node_2 rfl (lv_at hl 0 rfl) ?_
  refine lv_iload_n hx hb d_Law_node_3 rfl (lv_at hl 1 rfl) ?_
  have hPc := hP.sub (ws' := [(ax, .inr (0, [.int 0, .int 0, .ref ax_lessEnd, .ref ax_moreEnd, .ref ax_web, .ref ax_planeTest, .ref ax_palette, .ref ax_desk]))]) [0] rfl
  have hDc := hD.sub (ws' := [(ax, .inr (0, [.int 0, .int 0, .ref ax_lessEnd, .ref ax_moreEnd, .ref ax_web, .ref ax_planeTest, .ref ax_palette, .ref ax_desk]))]) [0] (by decide) rfl
  have hKc := hK.sub (tys' := []) [] rfl
  have hFc := va_free (wc := [(ax, .inr (0, [.int 0, .int 0, .ref ax_lessEnd, .ref ax_moreEnd, .ref ax_web, .ref ax_planeTest, .ref ax_palette, .ref ax_desk]))]) hD hS hA [0] rfl
  have hok := og_keep hO hlo hAe hS
  refine x_calli (As := [.int vi]) (rest := [.int 0, .ref ab]) ⟨hx, hb, hml, hown, hts⟩ (c_node0 l hfl s0 h0 dC dI s.heap.size ax ax_lessEnd ax_moreEnd ax_web ax_planeTest ax_palette ax_desk vi) (cwV 1 hts (gi4 mw_2_117 mw_2_118 mw_2_119 mw_1_1 mw_2_120) rfl rfl rfl (by decide +kernel) ⟨Nat.le_of_ble_eq_true rfl, Nat.le_of_ble_eq_true rfl⟩) ⟨fbx_, va_recv (q0 := 0) (ci := 0) hK hP rfl rfl, prex_ hPc hKc hDc hN hO.1 hok.1 hok.2 (List.forall_mem_cons.mpr ⟨lo_x, fun _ h => absurd h List.not_mem_nil⟩)⟩ rfl hl.1 rfl (lv_room (Nat.le_of_ble_eq_true rfl)) d_Law_node_4 ⟨Nat.le_of_ble_eq_true rfl, Nat.le_of_ble_eq_true rfl⟩ hS (fun q _ h => hFc q h) hFc (fun q _ h => hFc q h) (fun E ce q9 wx_nodeBits_4 t T9 locs hal hBX hh9 hz1 hk1 hS hce hcv hcl X9 => ?_) (fun r_4 wx_nodeBits_4 t H locs ht hvm hp_4 hB hz1 hk1 hS => ?_)
  · skip
    obtain ⟨hpx, hPx, -, hDx⟩ := hBX
    have hpx : E = "java/lang/IndexOutOfBoundsException" ∧ f_isNN vi = 0 := hpx
    obtain ⟨hP, hD⟩ := va_join (wr := [(ab, .inl (kb, 1, .inr (.inl zb)))]) (w1 := [(ax, .inr (0, [.int wx_nodeBits_4, .int 0, .ref ax_lessEnd, .ref ax_moreEnd, .ref ax_web, .ref ax_planeTest, .ref ax_palette, .ref ax_desk]))]) hP hD [0] [1] rfl rfl (by decide) (by decide) hk1 hFc hPx hDx
    have hP : va_P (dC, dI) classes [(ab, .inl (kb, 1, .inr (.inl zb))), (ax, .inr (0, [.int wx_nodeBits_4, .int 0, .ref ax_lessEnd, .ref ax_moreEnd, .ref ax_web, .ref ax_planeTest, .ref ax_palette, .ref ax_desk]))] t.heap := hP
    have hD : va_D A [(ab, .inl (kb, 1, .inr (.inl zb))), (ax, .inr (0, [.int wx_nodeBits_4, .int 0, .ref ax_lessEnd, .ref ax_moreEnd, .ref ax_web, .ref ax_planeTest, .ref ax_palette, .ref ax_desk]))] := hD
    rcases hpx with ⟨rfl, hq⟩
    · skip
      refine x_catch (own := R_Law) (name := "java/lang/IndexOutOfBoundsException") (g := F0 m 4 ls [.int 0, .ref ab]) X9 rfl hown [] (⟨0, 9, 12, 13⟩ : ExceptionTableEntry) [(⟨0, 9, 15, 15⟩ : ExceptionTableEntry)] htab (fun _ h => absurd h List.not_mem_nil) rfl (by decide) (hts _ (List.mem_cons_of_mem _ mw_2_115)) (thr_at h0 hO (Bundle.ownAtoms R_PS 59 "java/lang/IndexOutOfBoundsException" ["java/lang/RuntimeException", "java/lang/Exception"]) (List.mem_of_getElem? (i := 0) rfl) (.castable "java/lang/IndexOutOfBoundsException" "java/lang/IndexOutOfBoundsException") (by decide +kernel)) (by rw [hh9]; exact hce) hcv hcl ?_
      rw [hh9]
      refine W.eq (g2 := F0 m 12 ls [.ref q9]) rfl ?_
      refine lv_astore_n (lv' := [(3, .ref q9), (0, .ref ax), (1, .int vi), (2, .ref ab)]) hx hb d_Law_node_12 rfl hl (by decide) rfl (fun ls hl => ?_)
      refine lv_iconst (v := 1) hx hb d_Law_node_13 (by decide) ?_
      have hP := hP.sub (ws' := [(ax, .inr (0, [.int wx_nodeBits_4, .int 0, .ref ax_lessEnd, .ref ax_moreEnd, .ref ax_web, .ref ax_planeTest, .ref ax_palette, .ref ax_desk])), (ab, .inl (kb, 1, .inr (.inl zb)))]) [1, 0] rfl
      have hD := hD.sub (ws' := [(ax, .inr (0, [.int wx_nodeBits_4, .int 0, .ref ax_lessEnd, .ref ax_moreEnd, .ref ax_web, .ref ax_planeTest, .ref ax_palette, .ref ax_desk])), (ab, .inl (kb, 1, .inr (.inl zb)))]) [1, 0] (by decide) rfl
      exact W.iret (v := 1) hx hb hr (fun t ht hW => ⟨⟨1, (wx_nodeBits_4, zb), rfl, Or.inl ⟨hq, rfl⟩, by rw [ht]; exact hP, va_K.moved hW.alike hK, hD⟩, hS.F ht⟩) hS.2.2 d_Law_node_14
  · skip
    have hp_4 : ¬ f_isNN vi = 0 ∧ r_4 = f_bc ((0 : Int32) ||| ((1 : Int32) <<< (vi &&& 31))) := hp_4
    obtain ⟨hP1, -, hD1⟩ := hB
    rw [ht] at hP1
    obtain ⟨hP, hD⟩ := va_join (wr := [(ab, .inl (kb, 1, .inr (.inl zb)))]) (w1 := [(ax, .inr (0, [.int wx_nodeBits_4, .int 0, .ref ax_lessEnd, .ref ax_moreEnd, .ref ax_web, .ref ax_planeTest, .ref ax_palette, .ref ax_desk]))]) hP hD [0] [1] rfl rfl (by decide) (by decide) hk1 hFc hP1 hD1
    have hP : va_P (dC, dI) classes [(ab, .inl (kb, 1, .inr (.inl zb))), (ax, .inr (0, [.int wx_nodeBits_4, .int 0, .ref ax_lessEnd, .ref ax_moreEnd, .ref ax_web, .ref ax_planeTest, .ref ax_palette, .ref ax_desk]))] H := hP
    have hD : va_D A [(ab, .inl (kb, 1, .inr (.inl zb))), (ax, .inr (0, [.int wx_nodeBits_4, .int 0, .ref ax_lessEnd, .ref ax_moreEnd, .ref ax_web, .ref ax_planeTest, .ref ax_palette, .ref ax_desk]))] := hD
    refine lv_i2l (v := Int32.toInt64 r_4) hx hb d_Law_node_7 rfl ?_
    refine va_last (D := (dC, dI)) hx hb hK hP hD hS 0 0 rfl rfl (by unfold vp_in; decide +kernel) d_Law_node_8 (fun H locs hP hD hS => ?_)
    have hP : va_P (dC, dI) classes [(ab, .inl (kb, 1, .inr (.inl (vp_updL zb (Int32.toNatClampNeg 0) (Int32.toInt64 r_4))))), (ax, .inr (0, [.int wx_nodeBits_4, .int 0, .ref ax_lessEnd, .ref ax_moreEnd, .ref ax_web, .ref ax_planeTest, .ref ax_palette, .ref ax_desk]))] H := hP
    have hD : va_D A [(ab, .inl (kb, 1, .inr (.inl (vp_updL zb (Int32.toNatClampNeg 0) (Int32.toInt64 r_4))))), (ax, .inr (0, [.int wx_nodeBits_4, .int 0, .ref ax_lessEnd, .ref ax_moreEnd, .ref ax_web, .ref ax_planeTest, .ref ax_palette, .ref ax_desk]))] := hD
    refine lv_goto (tgt := 18) hx hb d_Law_node_9 rfl ?_
    refine lv_iconst (v := 0) hx hb d_Law_node_18 (by decide) ?_
    have hP := hP.sub (ws' := [(ax, .inr (0, [.int wx_nodeBits_4, .int 0, .ref ax_lessEnd, .ref ax_moreEnd, .ref ax_web, .ref ax_planeTest, .ref ax_palette, .ref ax_desk])), (ab, .inl (kb, 1, .inr (.inl (vp_updL zb (Int32.toNatClampNeg 0) (Int32.toInt64 r_4)))))]) [1, 0] rfl
    have hD := hD.sub (ws' := [(ax, .inr (0, [.int wx_nodeBits_4, .int 0, .ref ax_lessEnd, .ref ax_moreEnd, .ref ax_web, .ref ax_planeTest, .ref ax_palette, .ref ax_desk])), (ab, .inl (kb, 1, .inr (.inl (vp_updL zb (Int32.toNatClampNeg 0) (Int32.toInt64 r_4)))))]) [1, 0] (by decide) rfl
    exact W.iret (v := 0) hx hb hr (fun t ht hW => ⟨⟨0, (wx_nodeBits_4, vp_updL zb (Int32.toNatClampNeg 0) (Int32.toInt64 r_4)), rfl, Or.inr ⟨hp_4.1, rfl, by rw [hp_4.2]; rfl⟩, by rw [ht]; exact hP, va_K.moved hW.alike hK, hD⟩, hS.F ht⟩) hS.2.2 d_Law_node_19
set_option maxHeartbeats 4000000 in
set_option maxRecDepth 100000 in
theorem c_wline (l : Launch) (hfl : l.stackTraces = false) (s0 : State) (h0 : T0 s0) (hnc : NC s0) (dC : Nat → ClassId) (dI : Nat → Nat → Nat) (sz : Nat) (ax ab ax_lessEnd ax_moreEnd ax_web ax_planeTest ax_palette ax_desk : Nat) (kb : ClassId) (zb : Nat → Int64) (vi vj : Int32) : Met l y_Law_line w_Law_line ({ frames := 7, cells := 1, slots := 6, locals := 113 }) (PreX_ s0 dC dI sz [.ref ax, .int vi, .int vj, .ref ab] [(ax, .inr (0, [.int 0, .int 0, .ref ax_lessEnd, .ref ax_moreEnd, .ref ax_web, .ref ax_planeTest, .ref ax_palette, .ref ax_desk])), (ab, .inl (kb, 1, .inr (.inl zb)))] [(kb, .long)]) (va_Qi (fun (r : Int32) (u : (Nat → Int64)) => r = 1) (fun u t => End_ dC dI (va_A [(ax, .inr (0, [.int 0, .int 0, .ref ax_lessEnd, .ref ax_moreEnd, .ref ax_web, .ref ax_planeTest, .ref ax_palette, .ref ax_desk])), (ab, .inl (kb, 1, .inr (.inl zb)))] sz) [(kb, .long)] [(ax, .inr (0, [.int 0, .int 0, .ref ax_lessEnd, .ref ax_moreEnd, .ref ax_web, .ref ax_planeTest, .ref ax_palette, .ref ax_desk])), (ab, .inl (kb, 1, .inr (.inl u)))] t) (va_A [(ax, .inr (0, [.int 0, .int 0, .ref ax_lessEnd, .ref ax_moreEnd, .ref ax_web, .ref ax_planeTest, .ref ax_palette, .ref ax_desk])), (ab, .inl (kb, 1, .inr (.inl zb)))] sz)) 1 6 (va_A [(ax, .inr (0, [.int 0, .int 0, .ref ax_lessEnd, .ref ax_moreEnd, .ref ax_web, .ref ax_planeTest, .ref ax_palette, .ref ax_desk])), (ab, .inl (kb, 1, .inr (.inl zb)))] sz) := by
  refine va_MetW (cc := b_Law_line) (maxL := 5) (ret := (some .int)) (by decide) rfl ?_
  intro p e s m args below meth c s₁ B hml hv
  have htab := x_tab B (atoms_spec (ws := w_Law_line) B.pre _ List.mem_cons_self)
  obtain ⟨hargs9, hsz9, hP9, hK9, hD9, hN9, hO, hlo⟩ := hv
  have hv : Pre_ dC dI sz [.ref ax, .int vi, .int vj, .ref ab] [(ax, .inr (0, [.int 0, .int 0, .ref ax_lessEnd, .ref ax_moreEnd, .ref ax_web, .ref ax_planeTest, .ref ax_palette, .ref ax_desk])), (ab, .inl (kb, 1, .inr (.inl zb)))] [(kb, .long)] args s := ⟨hargs9, hsz9, hP9, hK9, hD9, hN9⟩
  have lo_x : s0.heap.size ≤ ax := hlo (ax, .inr (0, [.int 0, .int 0, .ref ax_lessEnd, .ref ax_moreEnd, .ref ax_web, .ref ax_planeTest, .ref ax_palette, .ref ax_desk])) (List.mem_of_getElem? (i := 0) rfl)
  have lo_b : s0.heap.size ≤ ab := hlo (ab, .inl (kb, 1, .inr (.inl zb))) (List.mem_of_getElem? (i := 1) rfl)
  obtain ⟨hargs, hsz, hP, hK, hD0, hN⟩ := hv
  have hx := B.exec
  have hb := B.bytes
  have hr := B.returns
  have hts := atoms_spec (ws := w_Law_line) B.pre
  have hown : s.vm.findClass R_Law = some m.cls := findClass_of_methodNamed B.named
  have hlocks := B.notSynchronized
  subst hsz
  have hD := hD0.self (sz := s.heap.size)
  generalize hAe : va_A [(ax, .inr (0, [.int 0, .int 0, .ref ax_lessEnd, .ref ax_moreEnd, .ref ax_web, .ref ax_planeTest, .ref ax_palette, .ref ax_desk])), (ab, .inl (kb, 1, .inr (.inl zb)))] s.heap.size = A at hD ⊢
  have hA : ∀ q : Nat, s.heap.size ≤ q → A q := fun q h => by rw [← hAe]; exact Or.inr h
  have hS : va_S A s.heap s.heap [] := va_S.rf
  have hl := lv_entry ([.ref ax, .int vi, .int vj, .ref ab]) (n := 5) (Nat.le_of_ble_eq_true rfl)
  refine W.eq (congrArg (fun a => entryFrame m a 5) hargs) ?_
  rw [lg_entry_eq]
  generalize (lg_sl ([.ref ax, .int vi, .int vj, .ref ab]) ++ List.replicate (5 - (lg_sl ([.ref ax, .int vi, .int vj, .ref ab])).length) Slot.unset).toArray = ls at hl ⊢
  have hl : lv_has ls 5 [(0, .ref ax), (1, .int vi), (2, .int vj), (3, .ref ab)] := hl
  generalize hH0 : ([] : List Loc) = locs at hS ⊢
  refine lv_aload_n hx hb d_Law_line_0 rfl (lv_at hl 3 rfl) ?_
  refine lv_iconst (v := 0) hx hb d_Law_line_1 (by decide) ?_
  refine lv_aload_n hx hb d_Law_line_2 rfl (lv_at hl 0 rfl) ?_
  refine lv_iload_n hx hb d_Law_line_3 rfl (lv_at hl 1 rfl) ?_
  refine lv_iload_n hx hb d_Law_line_4 rfl (lv_at hl 2 rfl) ?_
  have hPc := hP.sub (ws' := [(ax, .inr (0, [.int 0, .int 0, .ref ax_lessEnd, .ref ax_moreEnd, .ref ax_web, .ref ax_planeTest, .ref ax_palette, .ref ax_desk]))]) [0] rfl
  have hDc := hD.sub (ws' := [(ax, .inr (0, [.int 0, .int 0, .ref ax_lessEnd, .ref ax_moreEnd, .ref ax_web, .ref ax_planeTest, .ref ax_palette, .ref ax_desk]))]) [0] (by decide) rfl
  have hKc := hK.sub (tys' := []) [] rfl
  have hFc := va_free (wc := [(ax, .inr (0, [.int 0, .int 0, .ref ax_lessEnd, .ref ax_moreEnd, .ref ax_web, .ref ax_planeTest, .ref ax_palette, .ref ax_desk]))]) hD hS hA [0] rfl
  have hok := og_keep hO hlo hAe hS
  refine x_calli (As := [.int vi, .int vj]) (rest := [.int 0, .ref ab]) ⟨hx, hb, hml, hown, hts⟩ (c_line0 l hfl s0 h0 dC dI s.heap.size ax ax_lessEnd ax_moreEnd ax_web ax_planeTest ax_palette ax_desk vi vj) (cwV 2 hts (gi4 mw_2_214 mw_2_215 mw_2_216 mw_1_1 mw_2_217) rfl rfl rfl (by decide +kernel) ⟨Nat.le_of_ble_eq_true rfl, Nat.le_of_ble_eq_true rfl⟩) ⟨fbx_, va_recv (q0 := 0) (ci := 0) hK hP rfl rfl, prex_ hPc hKc hDc hN hO.1 hok.1 hok.2 (List.forall_mem_cons.mpr ⟨lo_x, fun _ h => absurd h List.not_mem_nil⟩)⟩ rfl hl.1 rfl (lv_room (Nat.le_of_ble_eq_true rfl)) d_Law_line_5 ⟨Nat.le_of_ble_eq_true rfl, Nat.le_of_ble_eq_true rfl⟩ hS (fun q _ h => hFc q h) hFc (fun q _ h => hFc q h) (fun E ce q9 u t T9 locs hal hBX hh9 hz1 hk1 hS hce hcv hcl X9 => ?_) (fun r_5 u t H locs ht hvm hp_5 hB hz1 hk1 hS => ?_)
  · skip
    obtain ⟨hpx, hPx, -, hDx⟩ := hBX
    have hpx : E = "java/util/NoSuchElementException" := hpx
    obtain ⟨hP, hD⟩ := va_join (wr := [(ab, .inl (kb, 1, .inr (.inl zb)))]) (w1 := [(ax, .inr (0, [.int 0, .int 0, .ref ax_lessEnd, .ref ax_moreEnd, .ref ax_web, .ref ax_planeTest, .ref ax_palette, .ref ax_desk]))]) hP hD [0] [1] rfl rfl (by decide) (by decide) hk1 hFc hPx hDx
    have hP : va_P (dC, dI) classes [(ab, .inl (kb, 1, .inr (.inl zb))), (ax, .inr (0, [.int 0, .int 0, .ref ax_lessEnd, .ref ax_moreEnd, .ref ax_web, .ref ax_planeTest, .ref ax_palette, .ref ax_desk]))] t.heap := hP
    have hD : va_D A [(ab, .inl (kb, 1, .inr (.inl zb))), (ax, .inr (0, [.int 0, .int 0, .ref ax_lessEnd, .ref ax_moreEnd, .ref ax_web, .ref ax_planeTest, .ref ax_palette, .ref ax_desk]))] := hD
    rcases hpx with rfl
    · skip
      refine x_catch (own := R_Law) (name := "java/util/NoSuchElementException") (g := F0 m 5 ls [.int 0, .ref ab]) X9 rfl hown [] (⟨0, 10, 13, 21⟩ : ExceptionTableEntry) [(⟨0, 10, 17, 23⟩ : ExceptionTableEntry), (⟨0, 10, 21, 15⟩ : ExceptionTableEntry)] htab (fun _ h => absurd h List.not_mem_nil) rfl (by decide) (hts _ (List.mem_cons_of_mem _ mw_2_212)) (thr_at h0 hO (nsAtoms R_PS 84 "java/util/NoSuchElementException") (List.mem_of_getElem? (i := 2) rfl) (.castable "java/util/NoSuchElementException" "java/util/NoSuchElementException") (by decide +kernel)) (by rw [hh9]; exact hce) hcv hcl ?_
      rw [hh9]
      refine W.eq (g2 := F0 m 13 ls [.ref q9]) rfl ?_
      refine lv_astore (lv' := [(4, .ref q9), (0, .ref ax), (1, .int vi), (2, .int vj), (3, .ref ab)]) hx hb d_Law_line_13 hl (by decide) rfl (fun ls hl => ?_)
      refine lv_iconst (v := 1) hx hb d_Law_line_15 (by decide) ?_
      have hP := hP.sub (ws' := [(ax, .inr (0, [.int 0, .int 0, .ref ax_lessEnd, .ref ax_moreEnd, .ref ax_web, .ref ax_planeTest, .ref ax_palette, .ref ax_desk])), (ab, .inl (kb, 1, .inr (.inl zb)))]) [1, 0] rfl
      have hD := hD.sub (ws' := [(ax, .inr (0, [.int 0, .int 0, .ref ax_lessEnd, .ref ax_moreEnd, .ref ax_web, .ref ax_planeTest, .ref ax_palette, .ref ax_desk])), (ab, .inl (kb, 1, .inr (.inl zb)))]) [1, 0] (by decide) rfl
      exact W.iret (v := 1) hx hb hr (fun t ht hW => ⟨⟨1, (zb), rfl, rfl, by rw [ht]; exact hP, va_K.moved hW.alike hK, hD⟩, hS.F ht⟩) hS.2.2 d_Law_line_16
  · skip
    have hp_5 : False := hp_5
    obtain ⟨hP1, -, hD1⟩ := hB
    rw [ht] at hP1
    obtain ⟨hP, hD⟩ := va_join (wr := [(ab, .inl (kb, 1, .inr (.inl zb)))]) (w1 := [(ax, .inr (0, [.int 0, .int 0, .ref ax_lessEnd, .ref ax_moreEnd, .ref ax_web, .ref ax_planeTest, .ref ax_palette, .ref ax_desk]))]) hP hD [0] [1] rfl rfl (by decide) (by decide) hk1 hFc hP1 hD1
    have hP : va_P (dC, dI) classes [(ab, .inl (kb, 1, .inr (.inl zb))), (ax, .inr (0, [.int 0, .int 0, .ref ax_lessEnd, .ref ax_moreEnd, .ref ax_web, .ref ax_planeTest, .ref ax_palette, .ref ax_desk]))] H := hP
    have hD : va_D A [(ab, .inl (kb, 1, .inr (.inl zb))), (ax, .inr (0, [.int 0, .int 0, .ref ax_lessEnd, .ref ax_moreEnd, .ref ax_web, .ref ax_planeTest, .ref ax_palette, .ref ax_desk]))] := hD
    exact hp_5.elim
set_option maxHeartbeats 4000000 in
set_option maxRecDepth 100000 in
theorem c_wcut (l : Launch) (hfl : l.stackTraces = false) (s0 : State) (h0 : T0 s0) (hnc : NC s0) (dC : Nat → ClassId) (dI : Nat → Nat → Nat) (sz : Nat) (ax ab ax_lessEnd ax_moreEnd ax_web ax_planeTest ax_palette ax_desk : Nat) (kb : ClassId) (zb : Nat → Int64) (vi : Int32) : Met l y_Law_cut w_Law_cut ({ frames := 7, cells := 1, slots := 6, locals := 111 }) (PreX_ s0 dC dI sz [.ref ax, .int vi, .ref ab] [(ax, .inr (0, [.int 0, .int 0, .ref ax_lessEnd, .ref ax_moreEnd, .ref ax_web, .ref ax_planeTest, .ref ax_palette, .ref ax_desk])), (ab, .inl (kb, 1, .inr (.inl zb)))] [(kb, .long)]) (va_Qi (fun (r : Int32) (u : (Nat → Int64)) => r = 1) (fun u t => End_ dC dI (va_A [(ax, .inr (0, [.int 0, .int 0, .ref ax_lessEnd, .ref ax_moreEnd, .ref ax_web, .ref ax_planeTest, .ref ax_palette, .ref ax_desk])), (ab, .inl (kb, 1, .inr (.inl zb)))] sz) [(kb, .long)] [(ax, .inr (0, [.int 0, .int 0, .ref ax_lessEnd, .ref ax_moreEnd, .ref ax_web, .ref ax_planeTest, .ref ax_palette, .ref ax_desk])), (ab, .inl (kb, 1, .inr (.inl u)))] t) (va_A [(ax, .inr (0, [.int 0, .int 0, .ref ax_lessEnd, .ref ax_moreEnd, .ref ax_web, .ref ax_planeTest, .ref ax_palette, .ref ax_desk])), (ab, .inl (kb, 1, .inr (.inl zb)))] sz)) 1 6 (va_A [(ax, .inr (0, [.int 0, .int 0, .ref ax_lessEnd, .ref ax_moreEnd, .ref ax_web, .ref ax_planeTest, .ref ax_palette, .ref ax_desk])), (ab, .inl (kb, 1, .inr (.inl zb)))] sz) := by
  refine va_MetW (cc := b_Law_cut) (maxL := 4) (ret := (some .int)) (by decide) rfl ?_
  intro p e s m args below meth c s₁ B hml hv
  have htab := x_tab B (atoms_spec (ws := w_Law_cut) B.pre _ List.mem_cons_self)
  obtain ⟨hargs9, hsz9, hP9, hK9, hD9, hN9, hO, hlo⟩ := hv
  have hv : Pre_ dC dI sz [.ref ax, .int vi, .ref ab] [(ax, .inr (0, [.int 0, .int 0, .ref ax_lessEnd, .ref ax_moreEnd, .ref ax_web, .ref ax_planeTest, .ref ax_palette, .ref ax_desk])), (ab, .inl (kb, 1, .inr (.inl zb)))] [(kb, .long)] args s := ⟨hargs9, hsz9, hP9, hK9, hD9, hN9⟩
  have lo_x : s0.heap.size ≤ ax := hlo (ax, .inr (0, [.int 0, .int 0, .ref ax_lessEnd, .ref ax_moreEnd, .ref ax_web, .ref ax_planeTest, .ref ax_palette, .ref ax_desk])) (List.mem_of_getElem? (i := 0) rfl)
  have lo_b : s0.heap.size ≤ ab := hlo (ab, .inl (kb, 1, .inr (.inl zb))) (List.mem_of_getElem? (i := 1) rfl)
  obtain ⟨hargs, hsz, hP, hK, hD0, hN⟩ := hv
  have hx := B.exec
  have hb := B.bytes
  have hr := B.returns
  have hts := atoms_spec (ws := w_Law_cut) B.pre
  have hown : s.vm.findClass R_Law = some m.cls := findClass_of_methodNamed B.named
  have hlocks := B.notSynchronized
  subst hsz
  have hD := hD0.self (sz := s.heap.size)
  generalize hAe : va_A [(ax, .inr (0, [.int 0, .int 0, .ref ax_lessEnd, .ref ax_moreEnd, .ref ax_web, .ref ax_planeTest, .ref ax_palette, .ref ax_desk])), (ab, .inl (kb, 1, .inr (.inl zb)))] s.heap.size = A at hD ⊢
  have hA : ∀ q : Nat, s.heap.size ≤ q → A q := fun q h => by rw [← hAe]; exact Or.inr h
  have hS : va_S A s.heap s.heap [] := va_S.rf
  have hl := lv_entry ([.ref ax, .int vi, .ref ab]) (n := 4) (Nat.le_of_ble_eq_true rfl)
  refine W.eq (congrArg (fun a => entryFrame m a 4) hargs) ?_
  rw [lg_entry_eq]
  generalize (lg_sl ([.ref ax, .int vi, .ref ab]) ++ List.replicate (4 - (lg_sl ([.ref ax, .int vi, .ref ab])).length) Slot.unset).toArray = ls at hl ⊢
  have hl : lv_has ls 4 [(0, .ref ax), (1, .int vi), (2, .ref ab)] := hl
  generalize hH0 : ([] : List Loc) = locs at hS ⊢
  refine lv_aload_n hx hb d_Law_cut_0 rfl (lv_at hl 2 rfl) ?_
  refine lv_iconst (v := 0) hx hb d_Law_cut_1 (by decide) ?_
  refine lv_aload_n hx hb d_Law_cut_2 rfl (lv_at hl 0 rfl) ?_
  refine lv_iload_n hx hb d_Law_cut_3 rfl (lv_at hl 1 rfl) ?_
  have hPc := hP.sub (ws' := [(ax, .inr (0, [.int 0, .int 0, .ref ax_lessEnd, .ref ax_moreEnd, .ref ax_web, .ref ax_planeTest, .ref ax_palette, .ref ax_desk]))]) [0] rfl
  have hDc := hD.sub (ws' := [(ax, .inr (0, [.int 0, .int 0, .ref ax_lessEnd, .ref ax_moreEnd, .ref ax_web, .ref ax_planeTest, .ref ax_palette, .ref ax_desk]))]) [0] (by decide) rfl
  have hKc := hK.sub (tys' := []) [] rfl
  have hFc := va_free (wc := [(ax, .inr (0, [.int 0, .int 0, .ref ax_lessEnd, .ref ax_moreEnd, .ref ax_web, .ref ax_planeTest, .ref ax_palette, .ref ax_desk]))]) hD hS hA [0] rfl
  have hok := og_keep hO hlo hAe hS
  refine x_calli (As := [.int vi]) (rest := [.int 0, .ref ab]) ⟨hx, hb, hml, hown, hts⟩ (c_cut0 l hfl s0 h0 dC dI s.heap.size ax ax_lessEnd ax_moreEnd ax_web ax_planeTest ax_palette ax_desk vi) (cwV 1 hts (gi4 mw_3_24 mw_3_25 mw_3_26 mw_1_1 mw_3_27) rfl rfl rfl (by decide +kernel) ⟨Nat.le_of_ble_eq_true rfl, Nat.le_of_ble_eq_true rfl⟩) ⟨fbx_, va_recv (q0 := 0) (ci := 0) hK hP rfl rfl, prex_ hPc hKc hDc hN hO.1 hok.1 hok.2 (List.forall_mem_cons.mpr ⟨lo_x, fun _ h => absurd h List.not_mem_nil⟩)⟩ rfl hl.1 rfl (lv_room (Nat.le_of_ble_eq_true rfl)) d_Law_cut_4 ⟨Nat.le_of_ble_eq_true rfl, Nat.le_of_ble_eq_true rfl⟩ hS (fun q _ h => hFc q h) hFc (fun q _ h => hFc q h) (fun E ce q9 u t T9 locs hal hBX hh9 hz1 hk1 hS hce hcv hcl X9 => ?_) (fun r_4 u t H locs ht hvm hp_4 hB hz1 hk1 hS => ?_)
  · skip
    obtain ⟨hpx, hPx, -, hDx⟩ := hBX
    have hpx : E = "java/util/NoSuchElementException" := hpx
    obtain ⟨hP, hD⟩ := va_join (wr := [(ab, .inl (kb, 1, .inr (.inl zb)))]) (w1 := [(ax, .inr (0, [.int 0, .int 0, .ref ax_lessEnd, .ref ax_moreEnd, .ref ax_web, .ref ax_planeTest, .ref ax_palette, .ref ax_desk]))]) hP hD [0] [1] rfl rfl (by decide) (by decide) hk1 hFc hPx hDx
    have hP : va_P (dC, dI) classes [(ab, .inl (kb, 1, .inr (.inl zb))), (ax, .inr (0, [.int 0, .int 0, .ref ax_lessEnd, .ref ax_moreEnd, .ref ax_web, .ref ax_planeTest, .ref ax_palette, .ref ax_desk]))] t.heap := hP
    have hD : va_D A [(ab, .inl (kb, 1, .inr (.inl zb))), (ax, .inr (0, [.int 0, .int 0, .ref ax_lessEnd, .ref ax_moreEnd, .ref ax_web, .ref ax_planeTest, .ref ax_palette, .ref ax_desk]))] := hD
    rcases hpx with rfl
    · skip
      refine x_catch (own := R_Law) (name := "java/util/NoSuchElementException") (g := F0 m 4 ls [.int 0, .ref ab]) X9 rfl hown [] (⟨0, 9, 12, 21⟩ : ExceptionTableEntry) [] htab (fun _ h => absurd h List.not_mem_nil) rfl (by decide) (hts _ (List.mem_cons_of_mem _ mw_2_212)) (thr_at h0 hO (nsAtoms R_PS 84 "java/util/NoSuchElementException") (List.mem_of_getElem? (i := 2) rfl) (.castable "java/util/NoSuchElementException" "java/util/NoSuchElementException") (by decide +kernel)) (by rw [hh9]; exact hce) hcv hcl ?_
      rw [hh9]
      refine W.eq (g2 := F0 m 12 ls [.ref q9]) rfl ?_
      refine lv_astore_n (lv' := [(3, .ref q9), (0, .ref ax), (1, .int vi), (2, .ref ab)]) hx hb d_Law_cut_12 rfl hl (by decide) rfl (fun ls hl => ?_)
      refine lv_iconst (v := 1) hx hb d_Law_cut_13 (by decide) ?_
      have hP := hP.sub (ws' := [(ax, .inr (0, [.int 0, .int 0, .ref ax_lessEnd, .ref ax_moreEnd, .ref ax_web, .ref ax_planeTest, .ref ax_palette, .ref ax_desk])), (ab, .inl (kb, 1, .inr (.inl zb)))]) [1, 0] rfl
      have hD := hD.sub (ws' := [(ax, .inr (0, [.int 0, .int 0, .ref ax_lessEnd, .ref ax_moreEnd, .ref ax_web, .ref ax_planeTest, .ref ax_palette, .ref ax_desk])), (ab, .inl (kb, 1, .inr (.inl zb)))]) [1, 0] (by decide) rfl
      exact W.iret (v := 1) hx hb hr (fun t ht hW => ⟨⟨1, (zb), rfl, rfl, by rw [ht]; exact hP, va_K.moved hW.alike hK, hD⟩, hS.F ht⟩) hS.2.2 d_Law_cut_14
  · skip
    have hp_4 : False := hp_4
    obtain ⟨hP1, -, hD1⟩ := hB
    rw [ht] at hP1
    obtain ⟨hP, hD⟩ := va_join (wr := [(ab, .inl (kb, 1, .inr (.inl zb)))]) (w1 := [(ax, .inr (0, [.int 0, .int 0, .ref ax_lessEnd, .ref ax_moreEnd, .ref ax_web, .ref ax_planeTest, .ref ax_palette, .ref ax_desk]))]) hP hD [0] [1] rfl rfl (by decide) (by decide) hk1 hFc hP1 hD1
    have hP : va_P (dC, dI) classes [(ab, .inl (kb, 1, .inr (.inl zb))), (ax, .inr (0, [.int 0, .int 0, .ref ax_lessEnd, .ref ax_moreEnd, .ref ax_web, .ref ax_planeTest, .ref ax_palette, .ref ax_desk]))] H := hP
    have hD : va_D A [(ab, .inl (kb, 1, .inr (.inl zb))), (ax, .inr (0, [.int 0, .int 0, .ref ax_lessEnd, .ref ax_moreEnd, .ref ax_web, .ref ax_planeTest, .ref ax_palette, .ref ax_desk]))] := hD
    exact hp_4.elim
set_option maxHeartbeats 4000000 in
set_option maxRecDepth 100000 in
theorem c_wdrop (l : Launch) (hfl : l.stackTraces = false) (s0 : State) (h0 : T0 s0) (hnc : NC s0) (dC : Nat → ClassId) (dI : Nat → Nat → Nat) (sz : Nat) (ax ab ax_lessEnd ax_moreEnd ax_web ax_planeTest ax_palette ax_desk : Nat) (kb : ClassId) (zb : Nat → Int64) (vi : Int32) : Met l y_Law_drop w_Law_drop ({ frames := 7, cells := 1, slots := 6, locals := 112 }) (PreX_ s0 dC dI sz [.ref ax, .int vi, .ref ab] [(ax, .inr (0, [.int 0, .int 0, .ref ax_lessEnd, .ref ax_moreEnd, .ref ax_web, .ref ax_planeTest, .ref ax_palette, .ref ax_desk])), (ab, .inl (kb, 1, .inr (.inl zb)))] [(kb, .long)]) (va_Qi (fun (r : Int32) (u : (Nat → Int64)) => r = 1) (fun u t => End_ dC dI (va_A [(ax, .inr (0, [.int 0, .int 0, .ref ax_lessEnd, .ref ax_moreEnd, .ref ax_web, .ref ax_planeTest, .ref ax_palette, .ref ax_desk])), (ab, .inl (kb, 1, .inr (.inl zb)))] sz) [(kb, .long)] [(ax, .inr (0, [.int 0, .int 0, .ref ax_lessEnd, .ref ax_moreEnd, .ref ax_web, .ref ax_planeTest, .ref ax_palette, .ref ax_desk])), (ab, .inl (kb, 1, .inr (.inl u)))] t) (va_A [(ax, .inr (0, [.int 0, .int 0, .ref ax_lessEnd, .ref ax_moreEnd, .ref ax_web, .ref ax_planeTest, .ref ax_palette, .ref ax_desk])), (ab, .inl (kb, 1, .inr (.inl zb)))] sz)) 1 6 (va_A [(ax, .inr (0, [.int 0, .int 0, .ref ax_lessEnd, .ref ax_moreEnd, .ref ax_web, .ref ax_planeTest, .ref ax_palette, .ref ax_desk])), (ab, .inl (kb, 1, .inr (.inl zb)))] sz) := by
  refine va_MetW (cc := b_Law_drop) (maxL := 4) (ret := (some .int)) (by decide) rfl ?_
  intro p e s m args below meth c s₁ B hml hv
  have htab := x_tab B (atoms_spec (ws := w_Law_drop) B.pre _ List.mem_cons_self)
  obtain ⟨hargs9, hsz9, hP9, hK9, hD9, hN9, hO, hlo⟩ := hv
  have hv : Pre_ dC dI sz [.ref ax, .int vi, .ref ab] [(ax, .inr (0, [.int 0, .int 0, .ref ax_lessEnd, .ref ax_moreEnd, .ref ax_web, .ref ax_planeTest, .ref ax_palette, .ref ax_desk])), (ab, .inl (kb, 1, .inr (.inl zb)))] [(kb, .long)] args s := ⟨hargs9, hsz9, hP9, hK9, hD9, hN9⟩
  have lo_x : s0.heap.size ≤ ax := hlo (ax, .inr (0, [.int 0, .int 0, .ref ax_lessEnd, .ref ax_moreEnd, .ref ax_web, .ref ax_planeTest, .ref ax_palette, .ref ax_desk])) (List.mem_of_getElem? (i := 0) rfl)
  have lo_b : s0.heap.size ≤ ab := hlo (ab, .inl (kb, 1, .inr (.inl zb))) (List.mem_of_getElem? (i := 1) rfl)
  obtain ⟨hargs, hsz, hP, hK, hD0, hN⟩ := hv
  have hx := B.exec
  have hb := B.bytes
  have hr := B.returns
  have hts := atoms_spec (ws := w_Law_drop) B.pre
  have hown : s.vm.findClass R_Law = some m.cls := findClass_of_methodNamed B.named
  have hlocks := B.notSynchronized
  subst hsz
  have hD := hD0.self (sz := s.heap.size)
  generalize hAe : va_A [(ax, .inr (0, [.int 0, .int 0, .ref ax_lessEnd, .ref ax_moreEnd, .ref ax_web, .ref ax_planeTest, .ref ax_palette, .ref ax_desk])), (ab, .inl (kb, 1, .inr (.inl zb)))] s.heap.size = A at hD ⊢
  have hA : ∀ q : Nat, s.heap.size ≤ q → A q := fun q h => by rw [← hAe]; exact Or.inr h
  have hS : va_S A s.heap s.heap [] := va_S.rf
  have hl := lv_entry ([.ref ax, .int vi, .ref ab]) (n := 4) (Nat.le_of_ble_eq_true rfl)
  refine W.eq (congrArg (fun a => entryFrame m a 4) hargs) ?_
  rw [lg_entry_eq]
  generalize (lg_sl ([.ref ax, .int vi, .ref ab]) ++ List.replicate (4 - (lg_sl ([.ref ax, .int vi, .ref ab])).length) Slot.unset).toArray = ls at hl ⊢
  have hl : lv_has ls 4 [(0, .ref ax), (1, .int vi), (2, .ref ab)] := hl
  generalize hH0 : ([] : List Loc) = locs at hS ⊢
  refine lv_aload_n hx hb d_Law_drop_0 rfl (lv_at hl 2 rfl) ?_
  refine lv_iconst (v := 0) hx hb d_Law_drop_1 (by decide) ?_
  refine lv_aload_n hx hb d_Law_drop_2 rfl (lv_at hl 0 rfl) ?_
  refine lv_iload_n hx hb d_Law_drop_3 rfl (lv_at hl 1 rfl) ?_
  have hPc := hP.sub (ws' := [(ax, .inr (0, [.int 0, .int 0, .ref ax_lessEnd, .ref ax_moreEnd, .ref ax_web, .ref ax_planeTest, .ref ax_palette, .ref ax_desk]))]) [0] rfl
  have hDc := hD.sub (ws' := [(ax, .inr (0, [.int 0, .int 0, .ref ax_lessEnd, .ref ax_moreEnd, .ref ax_web, .ref ax_planeTest, .ref ax_palette, .ref ax_desk]))]) [0] (by decide) rfl
  have hKc := hK.sub (tys' := []) [] rfl
  have hFc := va_free (wc := [(ax, .inr (0, [.int 0, .int 0, .ref ax_lessEnd, .ref ax_moreEnd, .ref ax_web, .ref ax_planeTest, .ref ax_palette, .ref ax_desk]))]) hD hS hA [0] rfl
  have hok := og_keep hO hlo hAe hS
  refine x_calli (As := [.int vi]) (rest := [.int 0, .ref ab]) ⟨hx, hb, hml, hown, hts⟩ (c_drop0 l hfl s0 h0 dC dI s.heap.size ax ax_lessEnd ax_moreEnd ax_web ax_planeTest ax_palette ax_desk vi) (cwV 1 hts (gi4 mw_3_36 mw_3_37 mw_3_38 mw_1_1 mw_3_39) rfl rfl rfl (by decide +kernel) ⟨Nat.le_of_ble_eq_true rfl, Nat.le_of_ble_eq_true rfl⟩) ⟨fbx_, va_recv (q0 := 0) (ci := 0) hK hP rfl rfl, prex_ hPc hKc hDc hN hO.1 hok.1 hok.2 (List.forall_mem_cons.mpr ⟨lo_x, fun _ h => absurd h List.not_mem_nil⟩)⟩ rfl hl.1 rfl (lv_room (Nat.le_of_ble_eq_true rfl)) d_Law_drop_4 ⟨Nat.le_of_ble_eq_true rfl, Nat.le_of_ble_eq_true rfl⟩ hS (fun q _ h => hFc q h) hFc (fun q _ h => hFc q h) (fun E ce q9 u t T9 locs hal hBX hh9 hz1 hk1 hS hce hcv hcl X9 => ?_) (fun r_4 u t H locs ht hvm hp_4 hB hz1 hk1 hS => ?_)
  · skip
    obtain ⟨hpx, hPx, -, hDx⟩ := hBX
    have hpx : E = "java/util/NoSuchElementException" := hpx
    obtain ⟨hP, hD⟩ := va_join (wr := [(ab, .inl (kb, 1, .inr (.inl zb)))]) (w1 := [(ax, .inr (0, [.int 0, .int 0, .ref ax_lessEnd, .ref ax_moreEnd, .ref ax_web, .ref ax_planeTest, .ref ax_palette, .ref ax_desk]))]) hP hD [0] [1] rfl rfl (by decide) (by decide) hk1 hFc hPx hDx
    have hP : va_P (dC, dI) classes [(ab, .inl (kb, 1, .inr (.inl zb))), (ax, .inr (0, [.int 0, .int 0, .ref ax_lessEnd, .ref ax_moreEnd, .ref ax_web, .ref ax_planeTest, .ref ax_palette, .ref ax_desk]))] t.heap := hP
    have hD : va_D A [(ab, .inl (kb, 1, .inr (.inl zb))), (ax, .inr (0, [.int 0, .int 0, .ref ax_lessEnd, .ref ax_moreEnd, .ref ax_web, .ref ax_planeTest, .ref ax_palette, .ref ax_desk]))] := hD
    rcases hpx with rfl
    · skip
      refine x_catch (own := R_Law) (name := "java/util/NoSuchElementException") (g := F0 m 4 ls [.int 0, .ref ab]) X9 rfl hown [] (⟨0, 9, 12, 21⟩ : ExceptionTableEntry) [] htab (fun _ h => absurd h List.not_mem_nil) rfl (by decide) (hts _ (List.mem_cons_of_mem _ mw_2_212)) (thr_at h0 hO (nsAtoms R_PS 84 "java/util/NoSuchElementException") (List.mem_of_getElem? (i := 2) rfl) (.castable "java/util/NoSuchElementException" "java/util/NoSuchElementException") (by decide +kernel)) (by rw [hh9]; exact hce) hcv hcl ?_
      rw [hh9]
      refine W.eq (g2 := F0 m 12 ls [.ref q9]) rfl ?_
      refine lv_astore_n (lv' := [(3, .ref q9), (0, .ref ax), (1, .int vi), (2, .ref ab)]) hx hb d_Law_drop_12 rfl hl (by decide) rfl (fun ls hl => ?_)
      refine lv_iconst (v := 1) hx hb d_Law_drop_13 (by decide) ?_
      have hP := hP.sub (ws' := [(ax, .inr (0, [.int 0, .int 0, .ref ax_lessEnd, .ref ax_moreEnd, .ref ax_web, .ref ax_planeTest, .ref ax_palette, .ref ax_desk])), (ab, .inl (kb, 1, .inr (.inl zb)))]) [1, 0] rfl
      have hD := hD.sub (ws' := [(ax, .inr (0, [.int 0, .int 0, .ref ax_lessEnd, .ref ax_moreEnd, .ref ax_web, .ref ax_planeTest, .ref ax_palette, .ref ax_desk])), (ab, .inl (kb, 1, .inr (.inl zb)))]) [1, 0] (by decide) rfl
      exact W.iret (v := 1) hx hb hr (fun t ht hW => ⟨⟨1, (zb), rfl, rfl, by rw [ht]; exact hP, va_K.moved hW.alike hK, hD⟩, hS.F ht⟩) hS.2.2 d_Law_drop_14
  · skip
    have hp_4 : False := hp_4
    obtain ⟨hP1, -, hD1⟩ := hB
    rw [ht] at hP1
    obtain ⟨hP, hD⟩ := va_join (wr := [(ab, .inl (kb, 1, .inr (.inl zb)))]) (w1 := [(ax, .inr (0, [.int 0, .int 0, .ref ax_lessEnd, .ref ax_moreEnd, .ref ax_web, .ref ax_planeTest, .ref ax_palette, .ref ax_desk]))]) hP hD [0] [1] rfl rfl (by decide) (by decide) hk1 hFc hP1 hD1
    have hP : va_P (dC, dI) classes [(ab, .inl (kb, 1, .inr (.inl zb))), (ax, .inr (0, [.int 0, .int 0, .ref ax_lessEnd, .ref ax_moreEnd, .ref ax_web, .ref ax_planeTest, .ref ax_palette, .ref ax_desk]))] H := hP
    have hD : va_D A [(ab, .inl (kb, 1, .inr (.inl zb))), (ax, .inr (0, [.int 0, .int 0, .ref ax_lessEnd, .ref ax_moreEnd, .ref ax_web, .ref ax_planeTest, .ref ax_palette, .ref ax_desk]))] := hD
    exact hp_4.elim
set_option maxHeartbeats 4000000 in
set_option maxRecDepth 100000 in
theorem c_wend (l : Launch) (hfl : l.stackTraces = false) (s0 : State) (h0 : T0 s0) (hnc : NC s0) (dC : Nat → ClassId) (dI : Nat → Nat → Nat) (sz : Nat) (ax ab ax_lessEnd ax_moreEnd ax_web ax_planeTest ax_palette ax_desk : Nat) (kb : ClassId) (zb : Nat → Int64) (vi vj : Int32) : Met l y_Law_end w_Law_end ({ frames := 7, cells := 1, slots := 6, locals := 112 }) (PreX_ s0 dC dI sz [.ref ax, .int vi, .int vj, .ref ab] [(ax, .inr (0, [.int 0, .int 0, .ref ax_lessEnd, .ref ax_moreEnd, .ref ax_web, .ref ax_planeTest, .ref ax_palette, .ref ax_desk])), (ab, .inl (kb, 1, .inr (.inl zb)))] [(kb, .long)]) (va_Qi (fun (r : Int32) (u : (Nat → Int64)) => r = 1) (fun u t => End_ dC dI (va_A [(ax, .inr (0, [.int 0, .int 0, .ref ax_lessEnd, .ref ax_moreEnd, .ref ax_web, .ref ax_planeTest, .ref ax_palette, .ref ax_desk])), (ab, .inl (kb, 1, .inr (.inl zb)))] sz) [(kb, .long)] [(ax, .inr (0, [.int 0, .int 0, .ref ax_lessEnd, .ref ax_moreEnd, .ref ax_web, .ref ax_planeTest, .ref ax_palette, .ref ax_desk])), (ab, .inl (kb, 1, .inr (.inl u)))] t) (va_A [(ax, .inr (0, [.int 0, .int 0, .ref ax_lessEnd, .ref ax_moreEnd, .ref ax_web, .ref ax_planeTest, .ref ax_palette, .ref ax_desk])), (ab, .inl (kb, 1, .inr (.inl zb)))] sz)) 1 6 (va_A [(ax, .inr (0, [.int 0, .int 0, .ref ax_lessEnd, .ref ax_moreEnd, .ref ax_web, .ref ax_planeTest, .ref ax_palette, .ref ax_desk])), (ab, .inl (kb, 1, .inr (.inl zb)))] sz) := by
  refine va_MetW (cc := b_Law_end) (maxL := 5) (ret := (some .int)) (by decide) rfl ?_
  intro p e s m args below meth c s₁ B hml hv
  have htab := x_tab B (atoms_spec (ws := w_Law_end) B.pre _ List.mem_cons_self)
  obtain ⟨hargs9, hsz9, hP9, hK9, hD9, hN9, hO, hlo⟩ := hv
  have hv : Pre_ dC dI sz [.ref ax, .int vi, .int vj, .ref ab] [(ax, .inr (0, [.int 0, .int 0, .ref ax_lessEnd, .ref ax_moreEnd, .ref ax_web, .ref ax_planeTest, .ref ax_palette, .ref ax_desk])), (ab, .inl (kb, 1, .inr (.inl zb)))] [(kb, .long)] args s := ⟨hargs9, hsz9, hP9, hK9, hD9, hN9⟩
  have lo_x : s0.heap.size ≤ ax := hlo (ax, .inr (0, [.int 0, .int 0, .ref ax_lessEnd, .ref ax_moreEnd, .ref ax_web, .ref ax_planeTest, .ref ax_palette, .ref ax_desk])) (List.mem_of_getElem? (i := 0) rfl)
  have lo_b : s0.heap.size ≤ ab := hlo (ab, .inl (kb, 1, .inr (.inl zb))) (List.mem_of_getElem? (i := 1) rfl)
  obtain ⟨hargs, hsz, hP, hK, hD0, hN⟩ := hv
  have hx := B.exec
  have hb := B.bytes
  have hr := B.returns
  have hts := atoms_spec (ws := w_Law_end) B.pre
  have hown : s.vm.findClass R_Law = some m.cls := findClass_of_methodNamed B.named
  have hlocks := B.notSynchronized
  subst hsz
  have hD := hD0.self (sz := s.heap.size)
  generalize hAe : va_A [(ax, .inr (0, [.int 0, .int 0, .ref ax_lessEnd, .ref ax_moreEnd, .ref ax_web, .ref ax_planeTest, .ref ax_palette, .ref ax_desk])), (ab, .inl (kb, 1, .inr (.inl zb)))] s.heap.size = A at hD ⊢
  have hA : ∀ q : Nat, s.heap.size ≤ q → A q := fun q h => by rw [← hAe]; exact Or.inr h
  have hS : va_S A s.heap s.heap [] := va_S.rf
  have hl := lv_entry ([.ref ax, .int vi, .int vj, .ref ab]) (n := 5) (Nat.le_of_ble_eq_true rfl)
  refine W.eq (congrArg (fun a => entryFrame m a 5) hargs) ?_
  rw [lg_entry_eq]
  generalize (lg_sl ([.ref ax, .int vi, .int vj, .ref ab]) ++ List.replicate (5 - (lg_sl ([.ref ax, .int vi, .int vj, .ref ab])).length) Slot.unset).toArray = ls at hl ⊢
  have hl : lv_has ls 5 [(0, .ref ax), (1, .int vi), (2, .int vj), (3, .ref ab)] := hl
  generalize hH0 : ([] : List Loc) = locs at hS ⊢
  refine lv_aload_n hx hb d_Law_end_0 rfl (lv_at hl 3 rfl) ?_
  refine lv_iconst (v := 0) hx hb d_Law_end_1 (by decide) ?_
  refine lv_aload_n hx hb d_Law_end_2 rfl (lv_at hl 0 rfl) ?_
  refine lv_iload_n hx hb d_Law_end_3 rfl (lv_at hl 1 rfl) ?_
  refine lv_iload_n hx hb d_Law_end_4 rfl (lv_at hl 2 rfl) ?_
  have hPc := hP.sub (ws' := [(ax, .inr (0, [.int 0, .int 0, .ref ax_lessEnd, .ref ax_moreEnd, .ref ax_web, .ref ax_planeTest, .ref ax_palette, .ref ax_desk]))]) [0] rfl
  have hDc := hD.sub (ws' := [(ax, .inr (0, [.int 0, .int 0, .ref ax_lessEnd, .ref ax_moreEnd, .ref ax_web, .ref ax_planeTest, .ref ax_palette, .ref ax_desk]))]) [0] (by decide) rfl
  have hKc := hK.sub (tys' := []) [] rfl
  have hFc := va_free (wc := [(ax, .inr (0, [.int 0, .int 0, .ref ax_lessEnd, .ref ax_moreEnd, .ref ax_web, .ref ax_planeTest, .ref ax_palette, .ref ax_desk]))]) hD hS hA [0] rfl
  have hok := og_keep hO hlo hAe hS
  refine x_calli (As := [.int vi, .int vj]) (rest := [.int 0, .ref ab]) ⟨hx, hb, hml, hown, hts⟩ (c_end0 l hfl s0 h0 dC dI s.heap.size ax ax_lessEnd ax_moreEnd ax_web ax_planeTest ax_palette ax_desk vi vj) (cwV 2 hts (gi4 mw_3_44 mw_3_45 mw_3_46 mw_1_1 mw_3_47) rfl rfl rfl (by decide +kernel) ⟨Nat.le_of_ble_eq_true rfl, Nat.le_of_ble_eq_true rfl⟩) ⟨fbx_, va_recv (q0 := 0) (ci := 0) hK hP rfl rfl, prex_ hPc hKc hDc hN hO.1 hok.1 hok.2 (List.forall_mem_cons.mpr ⟨lo_x, fun _ h => absurd h List.not_mem_nil⟩)⟩ rfl hl.1 rfl (lv_room (Nat.le_of_ble_eq_true rfl)) d_Law_end_5 ⟨Nat.le_of_ble_eq_true rfl, Nat.le_of_ble_eq_true rfl⟩ hS (fun q _ h => hFc q h) hFc (fun q _ h => hFc q h) (fun E ce q9 u t T9 locs hal hBX hh9 hz1 hk1 hS hce hcv hcl X9 => ?_) (fun r_5 u t H locs ht hvm hp_5 hB hz1 hk1 hS => ?_)
  · skip
    obtain ⟨hpx, hPx, -, hDx⟩ := hBX
    have hpx : E = "java/util/NoSuchElementException" := hpx
    obtain ⟨hP, hD⟩ := va_join (wr := [(ab, .inl (kb, 1, .inr (.inl zb)))]) (w1 := [(ax, .inr (0, [.int 0, .int 0, .ref ax_lessEnd, .ref ax_moreEnd, .ref ax_web, .ref ax_planeTest, .ref ax_palette, .ref ax_desk]))]) hP hD [0] [1] rfl rfl (by decide) (by decide) hk1 hFc hPx hDx
    have hP : va_P (dC, dI) classes [(ab, .inl (kb, 1, .inr (.inl zb))), (ax, .inr (0, [.int 0, .int 0, .ref ax_lessEnd, .ref ax_moreEnd, .ref ax_web, .ref ax_planeTest, .ref ax_palette, .ref ax_desk]))] t.heap := hP
    have hD : va_D A [(ab, .inl (kb, 1, .inr (.inl zb))), (ax, .inr (0, [.int 0, .int 0, .ref ax_lessEnd, .ref ax_moreEnd, .ref ax_web, .ref ax_planeTest, .ref ax_palette, .ref ax_desk]))] := hD
    rcases hpx with rfl
    · skip
      refine x_catch (own := R_Law) (name := "java/util/NoSuchElementException") (g := F0 m 5 ls [.int 0, .ref ab]) X9 rfl hown [] (⟨0, 10, 13, 21⟩ : ExceptionTableEntry) [(⟨0, 10, 17, 13⟩ : ExceptionTableEntry)] htab (fun _ h => absurd h List.not_mem_nil) rfl (by decide) (hts _ (List.mem_cons_of_mem _ mw_2_212)) (thr_at h0 hO (nsAtoms R_PS 84 "java/util/NoSuchElementException") (List.mem_of_getElem? (i := 2) rfl) (.castable "java/util/NoSuchElementException" "java/util/NoSuchElementException") (by decide +kernel)) (by rw [hh9]; exact hce) hcv hcl ?_
      rw [hh9]
      refine W.eq (g2 := F0 m 13 ls [.ref q9]) rfl ?_
      refine lv_astore (lv' := [(4, .ref q9), (0, .ref ax), (1, .int vi), (2, .int vj), (3, .ref ab)]) hx hb d_Law_end_13 hl (by decide) rfl (fun ls hl => ?_)
      refine lv_iconst (v := 1) hx hb d_Law_end_15 (by decide) ?_
      have hP := hP.sub (ws' := [(ax, .inr (0, [.int 0, .int 0, .ref ax_lessEnd, .ref ax_moreEnd, .ref ax_web, .ref ax_planeTest, .ref ax_palette, .ref ax_desk])), (ab, .inl (kb, 1, .inr (.inl zb)))]) [1, 0] rfl
      have hD := hD.sub (ws' := [(ax, .inr (0, [.int 0, .int 0, .ref ax_lessEnd, .ref ax_moreEnd, .ref ax_web, .ref ax_planeTest, .ref ax_palette, .ref ax_desk])), (ab, .inl (kb, 1, .inr (.inl zb)))]) [1, 0] (by decide) rfl
      exact W.iret (v := 1) hx hb hr (fun t ht hW => ⟨⟨1, (zb), rfl, rfl, by rw [ht]; exact hP, va_K.moved hW.alike hK, hD⟩, hS.F ht⟩) hS.2.2 d_Law_end_16
  · skip
    have hp_5 : False := hp_5
    obtain ⟨hP1, -, hD1⟩ := hB
    rw [ht] at hP1
    obtain ⟨hP, hD⟩ := va_join (wr := [(ab, .inl (kb, 1, .inr (.inl zb)))]) (w1 := [(ax, .inr (0, [.int 0, .int 0, .ref ax_lessEnd, .ref ax_moreEnd, .ref ax_web, .ref ax_planeTest, .ref ax_palette, .ref ax_desk]))]) hP hD [0] [1] rfl rfl (by decide) (by decide) hk1 hFc hP1 hD1
    have hP : va_P (dC, dI) classes [(ab, .inl (kb, 1, .inr (.inl zb))), (ax, .inr (0, [.int 0, .int 0, .ref ax_lessEnd, .ref ax_moreEnd, .ref ax_web, .ref ax_planeTest, .ref ax_palette, .ref ax_desk]))] H := hP
    have hD : va_D A [(ab, .inl (kb, 1, .inr (.inl zb))), (ax, .inr (0, [.int 0, .int 0, .ref ax_lessEnd, .ref ax_moreEnd, .ref ax_web, .ref ax_planeTest, .ref ax_palette, .ref ax_desk]))] := hD
    exact hp_5.elim
set_option maxHeartbeats 4000000 in
set_option maxRecDepth 100000 in
theorem c_wcould (l : Launch) (hfl : l.stackTraces = false) (s0 : State) (h0 : T0 s0) (hnc : NC s0) (dC : Nat → ClassId) (dI : Nat → Nat → Nat) (sz : Nat) (ax ab ax_lessEnd ax_moreEnd ax_web ax_planeTest ax_palette ax_desk : Nat) (kb : ClassId) (zb : Nat → Int64) (vi vj : Int32) : Met l y_Law_could w_Law_could ({ frames := 7, cells := 1, slots := 6, locals := 112 }) (PreX_ s0 dC dI sz [.ref ax, .int vi, .int vj, .ref ab] [(ax, .inr (0, [.int 0, .int 0, .ref ax_lessEnd, .ref ax_moreEnd, .ref ax_web, .ref ax_planeTest, .ref ax_palette, .ref ax_desk])), (ab, .inl (kb, 1, .inr (.inl zb)))] [(kb, .long)]) (va_Qi (fun (r : Int32) (u : (Nat → Int64)) => r = 1) (fun u t => End_ dC dI (va_A [(ax, .inr (0, [.int 0, .int 0, .ref ax_lessEnd, .ref ax_moreEnd, .ref ax_web, .ref ax_planeTest, .ref ax_palette, .ref ax_desk])), (ab, .inl (kb, 1, .inr (.inl zb)))] sz) [(kb, .long)] [(ax, .inr (0, [.int 0, .int 0, .ref ax_lessEnd, .ref ax_moreEnd, .ref ax_web, .ref ax_planeTest, .ref ax_palette, .ref ax_desk])), (ab, .inl (kb, 1, .inr (.inl u)))] t) (va_A [(ax, .inr (0, [.int 0, .int 0, .ref ax_lessEnd, .ref ax_moreEnd, .ref ax_web, .ref ax_planeTest, .ref ax_palette, .ref ax_desk])), (ab, .inl (kb, 1, .inr (.inl zb)))] sz)) 1 6 (va_A [(ax, .inr (0, [.int 0, .int 0, .ref ax_lessEnd, .ref ax_moreEnd, .ref ax_web, .ref ax_planeTest, .ref ax_palette, .ref ax_desk])), (ab, .inl (kb, 1, .inr (.inl zb)))] sz) := by
  refine va_MetW (cc := b_Law_could) (maxL := 5) (ret := (some .int)) (by decide) rfl ?_
  intro p e s m args below meth c s₁ B hml hv
  have htab := x_tab B (atoms_spec (ws := w_Law_could) B.pre _ List.mem_cons_self)
  obtain ⟨hargs9, hsz9, hP9, hK9, hD9, hN9, hO, hlo⟩ := hv
  have hv : Pre_ dC dI sz [.ref ax, .int vi, .int vj, .ref ab] [(ax, .inr (0, [.int 0, .int 0, .ref ax_lessEnd, .ref ax_moreEnd, .ref ax_web, .ref ax_planeTest, .ref ax_palette, .ref ax_desk])), (ab, .inl (kb, 1, .inr (.inl zb)))] [(kb, .long)] args s := ⟨hargs9, hsz9, hP9, hK9, hD9, hN9⟩
  have lo_x : s0.heap.size ≤ ax := hlo (ax, .inr (0, [.int 0, .int 0, .ref ax_lessEnd, .ref ax_moreEnd, .ref ax_web, .ref ax_planeTest, .ref ax_palette, .ref ax_desk])) (List.mem_of_getElem? (i := 0) rfl)
  have lo_b : s0.heap.size ≤ ab := hlo (ab, .inl (kb, 1, .inr (.inl zb))) (List.mem_of_getElem? (i := 1) rfl)
  obtain ⟨hargs, hsz, hP, hK, hD0, hN⟩ := hv
  have hx := B.exec
  have hb := B.bytes
  have hr := B.returns
  have hts := atoms_spec (ws := w_Law_could) B.pre
  have hown : s.vm.findClass R_Law = some m.cls := findClass_of_methodNamed B.named
  have hlocks := B.notSynchronized
  subst hsz
  have hD := hD0.self (sz := s.heap.size)
  generalize hAe : va_A [(ax, .inr (0, [.int 0, .int 0, .ref ax_lessEnd, .ref ax_moreEnd, .ref ax_web, .ref ax_planeTest, .ref ax_palette, .ref ax_desk])), (ab, .inl (kb, 1, .inr (.inl zb)))] s.heap.size = A at hD ⊢
  have hA : ∀ q : Nat, s.heap.size ≤ q → A q := fun q h => by rw [← hAe]; exact Or.inr h
  have hS : va_S A s.heap s.heap [] := va_S.rf
  have hl := lv_entry ([.ref ax, .int vi, .int vj, .ref ab]) (n := 5) (Nat.le_of_ble_eq_true rfl)
  refine W.eq (congrArg (fun a => entryFrame m a 5) hargs) ?_
  rw [lg_entry_eq]
  generalize (lg_sl ([.ref ax, .int vi, .int vj, .ref ab]) ++ List.replicate (5 - (lg_sl ([.ref ax, .int vi, .int vj, .ref ab])).length) Slot.unset).toArray = ls at hl ⊢
  have hl : lv_has ls 5 [(0, .ref ax), (1, .int vi), (2, .int vj), (3, .ref ab)] := hl
  generalize hH0 : ([] : List Loc) = locs at hS ⊢
  refine lv_aload_n hx hb d_Law_could_0 rfl (lv_at hl 3 rfl) ?_
  refine lv_iconst (v := 0) hx hb d_Law_could_1 (by decide) ?_
  refine lv_aload_n hx hb d_Law_could_2 rfl (lv_at hl 0 rfl) ?_
  refine lv_iload_n hx hb d_Law_could_3 rfl (lv_at hl 1 rfl) ?_
  refine lv_iload_n hx hb d_Law_could_4 rfl (lv_at hl 2 rfl) ?_
  have hPc := hP.sub (ws' := [(ax, .inr (0, [.int 0, .int 0, .ref ax_lessEnd, .ref ax_moreEnd, .ref ax_web, .ref ax_planeTest, .ref ax_palette, .ref ax_desk]))]) [0] rfl
  have hDc := hD.sub (ws' := [(ax, .inr (0, [.int 0, .int 0, .ref ax_lessEnd, .ref ax_moreEnd, .ref ax_web, .ref ax_planeTest, .ref ax_palette, .ref ax_desk]))]) [0] (by decide) rfl
  have hKc := hK.sub (tys' := []) [] rfl
  have hFc := va_free (wc := [(ax, .inr (0, [.int 0, .int 0, .ref ax_lessEnd, .ref ax_moreEnd, .ref ax_web, .ref ax_planeTest, .ref ax_palette, .ref ax_desk]))]) hD hS hA [0] rfl
  have hok := og_keep hO hlo hAe hS
  refine x_calli (As := [.int vi, .int vj]) (rest := [.int 0, .ref ab]) ⟨hx, hb, hml, hown, hts⟩ (c_could0 l hfl s0 h0 dC dI s.heap.size ax ax_lessEnd ax_moreEnd ax_web ax_planeTest ax_palette ax_desk vi vj) (cwV 2 hts (gi4 mw_3_76 mw_3_77 mw_3_78 mw_1_1 mw_3_79) rfl rfl rfl (by decide +kernel) ⟨Nat.le_of_ble_eq_true rfl, Nat.le_of_ble_eq_true rfl⟩) ⟨fbx_, va_recv (q0 := 0) (ci := 0) hK hP rfl rfl, prex_ hPc hKc hDc hN hO.1 hok.1 hok.2 (List.forall_mem_cons.mpr ⟨lo_x, fun _ h => absurd h List.not_mem_nil⟩)⟩ rfl hl.1 rfl (lv_room (Nat.le_of_ble_eq_true rfl)) d_Law_could_5 ⟨Nat.le_of_ble_eq_true rfl, Nat.le_of_ble_eq_true rfl⟩ hS (fun q _ h => hFc q h) hFc (fun q _ h => hFc q h) (fun E ce q9 u t T9 locs hal hBX hh9 hz1 hk1 hS hce hcv hcl X9 => ?_) (fun r_5 u t H locs ht hvm hp_5 hB hz1 hk1 hS => ?_)
  · skip
    obtain ⟨hpx, hPx, -, hDx⟩ := hBX
    have hpx : E = "java/util/NoSuchElementException" := hpx
    obtain ⟨hP, hD⟩ := va_join (wr := [(ab, .inl (kb, 1, .inr (.inl zb)))]) (w1 := [(ax, .inr (0, [.int 0, .int 0, .ref ax_lessEnd, .ref ax_moreEnd, .ref ax_web, .ref ax_planeTest, .ref ax_palette, .ref ax_desk]))]) hP hD [0] [1] rfl rfl (by decide) (by decide) hk1 hFc hPx hDx
    have hP : va_P (dC, dI) classes [(ab, .inl (kb, 1, .inr (.inl zb))), (ax, .inr (0, [.int 0, .int 0, .ref ax_lessEnd, .ref ax_moreEnd, .ref ax_web, .ref ax_planeTest, .ref ax_palette, .ref ax_desk]))] t.heap := hP
    have hD : va_D A [(ab, .inl (kb, 1, .inr (.inl zb))), (ax, .inr (0, [.int 0, .int 0, .ref ax_lessEnd, .ref ax_moreEnd, .ref ax_web, .ref ax_planeTest, .ref ax_palette, .ref ax_desk]))] := hD
    rcases hpx with rfl
    · skip
      refine x_catch (own := R_Law) (name := "java/util/NoSuchElementException") (g := F0 m 5 ls [.int 0, .ref ab]) X9 rfl hown [] (⟨0, 17, 20, 21⟩ : ExceptionTableEntry) [(⟨0, 17, 24, 23⟩ : ExceptionTableEntry)] htab (fun _ h => absurd h List.not_mem_nil) rfl (by decide) (hts _ (List.mem_cons_of_mem _ mw_2_212)) (thr_at h0 hO (nsAtoms R_PS 84 "java/util/NoSuchElementException") (List.mem_of_getElem? (i := 2) rfl) (.castable "java/util/NoSuchElementException" "java/util/NoSuchElementException") (by decide +kernel)) (by rw [hh9]; exact hce) hcv hcl ?_
      rw [hh9]
      refine W.eq (g2 := F0 m 20 ls [.ref q9]) rfl ?_
      refine lv_astore (lv' := [(4, .ref q9), (0, .ref ax), (1, .int vi), (2, .int vj), (3, .ref ab)]) hx hb d_Law_could_20 hl (by decide) rfl (fun ls hl => ?_)
      refine lv_iconst (v := 1) hx hb d_Law_could_22 (by decide) ?_
      have hP := hP.sub (ws' := [(ax, .inr (0, [.int 0, .int 0, .ref ax_lessEnd, .ref ax_moreEnd, .ref ax_web, .ref ax_planeTest, .ref ax_palette, .ref ax_desk])), (ab, .inl (kb, 1, .inr (.inl zb)))]) [1, 0] rfl
      have hD := hD.sub (ws' := [(ax, .inr (0, [.int 0, .int 0, .ref ax_lessEnd, .ref ax_moreEnd, .ref ax_web, .ref ax_planeTest, .ref ax_palette, .ref ax_desk])), (ab, .inl (kb, 1, .inr (.inl zb)))]) [1, 0] (by decide) rfl
      exact W.iret (v := 1) hx hb hr (fun t ht hW => ⟨⟨1, (zb), rfl, rfl, by rw [ht]; exact hP, va_K.moved hW.alike hK, hD⟩, hS.F ht⟩) hS.2.2 d_Law_could_23
  · skip
    have hp_5 : False := hp_5
    obtain ⟨hP1, -, hD1⟩ := hB
    rw [ht] at hP1
    obtain ⟨hP, hD⟩ := va_join (wr := [(ab, .inl (kb, 1, .inr (.inl zb)))]) (w1 := [(ax, .inr (0, [.int 0, .int 0, .ref ax_lessEnd, .ref ax_moreEnd, .ref ax_web, .ref ax_planeTest, .ref ax_palette, .ref ax_desk]))]) hP hD [0] [1] rfl rfl (by decide) (by decide) hk1 hFc hP1 hD1
    have hP : va_P (dC, dI) classes [(ab, .inl (kb, 1, .inr (.inl zb))), (ax, .inr (0, [.int 0, .int 0, .ref ax_lessEnd, .ref ax_moreEnd, .ref ax_web, .ref ax_planeTest, .ref ax_palette, .ref ax_desk]))] H := hP
    have hD : va_D A [(ab, .inl (kb, 1, .inr (.inl zb))), (ax, .inr (0, [.int 0, .int 0, .ref ax_lessEnd, .ref ax_moreEnd, .ref ax_web, .ref ax_planeTest, .ref ax_palette, .ref ax_desk]))] := hD
    exact hp_5.elim
set_option maxHeartbeats 4000000 in
set_option maxRecDepth 100000 in
theorem c_wbridge (l : Launch) (hfl : l.stackTraces = false) (s0 : State) (h0 : T0 s0) (hnc : NC s0) (dC : Nat → ClassId) (dI : Nat → Nat → Nat) (sz : Nat) (ax ab ax_lessEnd ax_moreEnd ax_web ax_planeTest ax_palette ax_desk : Nat) (kb : ClassId) (zb : Nat → Int64) (vi : Int32) : Met l y_Law_bridge w_Law_bridge ({ frames := 7, cells := 1, slots := 6, locals := 111 }) (PreX_ s0 dC dI sz [.ref ax, .int vi, .ref ab] [(ax, .inr (0, [.int 0, .int 0, .ref ax_lessEnd, .ref ax_moreEnd, .ref ax_web, .ref ax_planeTest, .ref ax_palette, .ref ax_desk])), (ab, .inl (kb, 1, .inr (.inl zb)))] [(kb, .long)]) (va_Qi (fun (r : Int32) (u : (Nat → Int64)) => r = 1) (fun u t => End_ dC dI (va_A [(ax, .inr (0, [.int 0, .int 0, .ref ax_lessEnd, .ref ax_moreEnd, .ref ax_web, .ref ax_planeTest, .ref ax_palette, .ref ax_desk])), (ab, .inl (kb, 1, .inr (.inl zb)))] sz) [(kb, .long)] [(ax, .inr (0, [.int 0, .int 0, .ref ax_lessEnd, .ref ax_moreEnd, .ref ax_web, .ref ax_planeTest, .ref ax_palette, .ref ax_desk])), (ab, .inl (kb, 1, .inr (.inl u)))] t) (va_A [(ax, .inr (0, [.int 0, .int 0, .ref ax_lessEnd, .ref ax_moreEnd, .ref ax_web, .ref ax_planeTest, .ref ax_palette, .ref ax_desk])), (ab, .inl (kb, 1, .inr (.inl zb)))] sz)) 1 6 (va_A [(ax, .inr (0, [.int 0, .int 0, .ref ax_lessEnd, .ref ax_moreEnd, .ref ax_web, .ref ax_planeTest, .ref ax_palette, .ref ax_desk])), (ab, .inl (kb, 1, .inr (.inl zb)))] sz) := by
  refine va_MetW (cc := b_Law_bridge) (maxL := 4) (ret := (some .int)) (by decide) rfl ?_
  intro p e s m args below meth c s₁ B hml hv
  have htab := x_tab B (atoms_spec (ws := w_Law_bridge) B.pre _ List.mem_cons_self)
  obtain ⟨hargs9, hsz9, hP9, hK9, hD9, hN9, hO, hlo⟩ := hv
  have hv : Pre_ dC dI sz [.ref ax, .int vi, .ref ab] [(ax, .inr (0, [.int 0, .int 0, .ref ax_lessEnd, .ref ax_moreEnd, .ref ax_web, .ref ax_planeTest, .ref ax_palette, .ref ax_desk])), (ab, .inl (kb, 1, .inr (.inl zb)))] [(kb, .long)] args s := ⟨hargs9, hsz9, hP9, hK9, hD9, hN9⟩
  have lo_x : s0.heap.size ≤ ax := hlo (ax, .inr (0, [.int 0, .int 0, .ref ax_lessEnd, .ref ax_moreEnd, .ref ax_web, .ref ax_planeTest, .ref ax_palette, .ref ax_desk])) (List.mem_of_getElem? (i := 0) rfl)
  have lo_b : s0.heap.size ≤ ab := hlo (ab, .inl (kb, 1, .inr (.inl zb))) (List.mem_of_getElem? (i := 1) rfl)
  obtain ⟨hargs, hsz, hP, hK, hD0, hN⟩ := hv
  have hx := B.exec
  have hb := B.bytes
  have hr := B.returns
  have hts := atoms_spec (ws := w_Law_bridge) B.pre
  have hown : s.vm.findClass R_Law = some m.cls := findClass_of_methodNamed B.named
  have hlocks := B.notSynchronized
  subst hsz
  have hD := hD0.self (sz := s.heap.size)
  generalize hAe : va_A [(ax, .inr (0, [.int 0, .int 0, .ref ax_lessEnd, .ref ax_moreEnd, .ref ax_web, .ref ax_planeTest, .ref ax_palette, .ref ax_desk])), (ab, .inl (kb, 1, .inr (.inl zb)))] s.heap.size = A at hD ⊢
  have hA : ∀ q : Nat, s.heap.size ≤ q → A q := fun q h => by rw [← hAe]; exact Or.inr h
  have hS : va_S A s.heap s.heap [] := va_S.rf
  have hl := lv_entry ([.ref ax, .int vi, .ref ab]) (n := 4) (Nat.le_of_ble_eq_true rfl)
  refine W.eq (congrArg (fun a => entryFrame m a 4) hargs) ?_
  rw [lg_entry_eq]
  generalize (lg_sl ([.ref ax, .int vi, .ref ab]) ++ List.replicate (4 - (lg_sl ([.ref ax, .int vi, .ref ab])).length) Slot.unset).toArray = ls at hl ⊢
  have hl : lv_has ls 4 [(0, .ref ax), (1, .int vi), (2, .ref ab)] := hl
  generalize hH0 : ([] : List Loc) = locs at hS ⊢
  refine lv_aload_n hx hb d_Law_bridge_0 rfl (lv_at hl 2 rfl) ?_
  refine lv_iconst (v := 0) hx hb d_Law_bridge_1 (by decide) ?_
  refine lv_aload_n hx hb d_Law_bridge_2 rfl (lv_at hl 0 rfl) ?_
  refine lv_iload_n hx hb d_Law_bridge_3 rfl (lv_at hl 1 rfl) ?_
  have hPc := hP.sub (ws' := [(ax, .inr (0, [.int 0, .int 0, .ref ax_lessEnd, .ref ax_moreEnd, .ref ax_web, .ref ax_planeTest, .ref ax_palette, .ref ax_desk]))]) [0] rfl
  have hDc := hD.sub (ws' := [(ax, .inr (0, [.int 0, .int 0, .ref ax_lessEnd, .ref ax_moreEnd, .ref ax_web, .ref ax_planeTest, .ref ax_palette, .ref ax_desk]))]) [0] (by decide) rfl
  have hKc := hK.sub (tys' := []) [] rfl
  have hFc := va_free (wc := [(ax, .inr (0, [.int 0, .int 0, .ref ax_lessEnd, .ref ax_moreEnd, .ref ax_web, .ref ax_planeTest, .ref ax_palette, .ref ax_desk]))]) hD hS hA [0] rfl
  have hok := og_keep hO hlo hAe hS
  refine x_calli (As := [.int vi]) (rest := [.int 0, .ref ab]) ⟨hx, hb, hml, hown, hts⟩ (c_bridge0 l hfl s0 h0 dC dI s.heap.size ax ax_lessEnd ax_moreEnd ax_web ax_planeTest ax_palette ax_desk vi) (cwV 1 hts (gi4 mw_3_91 mw_3_92 mw_3_93 mw_1_1 mw_3_94) rfl rfl rfl (by decide +kernel) ⟨Nat.le_of_ble_eq_true rfl, Nat.le_of_ble_eq_true rfl⟩) ⟨fbx_, va_recv (q0 := 0) (ci := 0) hK hP rfl rfl, prex_ hPc hKc hDc hN hO.1 hok.1 hok.2 (List.forall_mem_cons.mpr ⟨lo_x, fun _ h => absurd h List.not_mem_nil⟩)⟩ rfl hl.1 rfl (lv_room (Nat.le_of_ble_eq_true rfl)) d_Law_bridge_4 ⟨Nat.le_of_ble_eq_true rfl, Nat.le_of_ble_eq_true rfl⟩ hS (fun q _ h => hFc q h) hFc (fun q _ h => hFc q h) (fun E ce q9 u t T9 locs hal hBX hh9 hz1 hk1 hS hce hcv hcl X9 => ?_) (fun r_4 u t H locs ht hvm hp_4 hB hz1 hk1 hS => ?_)
  · skip
    obtain ⟨hpx, hPx, -, hDx⟩ := hBX
    have hpx : E = "java/util/NoSuchElementException" := hpx
    obtain ⟨hP, hD⟩ := va_join (wr := [(ab, .inl (kb, 1, .inr (.inl zb)))]) (w1 := [(ax, .inr (0, [.int 0, .int 0, .ref ax_lessEnd, .ref ax_moreEnd, .ref ax_web, .ref ax_planeTest, .ref ax_palette, .ref ax_desk]))]) hP hD [0] [1] rfl rfl (by decide) (by decide) hk1 hFc hPx hDx
    have hP : va_P (dC, dI) classes [(ab, .inl (kb, 1, .inr (.inl zb))), (ax, .inr (0, [.int 0, .int 0, .ref ax_lessEnd, .ref ax_moreEnd, .ref ax_web, .ref ax_planeTest, .ref ax_palette, .ref ax_desk]))] t.heap := hP
    have hD : va_D A [(ab, .inl (kb, 1, .inr (.inl zb))), (ax, .inr (0, [.int 0, .int 0, .ref ax_lessEnd, .ref ax_moreEnd, .ref ax_web, .ref ax_planeTest, .ref ax_palette, .ref ax_desk]))] := hD
    rcases hpx with rfl
    · skip
      refine x_catch (own := R_Law) (name := "java/util/NoSuchElementException") (g := F0 m 4 ls [.int 0, .ref ab]) X9 rfl hown [] (⟨0, 16, 19, 21⟩ : ExceptionTableEntry) [] htab (fun _ h => absurd h List.not_mem_nil) rfl (by decide) (hts _ (List.mem_cons_of_mem _ mw_2_212)) (thr_at h0 hO (nsAtoms R_PS 84 "java/util/NoSuchElementException") (List.mem_of_getElem? (i := 2) rfl) (.castable "java/util/NoSuchElementException" "java/util/NoSuchElementException") (by decide +kernel)) (by rw [hh9]; exact hce) hcv hcl ?_
      rw [hh9]
      refine W.eq (g2 := F0 m 19 ls [.ref q9]) rfl ?_
      refine lv_astore_n (lv' := [(3, .ref q9), (0, .ref ax), (1, .int vi), (2, .ref ab)]) hx hb d_Law_bridge_19 rfl hl (by decide) rfl (fun ls hl => ?_)
      refine lv_iconst (v := 1) hx hb d_Law_bridge_20 (by decide) ?_
      have hP := hP.sub (ws' := [(ax, .inr (0, [.int 0, .int 0, .ref ax_lessEnd, .ref ax_moreEnd, .ref ax_web, .ref ax_planeTest, .ref ax_palette, .ref ax_desk])), (ab, .inl (kb, 1, .inr (.inl zb)))]) [1, 0] rfl
      have hD := hD.sub (ws' := [(ax, .inr (0, [.int 0, .int 0, .ref ax_lessEnd, .ref ax_moreEnd, .ref ax_web, .ref ax_planeTest, .ref ax_palette, .ref ax_desk])), (ab, .inl (kb, 1, .inr (.inl zb)))]) [1, 0] (by decide) rfl
      exact W.iret (v := 1) hx hb hr (fun t ht hW => ⟨⟨1, (zb), rfl, rfl, by rw [ht]; exact hP, va_K.moved hW.alike hK, hD⟩, hS.F ht⟩) hS.2.2 d_Law_bridge_21
  · skip
    have hp_4 : False := hp_4
    obtain ⟨hP1, -, hD1⟩ := hB
    rw [ht] at hP1
    obtain ⟨hP, hD⟩ := va_join (wr := [(ab, .inl (kb, 1, .inr (.inl zb)))]) (w1 := [(ax, .inr (0, [.int 0, .int 0, .ref ax_lessEnd, .ref ax_moreEnd, .ref ax_web, .ref ax_planeTest, .ref ax_palette, .ref ax_desk]))]) hP hD [0] [1] rfl rfl (by decide) (by decide) hk1 hFc hP1 hD1
    have hP : va_P (dC, dI) classes [(ab, .inl (kb, 1, .inr (.inl zb))), (ax, .inr (0, [.int 0, .int 0, .ref ax_lessEnd, .ref ax_moreEnd, .ref ax_web, .ref ax_planeTest, .ref ax_palette, .ref ax_desk]))] H := hP
    have hD : va_D A [(ab, .inl (kb, 1, .inr (.inl zb))), (ax, .inr (0, [.int 0, .int 0, .ref ax_lessEnd, .ref ax_moreEnd, .ref ax_web, .ref ax_planeTest, .ref ax_palette, .ref ax_desk]))] := hD
    exact hp_4.elim
set_option maxHeartbeats 4000000 in
set_option maxRecDepth 100000 in
theorem c_whinge (l : Launch) (hfl : l.stackTraces = false) (s0 : State) (h0 : T0 s0) (hnc : NC s0) (dC : Nat → ClassId) (dI : Nat → Nat → Nat) (sz : Nat) (ax ab ax_lessEnd ax_moreEnd ax_web ax_planeTest ax_palette ax_desk : Nat) (kb : ClassId) (zb : Nat → Int64) (vi : Int32) : Met l y_Law_hinge w_Law_hinge ({ frames := 7, cells := 1, slots := 6, locals := 111 }) (PreX_ s0 dC dI sz [.ref ax, .int vi, .ref ab] [(ax, .inr (0, [.int 0, .int 0, .ref ax_lessEnd, .ref ax_moreEnd, .ref ax_web, .ref ax_planeTest, .ref ax_palette, .ref ax_desk])), (ab, .inl (kb, 1, .inr (.inl zb)))] [(kb, .long)]) (va_Qi (fun (r : Int32) (u : (Nat → Int64)) => r = 1) (fun u t => End_ dC dI (va_A [(ax, .inr (0, [.int 0, .int 0, .ref ax_lessEnd, .ref ax_moreEnd, .ref ax_web, .ref ax_planeTest, .ref ax_palette, .ref ax_desk])), (ab, .inl (kb, 1, .inr (.inl zb)))] sz) [(kb, .long)] [(ax, .inr (0, [.int 0, .int 0, .ref ax_lessEnd, .ref ax_moreEnd, .ref ax_web, .ref ax_planeTest, .ref ax_palette, .ref ax_desk])), (ab, .inl (kb, 1, .inr (.inl u)))] t) (va_A [(ax, .inr (0, [.int 0, .int 0, .ref ax_lessEnd, .ref ax_moreEnd, .ref ax_web, .ref ax_planeTest, .ref ax_palette, .ref ax_desk])), (ab, .inl (kb, 1, .inr (.inl zb)))] sz)) 1 6 (va_A [(ax, .inr (0, [.int 0, .int 0, .ref ax_lessEnd, .ref ax_moreEnd, .ref ax_web, .ref ax_planeTest, .ref ax_palette, .ref ax_desk])), (ab, .inl (kb, 1, .inr (.inl zb)))] sz) := by
  refine va_MetW (cc := b_Law_hinge) (maxL := 4) (ret := (some .int)) (by decide) rfl ?_
  intro p e s m args below meth c s₁ B hml hv
  have htab := x_tab B (atoms_spec (ws := w_Law_hinge) B.pre _ List.mem_cons_self)
  obtain ⟨hargs9, hsz9, hP9, hK9, hD9, hN9, hO, hlo⟩ := hv
  have hv : Pre_ dC dI sz [.ref ax, .int vi, .ref ab] [(ax, .inr (0, [.int 0, .int 0, .ref ax_lessEnd, .ref ax_moreEnd, .ref ax_web, .ref ax_planeTest, .ref ax_palette, .ref ax_desk])), (ab, .inl (kb, 1, .inr (.inl zb)))] [(kb, .long)] args s := ⟨hargs9, hsz9, hP9, hK9, hD9, hN9⟩
  have lo_x : s0.heap.size ≤ ax := hlo (ax, .inr (0, [.int 0, .int 0, .ref ax_lessEnd, .ref ax_moreEnd, .ref ax_web, .ref ax_planeTest, .ref ax_palette, .ref ax_desk])) (List.mem_of_getElem? (i := 0) rfl)
  have lo_b : s0.heap.size ≤ ab := hlo (ab, .inl (kb, 1, .inr (.inl zb))) (List.mem_of_getElem? (i := 1) rfl)
  obtain ⟨hargs, hsz, hP, hK, hD0, hN⟩ := hv
  have hx := B.exec
  have hb := B.bytes
  have hr := B.returns
  have hts := atoms_spec (ws := w_Law_hinge) B.pre
  have hown : s.vm.findClass R_Law = some m.cls := findClass_of_methodNamed B.named
  have hlocks := B.notSynchronized
  subst hsz
  have hD := hD0.self (sz := s.heap.size)
  generalize hAe : va_A [(ax, .inr (0, [.int 0, .int 0, .ref ax_lessEnd, .ref ax_moreEnd, .ref ax_web, .ref ax_planeTest, .ref ax_palette, .ref ax_desk])), (ab, .inl (kb, 1, .inr (.inl zb)))] s.heap.size = A at hD ⊢
  have hA : ∀ q : Nat, s.heap.size ≤ q → A q := fun q h => by rw [← hAe]; exact Or.inr h
  have hS : va_S A s.heap s.heap [] := va_S.rf
  have hl := lv_entry ([.ref ax, .int vi, .ref ab]) (n := 4) (Nat.le_of_ble_eq_true rfl)
  refine W.eq (congrArg (fun a => entryFrame m a 4) hargs) ?_
  rw [lg_entry_eq]
  generalize (lg_sl ([.ref ax, .int vi, .ref ab]) ++ List.replicate (4 - (lg_sl ([.ref ax, .int vi, .ref ab])).length) Slot.unset).toArray = ls at hl ⊢
  have hl : lv_has ls 4 [(0, .ref ax), (1, .int vi), (2, .ref ab)] := hl
  generalize hH0 : ([] : List Loc) = locs at hS ⊢
  refine lv_aload_n hx hb d_Law_hinge_0 rfl (lv_at hl 2 rfl) ?_
  refine lv_iconst (v := 0) hx hb d_Law_hinge_1 (by decide) ?_
  refine lv_aload_n hx hb d_Law_hinge_2 rfl (lv_at hl 0 rfl) ?_
  refine lv_iload_n hx hb d_Law_hinge_3 rfl (lv_at hl 1 rfl) ?_
  have hPc := hP.sub (ws' := [(ax, .inr (0, [.int 0, .int 0, .ref ax_lessEnd, .ref ax_moreEnd, .ref ax_web, .ref ax_planeTest, .ref ax_palette, .ref ax_desk]))]) [0] rfl
  have hDc := hD.sub (ws' := [(ax, .inr (0, [.int 0, .int 0, .ref ax_lessEnd, .ref ax_moreEnd, .ref ax_web, .ref ax_planeTest, .ref ax_palette, .ref ax_desk]))]) [0] (by decide) rfl
  have hKc := hK.sub (tys' := []) [] rfl
  have hFc := va_free (wc := [(ax, .inr (0, [.int 0, .int 0, .ref ax_lessEnd, .ref ax_moreEnd, .ref ax_web, .ref ax_planeTest, .ref ax_palette, .ref ax_desk]))]) hD hS hA [0] rfl
  have hok := og_keep hO hlo hAe hS
  refine x_calli (As := [.int vi]) (rest := [.int 0, .ref ab]) ⟨hx, hb, hml, hown, hts⟩ (c_hinge0 l hfl s0 h0 dC dI s.heap.size ax ax_lessEnd ax_moreEnd ax_web ax_planeTest ax_palette ax_desk vi) (cwV 1 hts (gi4 mw_3_98 mw_3_99 mw_3_100 mw_1_1 mw_3_101) rfl rfl rfl (by decide +kernel) ⟨Nat.le_of_ble_eq_true rfl, Nat.le_of_ble_eq_true rfl⟩) ⟨fbx_, va_recv (q0 := 0) (ci := 0) hK hP rfl rfl, prex_ hPc hKc hDc hN hO.1 hok.1 hok.2 (List.forall_mem_cons.mpr ⟨lo_x, fun _ h => absurd h List.not_mem_nil⟩)⟩ rfl hl.1 rfl (lv_room (Nat.le_of_ble_eq_true rfl)) d_Law_hinge_4 ⟨Nat.le_of_ble_eq_true rfl, Nat.le_of_ble_eq_true rfl⟩ hS (fun q _ h => hFc q h) hFc (fun q _ h => hFc q h) (fun E ce q9 u t T9 locs hal hBX hh9 hz1 hk1 hS hce hcv hcl X9 => ?_) (fun r_4 u t H locs ht hvm hp_4 hB hz1 hk1 hS => ?_)
  · skip
    obtain ⟨hpx, hPx, -, hDx⟩ := hBX
    have hpx : E = "java/util/NoSuchElementException" := hpx
    obtain ⟨hP, hD⟩ := va_join (wr := [(ab, .inl (kb, 1, .inr (.inl zb)))]) (w1 := [(ax, .inr (0, [.int 0, .int 0, .ref ax_lessEnd, .ref ax_moreEnd, .ref ax_web, .ref ax_planeTest, .ref ax_palette, .ref ax_desk]))]) hP hD [0] [1] rfl rfl (by decide) (by decide) hk1 hFc hPx hDx
    have hP : va_P (dC, dI) classes [(ab, .inl (kb, 1, .inr (.inl zb))), (ax, .inr (0, [.int 0, .int 0, .ref ax_lessEnd, .ref ax_moreEnd, .ref ax_web, .ref ax_planeTest, .ref ax_palette, .ref ax_desk]))] t.heap := hP
    have hD : va_D A [(ab, .inl (kb, 1, .inr (.inl zb))), (ax, .inr (0, [.int 0, .int 0, .ref ax_lessEnd, .ref ax_moreEnd, .ref ax_web, .ref ax_planeTest, .ref ax_palette, .ref ax_desk]))] := hD
    rcases hpx with rfl
    · skip
      refine x_catch (own := R_Law) (name := "java/util/NoSuchElementException") (g := F0 m 4 ls [.int 0, .ref ab]) X9 rfl hown [] (⟨0, 16, 19, 21⟩ : ExceptionTableEntry) [] htab (fun _ h => absurd h List.not_mem_nil) rfl (by decide) (hts _ (List.mem_cons_of_mem _ mw_2_212)) (thr_at h0 hO (nsAtoms R_PS 84 "java/util/NoSuchElementException") (List.mem_of_getElem? (i := 2) rfl) (.castable "java/util/NoSuchElementException" "java/util/NoSuchElementException") (by decide +kernel)) (by rw [hh9]; exact hce) hcv hcl ?_
      rw [hh9]
      refine W.eq (g2 := F0 m 19 ls [.ref q9]) rfl ?_
      refine lv_astore_n (lv' := [(3, .ref q9), (0, .ref ax), (1, .int vi), (2, .ref ab)]) hx hb d_Law_hinge_19 rfl hl (by decide) rfl (fun ls hl => ?_)
      refine lv_iconst (v := 1) hx hb d_Law_hinge_20 (by decide) ?_
      have hP := hP.sub (ws' := [(ax, .inr (0, [.int 0, .int 0, .ref ax_lessEnd, .ref ax_moreEnd, .ref ax_web, .ref ax_planeTest, .ref ax_palette, .ref ax_desk])), (ab, .inl (kb, 1, .inr (.inl zb)))]) [1, 0] rfl
      have hD := hD.sub (ws' := [(ax, .inr (0, [.int 0, .int 0, .ref ax_lessEnd, .ref ax_moreEnd, .ref ax_web, .ref ax_planeTest, .ref ax_palette, .ref ax_desk])), (ab, .inl (kb, 1, .inr (.inl zb)))]) [1, 0] (by decide) rfl
      exact W.iret (v := 1) hx hb hr (fun t ht hW => ⟨⟨1, (zb), rfl, rfl, by rw [ht]; exact hP, va_K.moved hW.alike hK, hD⟩, hS.F ht⟩) hS.2.2 d_Law_hinge_21
  · skip
    have hp_4 : False := hp_4
    obtain ⟨hP1, -, hD1⟩ := hB
    rw [ht] at hP1
    obtain ⟨hP, hD⟩ := va_join (wr := [(ab, .inl (kb, 1, .inr (.inl zb)))]) (w1 := [(ax, .inr (0, [.int 0, .int 0, .ref ax_lessEnd, .ref ax_moreEnd, .ref ax_web, .ref ax_planeTest, .ref ax_palette, .ref ax_desk]))]) hP hD [0] [1] rfl rfl (by decide) (by decide) hk1 hFc hP1 hD1
    have hP : va_P (dC, dI) classes [(ab, .inl (kb, 1, .inr (.inl zb))), (ax, .inr (0, [.int 0, .int 0, .ref ax_lessEnd, .ref ax_moreEnd, .ref ax_web, .ref ax_planeTest, .ref ax_palette, .ref ax_desk]))] H := hP
    have hD : va_D A [(ab, .inl (kb, 1, .inr (.inl zb))), (ax, .inr (0, [.int 0, .int 0, .ref ax_lessEnd, .ref ax_moreEnd, .ref ax_web, .ref ax_planeTest, .ref ax_palette, .ref ax_desk]))] := hD
    exact hp_4.elim
set_option maxHeartbeats 4000000 in
set_option maxRecDepth 100000 in
theorem c_wcolour (l : Launch) (hfl : l.stackTraces = false) (s0 : State) (h0 : T0 s0) (hnc : NC s0) (dC : Nat → ClassId) (dI : Nat → Nat → Nat) (sz : Nat) (ax ab ax_lessEnd ax_moreEnd ax_web ax_planeTest ax_palette ax_desk : Nat) (kb : ClassId) (zb : Nat → Int64) (vi : Int32) : Met l y_Law_colour w_Law_colour ({ frames := 7, cells := 1, slots := 6, locals := 111 }) (PreX_ s0 dC dI sz [.ref ax, .int vi, .ref ab] [(ax, .inr (0, [.int 0, .int 0, .ref ax_lessEnd, .ref ax_moreEnd, .ref ax_web, .ref ax_planeTest, .ref ax_palette, .ref ax_desk])), (ab, .inl (kb, 1, .inr (.inl zb)))] [(kb, .long)]) (va_Qi (fun (r : Int32) (u : (Nat → Int64)) => r = 1) (fun u t => End_ dC dI (va_A [(ax, .inr (0, [.int 0, .int 0, .ref ax_lessEnd, .ref ax_moreEnd, .ref ax_web, .ref ax_planeTest, .ref ax_palette, .ref ax_desk])), (ab, .inl (kb, 1, .inr (.inl zb)))] sz) [(kb, .long)] [(ax, .inr (0, [.int 0, .int 0, .ref ax_lessEnd, .ref ax_moreEnd, .ref ax_web, .ref ax_planeTest, .ref ax_palette, .ref ax_desk])), (ab, .inl (kb, 1, .inr (.inl u)))] t) (va_A [(ax, .inr (0, [.int 0, .int 0, .ref ax_lessEnd, .ref ax_moreEnd, .ref ax_web, .ref ax_planeTest, .ref ax_palette, .ref ax_desk])), (ab, .inl (kb, 1, .inr (.inl zb)))] sz)) 1 6 (va_A [(ax, .inr (0, [.int 0, .int 0, .ref ax_lessEnd, .ref ax_moreEnd, .ref ax_web, .ref ax_planeTest, .ref ax_palette, .ref ax_desk])), (ab, .inl (kb, 1, .inr (.inl zb)))] sz) := by
  refine va_MetW (cc := b_Law_colour) (maxL := 4) (ret := (some .int)) (by decide) rfl ?_
  intro p e s m args below meth c s₁ B hml hv
  have htab := x_tab B (atoms_spec (ws := w_Law_colour) B.pre _ List.mem_cons_self)
  obtain ⟨hargs9, hsz9, hP9, hK9, hD9, hN9, hO, hlo⟩ := hv
  have hv : Pre_ dC dI sz [.ref ax, .int vi, .ref ab] [(ax, .inr (0, [.int 0, .int 0, .ref ax_lessEnd, .ref ax_moreEnd, .ref ax_web, .ref ax_planeTest, .ref ax_palette, .ref ax_desk])), (ab, .inl (kb, 1, .inr (.inl zb)))] [(kb, .long)] args s := ⟨hargs9, hsz9, hP9, hK9, hD9, hN9⟩
  have lo_x : s0.heap.size ≤ ax := hlo (ax, .inr (0, [.int 0, .int 0, .ref ax_lessEnd, .ref ax_moreEnd, .ref ax_web, .ref ax_planeTest, .ref ax_palette, .ref ax_desk])) (List.mem_of_getElem? (i := 0) rfl)
  have lo_b : s0.heap.size ≤ ab := hlo (ab, .inl (kb, 1, .inr (.inl zb))) (List.mem_of_getElem? (i := 1) rfl)
  obtain ⟨hargs, hsz, hP, hK, hD0, hN⟩ := hv
  have hx := B.exec
  have hb := B.bytes
  have hr := B.returns
  have hts := atoms_spec (ws := w_Law_colour) B.pre
  have hown : s.vm.findClass R_Law = some m.cls := findClass_of_methodNamed B.named
  have hlocks := B.notSynchronized
  subst hsz
  have hD := hD0.self (sz := s.heap.size)
  generalize hAe : va_A [(ax, .inr (0, [.int 0, .int 0, .ref ax_lessEnd, .ref ax_moreEnd, .ref ax_web, .ref ax_planeTest, .ref ax_palette, .ref ax_desk])), (ab, .inl (kb, 1, .inr (.inl zb)))] s.heap.size = A at hD ⊢
  have hA : ∀ q : Nat, s.heap.size ≤ q → A q := fun q h => by rw [← hAe]; exact Or.inr h
  have hS : va_S A s.heap s.heap [] := va_S.rf
  have hl := lv_entry ([.ref ax, .int vi, .ref ab]) (n := 4) (Nat.le_of_ble_eq_true rfl)
  refine W.eq (congrArg (fun a => entryFrame m a 4) hargs) ?_
  rw [lg_entry_eq]
  generalize (lg_sl ([.ref ax, .int vi, .ref ab]) ++ List.replicate (4 - (lg_sl ([.ref ax, .int vi, .ref ab])).length) Slot.unset).toArray = ls at hl ⊢
  have hl : lv_has ls 4 [(0, .ref ax), (1, .int vi), (2, .ref ab)] := hl
  generalize hH0 : ([] : List Loc) = locs at hS ⊢
  refine lv_aload_n hx hb d_Law_colour_0 rfl (lv_at hl 2 rfl) ?_
  refine lv_iconst (v := 0) hx hb d_Law_colour_1 (by decide) ?_
  refine lv_aload_n hx hb d_Law_colour_2 rfl (lv_at hl 0 rfl) ?_
  refine lv_iload_n hx hb d_Law_colour_3 rfl (lv_at hl 1 rfl) ?_
  have hPc := hP.sub (ws' := [(ax, .inr (0, [.int 0, .int 0, .ref ax_lessEnd, .ref ax_moreEnd, .ref ax_web, .ref ax_planeTest, .ref ax_palette, .ref ax_desk]))]) [0] rfl
  have hDc := hD.sub (ws' := [(ax, .inr (0, [.int 0, .int 0, .ref ax_lessEnd, .ref ax_moreEnd, .ref ax_web, .ref ax_planeTest, .ref ax_palette, .ref ax_desk]))]) [0] (by decide) rfl
  have hKc := hK.sub (tys' := []) [] rfl
  have hFc := va_free (wc := [(ax, .inr (0, [.int 0, .int 0, .ref ax_lessEnd, .ref ax_moreEnd, .ref ax_web, .ref ax_planeTest, .ref ax_palette, .ref ax_desk]))]) hD hS hA [0] rfl
  have hok := og_keep hO hlo hAe hS
  refine x_calli (As := [.int vi]) (rest := [.int 0, .ref ab]) ⟨hx, hb, hml, hown, hts⟩ (c_colour0 l hfl s0 h0 dC dI s.heap.size ax ax_lessEnd ax_moreEnd ax_web ax_planeTest ax_palette ax_desk vi) (cwV 1 hts (gi4 mw_3_105 mw_3_106 mw_3_107 mw_1_1 mw_3_108) rfl rfl rfl (by decide +kernel) ⟨Nat.le_of_ble_eq_true rfl, Nat.le_of_ble_eq_true rfl⟩) ⟨fbx_, va_recv (q0 := 0) (ci := 0) hK hP rfl rfl, prex_ hPc hKc hDc hN hO.1 hok.1 hok.2 (List.forall_mem_cons.mpr ⟨lo_x, fun _ h => absurd h List.not_mem_nil⟩)⟩ rfl hl.1 rfl (lv_room (Nat.le_of_ble_eq_true rfl)) d_Law_colour_4 ⟨Nat.le_of_ble_eq_true rfl, Nat.le_of_ble_eq_true rfl⟩ hS (fun q _ h => hFc q h) hFc (fun q _ h => hFc q h) (fun E ce q9 u t T9 locs hal hBX hh9 hz1 hk1 hS hce hcv hcl X9 => ?_) (fun r_4 u t H locs ht hvm hp_4 hB hz1 hk1 hS => ?_)
  · skip
    obtain ⟨hpx, hPx, -, hDx⟩ := hBX
    have hpx : E = "java/util/NoSuchElementException" := hpx
    obtain ⟨hP, hD⟩ := va_join (wr := [(ab, .inl (kb, 1, .inr (.inl zb)))]) (w1 := [(ax, .inr (0, [.int 0, .int 0, .ref ax_lessEnd, .ref ax_moreEnd, .ref ax_web, .ref ax_planeTest, .ref ax_palette, .ref ax_desk]))]) hP hD [0] [1] rfl rfl (by decide) (by decide) hk1 hFc hPx hDx
    have hP : va_P (dC, dI) classes [(ab, .inl (kb, 1, .inr (.inl zb))), (ax, .inr (0, [.int 0, .int 0, .ref ax_lessEnd, .ref ax_moreEnd, .ref ax_web, .ref ax_planeTest, .ref ax_palette, .ref ax_desk]))] t.heap := hP
    have hD : va_D A [(ab, .inl (kb, 1, .inr (.inl zb))), (ax, .inr (0, [.int 0, .int 0, .ref ax_lessEnd, .ref ax_moreEnd, .ref ax_web, .ref ax_planeTest, .ref ax_palette, .ref ax_desk]))] := hD
    rcases hpx with rfl
    · skip
      refine x_catch (own := R_Law) (name := "java/util/NoSuchElementException") (g := F0 m 4 ls [.int 0, .ref ab]) X9 rfl hown [] (⟨0, 9, 12, 21⟩ : ExceptionTableEntry) [] htab (fun _ h => absurd h List.not_mem_nil) rfl (by decide) (hts _ (List.mem_cons_of_mem _ mw_2_212)) (thr_at h0 hO (nsAtoms R_PS 84 "java/util/NoSuchElementException") (List.mem_of_getElem? (i := 2) rfl) (.castable "java/util/NoSuchElementException" "java/util/NoSuchElementException") (by decide +kernel)) (by rw [hh9]; exact hce) hcv hcl ?_
      rw [hh9]
      refine W.eq (g2 := F0 m 12 ls [.ref q9]) rfl ?_
      refine lv_astore_n (lv' := [(3, .ref q9), (0, .ref ax), (1, .int vi), (2, .ref ab)]) hx hb d_Law_colour_12 rfl hl (by decide) rfl (fun ls hl => ?_)
      refine lv_iconst (v := 1) hx hb d_Law_colour_13 (by decide) ?_
      have hP := hP.sub (ws' := [(ax, .inr (0, [.int 0, .int 0, .ref ax_lessEnd, .ref ax_moreEnd, .ref ax_web, .ref ax_planeTest, .ref ax_palette, .ref ax_desk])), (ab, .inl (kb, 1, .inr (.inl zb)))]) [1, 0] rfl
      have hD := hD.sub (ws' := [(ax, .inr (0, [.int 0, .int 0, .ref ax_lessEnd, .ref ax_moreEnd, .ref ax_web, .ref ax_planeTest, .ref ax_palette, .ref ax_desk])), (ab, .inl (kb, 1, .inr (.inl zb)))]) [1, 0] (by decide) rfl
      exact W.iret (v := 1) hx hb hr (fun t ht hW => ⟨⟨1, (zb), rfl, rfl, by rw [ht]; exact hP, va_K.moved hW.alike hK, hD⟩, hS.F ht⟩) hS.2.2 d_Law_colour_14
  · skip
    have hp_4 : False := hp_4
    obtain ⟨hP1, -, hD1⟩ := hB
    rw [ht] at hP1
    obtain ⟨hP, hD⟩ := va_join (wr := [(ab, .inl (kb, 1, .inr (.inl zb)))]) (w1 := [(ax, .inr (0, [.int 0, .int 0, .ref ax_lessEnd, .ref ax_moreEnd, .ref ax_web, .ref ax_planeTest, .ref ax_palette, .ref ax_desk]))]) hP hD [0] [1] rfl rfl (by decide) (by decide) hk1 hFc hP1 hD1
    have hP : va_P (dC, dI) classes [(ab, .inl (kb, 1, .inr (.inl zb))), (ax, .inr (0, [.int 0, .int 0, .ref ax_lessEnd, .ref ax_moreEnd, .ref ax_web, .ref ax_planeTest, .ref ax_palette, .ref ax_desk]))] H := hP
    have hD : va_D A [(ab, .inl (kb, 1, .inr (.inl zb))), (ax, .inr (0, [.int 0, .int 0, .ref ax_lessEnd, .ref ax_moreEnd, .ref ax_web, .ref ax_planeTest, .ref ax_palette, .ref ax_desk]))] := hD
    exact hp_4.elim
set_option maxHeartbeats 4000000 in
set_option maxRecDepth 100000 in
theorem c_wmeets (l : Launch) (hfl : l.stackTraces = false) (s0 : State) (h0 : T0 s0) (hnc : NC s0) (dC : Nat → ClassId) (dI : Nat → Nat → Nat) (sz : Nat) (ax ab ax_lessEnd ax_moreEnd ax_web ax_planeTest ax_palette ax_desk : Nat) (kb : ClassId) (zb : Nat → Int64) (vi vj : Int32) : Met l y_Law_meets w_Law_meets ({ frames := 7, cells := 1, slots := 6, locals := 112 }) (PreX_ s0 dC dI sz [.ref ax, .int vi, .int vj, .ref ab] [(ax, .inr (0, [.int 0, .int 0, .ref ax_lessEnd, .ref ax_moreEnd, .ref ax_web, .ref ax_planeTest, .ref ax_palette, .ref ax_desk])), (ab, .inl (kb, 1, .inr (.inl zb)))] [(kb, .long)]) (va_Qi (fun (r : Int32) (u : (Nat → Int64)) => r = 1) (fun u t => End_ dC dI (va_A [(ax, .inr (0, [.int 0, .int 0, .ref ax_lessEnd, .ref ax_moreEnd, .ref ax_web, .ref ax_planeTest, .ref ax_palette, .ref ax_desk])), (ab, .inl (kb, 1, .inr (.inl zb)))] sz) [(kb, .long)] [(ax, .inr (0, [.int 0, .int 0, .ref ax_lessEnd, .ref ax_moreEnd, .ref ax_web, .ref ax_planeTest, .ref ax_palette, .ref ax_desk])), (ab, .inl (kb, 1, .inr (.inl u)))] t) (va_A [(ax, .inr (0, [.int 0, .int 0, .ref ax_lessEnd, .ref ax_moreEnd, .ref ax_web, .ref ax_planeTest, .ref ax_palette, .ref ax_desk])), (ab, .inl (kb, 1, .inr (.inl zb)))] sz)) 1 6 (va_A [(ax, .inr (0, [.int 0, .int 0, .ref ax_lessEnd, .ref ax_moreEnd, .ref ax_web, .ref ax_planeTest, .ref ax_palette, .ref ax_desk])), (ab, .inl (kb, 1, .inr (.inl zb)))] sz) := by
  refine va_MetW (cc := b_Law_meets) (maxL := 5) (ret := (some .int)) (by decide) rfl ?_
  intro p e s m args below meth c s₁ B hml hv
  have htab := x_tab B (atoms_spec (ws := w_Law_meets) B.pre _ List.mem_cons_self)
  obtain ⟨hargs9, hsz9, hP9, hK9, hD9, hN9, hO, hlo⟩ := hv
  have hv : Pre_ dC dI sz [.ref ax, .int vi, .int vj, .ref ab] [(ax, .inr (0, [.int 0, .int 0, .ref ax_lessEnd, .ref ax_moreEnd, .ref ax_web, .ref ax_planeTest, .ref ax_palette, .ref ax_desk])), (ab, .inl (kb, 1, .inr (.inl zb)))] [(kb, .long)] args s := ⟨hargs9, hsz9, hP9, hK9, hD9, hN9⟩
  have lo_x : s0.heap.size ≤ ax := hlo (ax, .inr (0, [.int 0, .int 0, .ref ax_lessEnd, .ref ax_moreEnd, .ref ax_web, .ref ax_planeTest, .ref ax_palette, .ref ax_desk])) (List.mem_of_getElem? (i := 0) rfl)
  have lo_b : s0.heap.size ≤ ab := hlo (ab, .inl (kb, 1, .inr (.inl zb))) (List.mem_of_getElem? (i := 1) rfl)
  obtain ⟨hargs, hsz, hP, hK, hD0, hN⟩ := hv
  have hx := B.exec
  have hb := B.bytes
  have hr := B.returns
  have hts := atoms_spec (ws := w_Law_meets) B.pre
  have hown : s.vm.findClass R_Law = some m.cls := findClass_of_methodNamed B.named
  have hlocks := B.notSynchronized
  subst hsz
  have hD := hD0.self (sz := s.heap.size)
  generalize hAe : va_A [(ax, .inr (0, [.int 0, .int 0, .ref ax_lessEnd, .ref ax_moreEnd, .ref ax_web, .ref ax_planeTest, .ref ax_palette, .ref ax_desk])), (ab, .inl (kb, 1, .inr (.inl zb)))] s.heap.size = A at hD ⊢
  have hA : ∀ q : Nat, s.heap.size ≤ q → A q := fun q h => by rw [← hAe]; exact Or.inr h
  have hS : va_S A s.heap s.heap [] := va_S.rf
  have hl := lv_entry ([.ref ax, .int vi, .int vj, .ref ab]) (n := 5) (Nat.le_of_ble_eq_true rfl)
  refine W.eq (congrArg (fun a => entryFrame m a 5) hargs) ?_
  rw [lg_entry_eq]
  generalize (lg_sl ([.ref ax, .int vi, .int vj, .ref ab]) ++ List.replicate (5 - (lg_sl ([.ref ax, .int vi, .int vj, .ref ab])).length) Slot.unset).toArray = ls at hl ⊢
  have hl : lv_has ls 5 [(0, .ref ax), (1, .int vi), (2, .int vj), (3, .ref ab)] := hl
  generalize hH0 : ([] : List Loc) = locs at hS ⊢
  refine lv_aload_n hx hb d_Law_meets_0 rfl (lv_at hl 3 rfl) ?_
  refine lv_iconst (v := 0) hx hb d_Law_meets_1 (by decide) ?_
  refine lv_aload_n hx hb d_Law_meets_2 rfl (lv_at hl 0 rfl) ?_
  refine lv_iload_n hx hb d_Law_meets_3 rfl (lv_at hl 1 rfl) ?_
  refine lv_iload_n hx hb d_Law_meets_4 rfl (lv_at hl 2 rfl) ?_
  have hPc := hP.sub (ws' := [(ax, .inr (0, [.int 0, .int 0, .ref ax_lessEnd, .ref ax_moreEnd, .ref ax_web, .ref ax_planeTest, .ref ax_palette, .ref ax_desk]))]) [0] rfl
  have hDc := hD.sub (ws' := [(ax, .inr (0, [.int 0, .int 0, .ref ax_lessEnd, .ref ax_moreEnd, .ref ax_web, .ref ax_planeTest, .ref ax_palette, .ref ax_desk]))]) [0] (by decide) rfl
  have hKc := hK.sub (tys' := []) [] rfl
  have hFc := va_free (wc := [(ax, .inr (0, [.int 0, .int 0, .ref ax_lessEnd, .ref ax_moreEnd, .ref ax_web, .ref ax_planeTest, .ref ax_palette, .ref ax_desk]))]) hD hS hA [0] rfl
  have hok := og_keep hO hlo hAe hS
  refine x_calli (As := [.int vi, .int vj]) (rest := [.int 0, .ref ab]) ⟨hx, hb, hml, hown, hts⟩ (c_meets0 l hfl s0 h0 dC dI s.heap.size ax ax_lessEnd ax_moreEnd ax_web ax_planeTest ax_palette ax_desk vi vj) (cwV 2 hts (gi4 mw_3_144 mw_3_145 mw_3_146 mw_1_1 mw_3_147) rfl rfl rfl (by decide +kernel) ⟨Nat.le_of_ble_eq_true rfl, Nat.le_of_ble_eq_true rfl⟩) ⟨fbx_, va_recv (q0 := 0) (ci := 0) hK hP rfl rfl, prex_ hPc hKc hDc hN hO.1 hok.1 hok.2 (List.forall_mem_cons.mpr ⟨lo_x, fun _ h => absurd h List.not_mem_nil⟩)⟩ rfl hl.1 rfl (lv_room (Nat.le_of_ble_eq_true rfl)) d_Law_meets_5 ⟨Nat.le_of_ble_eq_true rfl, Nat.le_of_ble_eq_true rfl⟩ hS (fun q _ h => hFc q h) hFc (fun q _ h => hFc q h) (fun E ce q9 u t T9 locs hal hBX hh9 hz1 hk1 hS hce hcv hcl X9 => ?_) (fun r_5 u t H locs ht hvm hp_5 hB hz1 hk1 hS => ?_)
  · skip
    obtain ⟨hpx, hPx, -, hDx⟩ := hBX
    have hpx : E = "java/util/NoSuchElementException" := hpx
    obtain ⟨hP, hD⟩ := va_join (wr := [(ab, .inl (kb, 1, .inr (.inl zb)))]) (w1 := [(ax, .inr (0, [.int 0, .int 0, .ref ax_lessEnd, .ref ax_moreEnd, .ref ax_web, .ref ax_planeTest, .ref ax_palette, .ref ax_desk]))]) hP hD [0] [1] rfl rfl (by decide) (by decide) hk1 hFc hPx hDx
    have hP : va_P (dC, dI) classes [(ab, .inl (kb, 1, .inr (.inl zb))), (ax, .inr (0, [.int 0, .int 0, .ref ax_lessEnd, .ref ax_moreEnd, .ref ax_web, .ref ax_planeTest, .ref ax_palette, .ref ax_desk]))] t.heap := hP
    have hD : va_D A [(ab, .inl (kb, 1, .inr (.inl zb))), (ax, .inr (0, [.int 0, .int 0, .ref ax_lessEnd, .ref ax_moreEnd, .ref ax_web, .ref ax_planeTest, .ref ax_palette, .ref ax_desk]))] := hD
    rcases hpx with rfl
    · skip
      refine x_catch (own := R_Law) (name := "java/util/NoSuchElementException") (g := F0 m 5 ls [.int 0, .ref ab]) X9 rfl hown [] (⟨0, 17, 20, 21⟩ : ExceptionTableEntry) [(⟨0, 17, 24, 23⟩ : ExceptionTableEntry)] htab (fun _ h => absurd h List.not_mem_nil) rfl (by decide) (hts _ (List.mem_cons_of_mem _ mw_2_212)) (thr_at h0 hO (nsAtoms R_PS 84 "java/util/NoSuchElementException") (List.mem_of_getElem? (i := 2) rfl) (.castable "java/util/NoSuchElementException" "java/util/NoSuchElementException") (by decide +kernel)) (by rw [hh9]; exact hce) hcv hcl ?_
      rw [hh9]
      refine W.eq (g2 := F0 m 20 ls [.ref q9]) rfl ?_
      refine lv_astore (lv' := [(4, .ref q9), (0, .ref ax), (1, .int vi), (2, .int vj), (3, .ref ab)]) hx hb d_Law_meets_20 hl (by decide) rfl (fun ls hl => ?_)
      refine lv_iconst (v := 1) hx hb d_Law_meets_22 (by decide) ?_
      have hP := hP.sub (ws' := [(ax, .inr (0, [.int 0, .int 0, .ref ax_lessEnd, .ref ax_moreEnd, .ref ax_web, .ref ax_planeTest, .ref ax_palette, .ref ax_desk])), (ab, .inl (kb, 1, .inr (.inl zb)))]) [1, 0] rfl
      have hD := hD.sub (ws' := [(ax, .inr (0, [.int 0, .int 0, .ref ax_lessEnd, .ref ax_moreEnd, .ref ax_web, .ref ax_planeTest, .ref ax_palette, .ref ax_desk])), (ab, .inl (kb, 1, .inr (.inl zb)))]) [1, 0] (by decide) rfl
      exact W.iret (v := 1) hx hb hr (fun t ht hW => ⟨⟨1, (zb), rfl, rfl, by rw [ht]; exact hP, va_K.moved hW.alike hK, hD⟩, hS.F ht⟩) hS.2.2 d_Law_meets_23
  · skip
    have hp_5 : False := hp_5
    obtain ⟨hP1, -, hD1⟩ := hB
    rw [ht] at hP1
    obtain ⟨hP, hD⟩ := va_join (wr := [(ab, .inl (kb, 1, .inr (.inl zb)))]) (w1 := [(ax, .inr (0, [.int 0, .int 0, .ref ax_lessEnd, .ref ax_moreEnd, .ref ax_web, .ref ax_planeTest, .ref ax_palette, .ref ax_desk]))]) hP hD [0] [1] rfl rfl (by decide) (by decide) hk1 hFc hP1 hD1
    have hP : va_P (dC, dI) classes [(ab, .inl (kb, 1, .inr (.inl zb))), (ax, .inr (0, [.int 0, .int 0, .ref ax_lessEnd, .ref ax_moreEnd, .ref ax_web, .ref ax_planeTest, .ref ax_palette, .ref ax_desk]))] H := hP
    have hD : va_D A [(ab, .inl (kb, 1, .inr (.inl zb))), (ax, .inr (0, [.int 0, .int 0, .ref ax_lessEnd, .ref ax_moreEnd, .ref ax_web, .ref ax_planeTest, .ref ax_palette, .ref ax_desk]))] := hD
    exact hp_5.elim
set_option maxHeartbeats 4000000 in
set_option maxRecDepth 100000 in
theorem c_wcorner (l : Launch) (hfl : l.stackTraces = false) (s0 : State) (h0 : T0 s0) (hnc : NC s0) (dC : Nat → ClassId) (dI : Nat → Nat → Nat) (sz : Nat) (ax ab ax_lessEnd ax_moreEnd ax_web ax_planeTest ax_palette ax_desk ax_web_near ax_planeTest_depthOf ax_planeTest_endingAt ax_planeTest_returns ax_planeTest_highest ax_planeTest_alike ax_planeTest_opposed : Nat) (kx_web_near kb : ClassId) (zx_web_near : Nat → Int32) (zx_planeTest_backLines : Int32) (zx_planeTest_clash : Int32) (zb : Nat → Int64) (vk : Int32) : Met l y_Law_corner w_Law_corner ({ frames := 7, cells := 1, slots := 6, locals := 133 }) (PreX_ s0 dC dI sz [.ref ax, .int vk, .ref ab] [(ax, .inr (0, [.int 0, .int 0, .ref ax_lessEnd, .ref ax_moreEnd, .ref ax_web, .ref ax_planeTest, .ref ax_palette, .ref ax_desk])), (ax_web, .inr (1, [.ref ax_web_near])), (ax_web_near, .inl (kx_web_near, 11, .inl zx_web_near)), (ax_planeTest, .inr (2, [.int zx_planeTest_backLines, .int zx_planeTest_clash, .ref ax_planeTest_depthOf, .ref ax_planeTest_endingAt, .ref ax_planeTest_returns, .ref ax_planeTest_highest, .ref ax_planeTest_alike, .ref ax_planeTest_opposed])), (ab, .inl (kb, 1, .inr (.inl zb)))] [(kx_web_near, .int), (kb, .long)]) (va_Qi (fun (r : Int32) (u : (Nat → Int32) × (Nat → Int64)) => r = 1) (fun u t => End_ dC dI (va_A [(ax, .inr (0, [.int 0, .int 0, .ref ax_lessEnd, .ref ax_moreEnd, .ref ax_web, .ref ax_planeTest, .ref ax_palette, .ref ax_desk])), (ax_web, .inr (1, [.ref ax_web_near])), (ax_web_near, .inl (kx_web_near, 11, .inl zx_web_near)), (ax_planeTest, .inr (2, [.int zx_planeTest_backLines, .int zx_planeTest_clash, .ref ax_planeTest_depthOf, .ref ax_planeTest_endingAt, .ref ax_planeTest_returns, .ref ax_planeTest_highest, .ref ax_planeTest_alike, .ref ax_planeTest_opposed])), (ab, .inl (kb, 1, .inr (.inl zb)))] sz) [(kx_web_near, .int), (kb, .long)] [(ax, .inr (0, [.int 0, .int 0, .ref ax_lessEnd, .ref ax_moreEnd, .ref ax_web, .ref ax_planeTest, .ref ax_palette, .ref ax_desk])), (ax_web, .inr (1, [.ref ax_web_near])), (ax_web_near, .inl (kx_web_near, 11, .inl u.1)), (ax_planeTest, .inr (2, [.int zx_planeTest_backLines, .int zx_planeTest_clash, .ref ax_planeTest_depthOf, .ref ax_planeTest_endingAt, .ref ax_planeTest_returns, .ref ax_planeTest_highest, .ref ax_planeTest_alike, .ref ax_planeTest_opposed])), (ab, .inl (kb, 1, .inr (.inl u.2)))] t) (va_A [(ax, .inr (0, [.int 0, .int 0, .ref ax_lessEnd, .ref ax_moreEnd, .ref ax_web, .ref ax_planeTest, .ref ax_palette, .ref ax_desk])), (ax_web, .inr (1, [.ref ax_web_near])), (ax_web_near, .inl (kx_web_near, 11, .inl zx_web_near)), (ax_planeTest, .inr (2, [.int zx_planeTest_backLines, .int zx_planeTest_clash, .ref ax_planeTest_depthOf, .ref ax_planeTest_endingAt, .ref ax_planeTest_returns, .ref ax_planeTest_highest, .ref ax_planeTest_alike, .ref ax_planeTest_opposed])), (ab, .inl (kb, 1, .inr (.inl zb)))] sz)) 1 6 (va_A [(ax, .inr (0, [.int 0, .int 0, .ref ax_lessEnd, .ref ax_moreEnd, .ref ax_web, .ref ax_planeTest, .ref ax_palette, .ref ax_desk])), (ax_web, .inr (1, [.ref ax_web_near])), (ax_web_near, .inl (kx_web_near, 11, .inl zx_web_near)), (ax_planeTest, .inr (2, [.int zx_planeTest_backLines, .int zx_planeTest_clash, .ref ax_planeTest_depthOf, .ref ax_planeTest_endingAt, .ref ax_planeTest_returns, .ref ax_planeTest_highest, .ref ax_planeTest_alike, .ref ax_planeTest_opposed])), (ab, .inl (kb, 1, .inr (.inl zb)))] sz) := by
  refine va_MetW (cc := b_Law_corner) (maxL := 4) (ret := (some .int)) (by decide) rfl ?_
  intro p e s m args below meth c s₁ B hml hv
  have htab := x_tab B (atoms_spec (ws := w_Law_corner) B.pre _ List.mem_cons_self)
  obtain ⟨hargs9, hsz9, hP9, hK9, hD9, hN9, hO, hlo⟩ := hv
  have hv : Pre_ dC dI sz [.ref ax, .int vk, .ref ab] [(ax, .inr (0, [.int 0, .int 0, .ref ax_lessEnd, .ref ax_moreEnd, .ref ax_web, .ref ax_planeTest, .ref ax_palette, .ref ax_desk])), (ax_web, .inr (1, [.ref ax_web_near])), (ax_web_near, .inl (kx_web_near, 11, .inl zx_web_near)), (ax_planeTest, .inr (2, [.int zx_planeTest_backLines, .int zx_planeTest_clash, .ref ax_planeTest_depthOf, .ref ax_planeTest_endingAt, .ref ax_planeTest_returns, .ref ax_planeTest_highest, .ref ax_planeTest_alike, .ref ax_planeTest_opposed])), (ab, .inl (kb, 1, .inr (.inl zb)))] [(kx_web_near, .int), (kb, .long)] args s := ⟨hargs9, hsz9, hP9, hK9, hD9, hN9⟩
  have lo_x : s0.heap.size ≤ ax := hlo (ax, .inr (0, [.int 0, .int 0, .ref ax_lessEnd, .ref ax_moreEnd, .ref ax_web, .ref ax_planeTest, .ref ax_palette, .ref ax_desk])) (List.mem_of_getElem? (i := 0) rfl)
  have lo_x_web : s0.heap.size ≤ ax_web := hlo (ax_web, .inr (1, [.ref ax_web_near])) (List.mem_of_getElem? (i := 1) rfl)
  have lo_x_web_near : s0.heap.size ≤ ax_web_near := hlo (ax_web_near, .inl (kx_web_near, 11, .inl zx_web_near)) (List.mem_of_getElem? (i := 2) rfl)
  have lo_x_planeTest : s0.heap.size ≤ ax_planeTest := hlo (ax_planeTest, .inr (2, [.int zx_planeTest_backLines, .int zx_planeTest_clash, .ref ax_planeTest_depthOf, .ref ax_planeTest_endingAt, .ref ax_planeTest_returns, .ref ax_planeTest_highest, .ref ax_planeTest_alike, .ref ax_planeTest_opposed])) (List.mem_of_getElem? (i := 3) rfl)
  have lo_b : s0.heap.size ≤ ab := hlo (ab, .inl (kb, 1, .inr (.inl zb))) (List.mem_of_getElem? (i := 4) rfl)
  obtain ⟨hargs, hsz, hP, hK, hD0, hN⟩ := hv
  have hx := B.exec
  have hb := B.bytes
  have hr := B.returns
  have hts := atoms_spec (ws := w_Law_corner) B.pre
  have hown : s.vm.findClass R_Law = some m.cls := findClass_of_methodNamed B.named
  have hlocks := B.notSynchronized
  subst hsz
  have hD := hD0.self (sz := s.heap.size)
  generalize hAe : va_A [(ax, .inr (0, [.int 0, .int 0, .ref ax_lessEnd, .ref ax_moreEnd, .ref ax_web, .ref ax_planeTest, .ref ax_palette, .ref ax_desk])), (ax_web, .inr (1, [.ref ax_web_near])), (ax_web_near, .inl (kx_web_near, 11, .inl zx_web_near)), (ax_planeTest, .inr (2, [.int zx_planeTest_backLines, .int zx_planeTest_clash, .ref ax_planeTest_depthOf, .ref ax_planeTest_endingAt, .ref ax_planeTest_returns, .ref ax_planeTest_highest, .ref ax_planeTest_alike, .ref ax_planeTest_opposed])), (ab, .inl (kb, 1, .inr (.inl zb)))] s.heap.size = A at hD ⊢
  have hA : ∀ q : Nat, s.heap.size ≤ q → A q := fun q h => by rw [← hAe]; exact Or.inr h
  have hS : va_S A s.heap s.heap [] := va_S.rf
  have hl := lv_entry ([.ref ax, .int vk, .ref ab]) (n := 4) (Nat.le_of_ble_eq_true rfl)
  refine W.eq (congrArg (fun a => entryFrame m a 4) hargs) ?_
  rw [lg_entry_eq]
  generalize (lg_sl ([.ref ax, .int vk, .ref ab]) ++ List.replicate (4 - (lg_sl ([.ref ax, .int vk, .ref ab])).length) Slot.unset).toArray = ls at hl ⊢
  have hl : lv_has ls 4 [(0, .ref ax), (1, .int vk), (2, .ref ab)] := hl
  generalize hH0 : ([] : List Loc) = locs at hS ⊢
  refine lv_aload_n hx hb d_Law_corner_0 rfl (lv_at hl 2 rfl) ?_
  refine lv_iconst (v := 0) hx hb d_Law_corner_1 (by decide) ?_
  refine lv_aload_n hx hb d_Law_corner_2 rfl (lv_at hl 0 rfl) ?_
  refine lv_iload_n hx hb d_Law_corner_3 rfl (lv_at hl 1 rfl) ?_
  have hPc := hP.sub (ws' := [(ax, .inr (0, [.int 0, .int 0, .ref ax_lessEnd, .ref ax_moreEnd, .ref ax_web, .ref ax_planeTest, .ref ax_palette, .ref ax_desk])), (ax_web, .inr (1, [.ref ax_web_near])), (ax_web_near, .inl (kx_web_near, 11, .inl zx_web_near)), (ax_planeTest, .inr (2, [.int zx_planeTest_backLines, .int zx_planeTest_clash, .ref ax_planeTest_depthOf, .ref ax_planeTest_endingAt, .ref ax_planeTest_returns, .ref ax_planeTest_highest, .ref ax_planeTest_alike, .ref ax_planeTest_opposed]))]) [0, 1, 2, 3] rfl
  have hDc := hD.sub (ws' := [(ax, .inr (0, [.int 0, .int 0, .ref ax_lessEnd, .ref ax_moreEnd, .ref ax_web, .ref ax_planeTest, .ref ax_palette, .ref ax_desk])), (ax_web, .inr (1, [.ref ax_web_near])), (ax_web_near, .inl (kx_web_near, 11, .inl zx_web_near)), (ax_planeTest, .inr (2, [.int zx_planeTest_backLines, .int zx_planeTest_clash, .ref ax_planeTest_depthOf, .ref ax_planeTest_endingAt, .ref ax_planeTest_returns, .ref ax_planeTest_highest, .ref ax_planeTest_alike, .ref ax_planeTest_opposed]))]) [0, 1, 2, 3] (by decide) rfl
  have hKc := hK.sub (tys' := [(kx_web_near, .int)]) [0] rfl
  have hFc := va_free (wc := [(ax, .inr (0, [.int 0, .int 0, .ref ax_lessEnd, .ref ax_moreEnd, .ref ax_web, .ref ax_planeTest, .ref ax_palette, .ref ax_desk])), (ax_web, .inr (1, [.ref ax_web_near])), (ax_web_near, .inl (kx_web_near, 11, .inl zx_web_near)), (ax_planeTest, .inr (2, [.int zx_planeTest_backLines, .int zx_planeTest_clash, .ref ax_planeTest_depthOf, .ref ax_planeTest_endingAt, .ref ax_planeTest_returns, .ref ax_planeTest_highest, .ref ax_planeTest_alike, .ref ax_planeTest_opposed]))]) hD hS hA [0, 1, 2, 3] rfl
  have hok := og_keep hO hlo hAe hS
  refine x_calli (As := [.int vk]) (rest := [.int 0, .ref ab]) ⟨hx, hb, hml, hown, hts⟩ (c_corner0 l hfl s0 h0 dC dI s.heap.size ax ax_lessEnd ax_moreEnd ax_web ax_planeTest ax_palette ax_desk ax_web_near ax_planeTest_depthOf ax_planeTest_endingAt ax_planeTest_returns ax_planeTest_highest ax_planeTest_alike ax_planeTest_opposed kx_web_near zx_web_near zx_planeTest_backLines zx_planeTest_clash vk) (cwV 1 hts (gi4 mw_3_52 mw_3_53 mw_3_54 mw_1_1 mw_3_55) rfl rfl rfl (by decide +kernel) ⟨Nat.le_of_ble_eq_true rfl, Nat.le_of_ble_eq_true rfl⟩) ⟨fbx_, va_recv (q0 := 0) (ci := 0) hK hP rfl rfl, prex_ hPc hKc hDc hN hO.1 hok.1 hok.2 (List.forall_mem_cons.mpr ⟨lo_x, List.forall_mem_cons.mpr ⟨lo_x_web, List.forall_mem_cons.mpr ⟨lo_x_web_near, List.forall_mem_cons.mpr ⟨lo_x_planeTest, fun _ h => absurd h List.not_mem_nil⟩⟩⟩⟩)⟩ rfl hl.1 rfl (lv_room (Nat.le_of_ble_eq_true rfl)) d_Law_corner_4 ⟨Nat.le_of_ble_eq_true rfl, Nat.le_of_ble_eq_true rfl⟩ hS (fun q _ h => hFc q h) hFc (fun q _ h => hFc q h) (fun E ce q9 wx_web_near_4 t T9 locs hal hBX hh9 hz1 hk1 hS hce hcv hcl X9 => ?_) (fun r_4 wx_web_near_4 t H locs ht hvm hp_4 hB hz1 hk1 hS => ?_)
  · skip
    obtain ⟨hpx, hPx, -, hDx⟩ := hBX
    have hpx : E = "java/lang/IllegalStateException" := hpx
    obtain ⟨hP, hD⟩ := va_join (wr := [(ab, .inl (kb, 1, .inr (.inl zb)))]) (w1 := [(ax, .inr (0, [.int 0, .int 0, .ref ax_lessEnd, .ref ax_moreEnd, .ref ax_web, .ref ax_planeTest, .ref ax_palette, .ref ax_desk])), (ax_web, .inr (1, [.ref ax_web_near])), (ax_web_near, .inl (kx_web_near, 11, .inl wx_web_near_4)), (ax_planeTest, .inr (2, [.int zx_planeTest_backLines, .int zx_planeTest_clash, .ref ax_planeTest_depthOf, .ref ax_planeTest_endingAt, .ref ax_planeTest_returns, .ref ax_planeTest_highest, .ref ax_planeTest_alike, .ref ax_planeTest_opposed]))]) hP hD [0, 1, 2, 3] [4] rfl rfl (by decide) (by decide) hk1 hFc hPx hDx
    have hP : va_P (dC, dI) classes [(ab, .inl (kb, 1, .inr (.inl zb))), (ax, .inr (0, [.int 0, .int 0, .ref ax_lessEnd, .ref ax_moreEnd, .ref ax_web, .ref ax_planeTest, .ref ax_palette, .ref ax_desk])), (ax_web, .inr (1, [.ref ax_web_near])), (ax_web_near, .inl (kx_web_near, 11, .inl wx_web_near_4)), (ax_planeTest, .inr (2, [.int zx_planeTest_backLines, .int zx_planeTest_clash, .ref ax_planeTest_depthOf, .ref ax_planeTest_endingAt, .ref ax_planeTest_returns, .ref ax_planeTest_highest, .ref ax_planeTest_alike, .ref ax_planeTest_opposed]))] t.heap := hP
    have hD : va_D A [(ab, .inl (kb, 1, .inr (.inl zb))), (ax, .inr (0, [.int 0, .int 0, .ref ax_lessEnd, .ref ax_moreEnd, .ref ax_web, .ref ax_planeTest, .ref ax_palette, .ref ax_desk])), (ax_web, .inr (1, [.ref ax_web_near])), (ax_web_near, .inl (kx_web_near, 11, .inl wx_web_near_4)), (ax_planeTest, .inr (2, [.int zx_planeTest_backLines, .int zx_planeTest_clash, .ref ax_planeTest_depthOf, .ref ax_planeTest_endingAt, .ref ax_planeTest_returns, .ref ax_planeTest_highest, .ref ax_planeTest_alike, .ref ax_planeTest_opposed]))] := hD
    rcases hpx with rfl
    · skip
      refine x_catch (own := R_Law) (name := "java/lang/IllegalStateException") (g := F0 m 4 ls [.int 0, .ref ab]) X9 rfl hown [] (⟨0, 9, 12, 15⟩ : ExceptionTableEntry) [(⟨0, 9, 15, 13⟩ : ExceptionTableEntry)] htab (fun _ h => absurd h List.not_mem_nil) rfl (by decide) (hts _ (List.mem_cons_of_mem _ mw_2_116)) (thr_at h0 hO (Bundle.ownAtoms R_PS 70 "java/lang/IllegalStateException" ["java/lang/RuntimeException", "java/lang/Exception"]) (List.mem_of_getElem? (i := 1) rfl) (.castable "java/lang/IllegalStateException" "java/lang/IllegalStateException") (by decide +kernel)) (by rw [hh9]; exact hce) hcv hcl ?_
      rw [hh9]
      refine W.eq (g2 := F0 m 12 ls [.ref q9]) rfl ?_
      refine lv_astore_n (lv' := [(3, .ref q9), (0, .ref ax), (1, .int vk), (2, .ref ab)]) hx hb d_Law_corner_12 rfl hl (by decide) rfl (fun ls hl => ?_)
      refine lv_iconst (v := 1) hx hb d_Law_corner_13 (by decide) ?_
      have hP := hP.sub (ws' := [(ax, .inr (0, [.int 0, .int 0, .ref ax_lessEnd, .ref ax_moreEnd, .ref ax_web, .ref ax_planeTest, .ref ax_palette, .ref ax_desk])), (ax_web, .inr (1, [.ref ax_web_near])), (ax_web_near, .inl (kx_web_near, 11, .inl wx_web_near_4)), (ax_planeTest, .inr (2, [.int zx_planeTest_backLines, .int zx_planeTest_clash, .ref ax_planeTest_depthOf, .ref ax_planeTest_endingAt, .ref ax_planeTest_returns, .ref ax_planeTest_highest, .ref ax_planeTest_alike, .ref ax_planeTest_opposed])), (ab, .inl (kb, 1, .inr (.inl zb)))]) [1, 2, 3, 4, 0] rfl
      have hD := hD.sub (ws' := [(ax, .inr (0, [.int 0, .int 0, .ref ax_lessEnd, .ref ax_moreEnd, .ref ax_web, .ref ax_planeTest, .ref ax_palette, .ref ax_desk])), (ax_web, .inr (1, [.ref ax_web_near])), (ax_web_near, .inl (kx_web_near, 11, .inl wx_web_near_4)), (ax_planeTest, .inr (2, [.int zx_planeTest_backLines, .int zx_planeTest_clash, .ref ax_planeTest_depthOf, .ref ax_planeTest_endingAt, .ref ax_planeTest_returns, .ref ax_planeTest_highest, .ref ax_planeTest_alike, .ref ax_planeTest_opposed])), (ab, .inl (kb, 1, .inr (.inl zb)))]) [1, 2, 3, 4, 0] (by decide) rfl
      exact W.iret (v := 1) hx hb hr (fun t ht hW => ⟨⟨1, (wx_web_near_4, zb), rfl, rfl, by rw [ht]; exact hP, va_K.moved hW.alike hK, hD⟩, hS.F ht⟩) hS.2.2 d_Law_corner_14
  · skip
    have hp_4 : False := hp_4
    obtain ⟨hP1, -, hD1⟩ := hB
    rw [ht] at hP1
    obtain ⟨hP, hD⟩ := va_join (wr := [(ab, .inl (kb, 1, .inr (.inl zb)))]) (w1 := [(ax, .inr (0, [.int 0, .int 0, .ref ax_lessEnd, .ref ax_moreEnd, .ref ax_web, .ref ax_planeTest, .ref ax_palette, .ref ax_desk])), (ax_web, .inr (1, [.ref ax_web_near])), (ax_web_near, .inl (kx_web_near, 11, .inl wx_web_near_4)), (ax_planeTest, .inr (2, [.int zx_planeTest_backLines, .int zx_planeTest_clash, .ref ax_planeTest_depthOf, .ref ax_planeTest_endingAt, .ref ax_planeTest_returns, .ref ax_planeTest_highest, .ref ax_planeTest_alike, .ref ax_planeTest_opposed]))]) hP hD [0, 1, 2, 3] [4] rfl rfl (by decide) (by decide) hk1 hFc hP1 hD1
    have hP : va_P (dC, dI) classes [(ab, .inl (kb, 1, .inr (.inl zb))), (ax, .inr (0, [.int 0, .int 0, .ref ax_lessEnd, .ref ax_moreEnd, .ref ax_web, .ref ax_planeTest, .ref ax_palette, .ref ax_desk])), (ax_web, .inr (1, [.ref ax_web_near])), (ax_web_near, .inl (kx_web_near, 11, .inl wx_web_near_4)), (ax_planeTest, .inr (2, [.int zx_planeTest_backLines, .int zx_planeTest_clash, .ref ax_planeTest_depthOf, .ref ax_planeTest_endingAt, .ref ax_planeTest_returns, .ref ax_planeTest_highest, .ref ax_planeTest_alike, .ref ax_planeTest_opposed]))] H := hP
    have hD : va_D A [(ab, .inl (kb, 1, .inr (.inl zb))), (ax, .inr (0, [.int 0, .int 0, .ref ax_lessEnd, .ref ax_moreEnd, .ref ax_web, .ref ax_planeTest, .ref ax_palette, .ref ax_desk])), (ax_web, .inr (1, [.ref ax_web_near])), (ax_web_near, .inl (kx_web_near, 11, .inl wx_web_near_4)), (ax_planeTest, .inr (2, [.int zx_planeTest_backLines, .int zx_planeTest_clash, .ref ax_planeTest_depthOf, .ref ax_planeTest_endingAt, .ref ax_planeTest_returns, .ref ax_planeTest_highest, .ref ax_planeTest_alike, .ref ax_planeTest_opposed]))] := hD
    exact hp_4.elim
