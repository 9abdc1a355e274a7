set_option maxHeartbeats 4000000 in
set_option maxRecDepth 100000 in
theorem c_paintLeastG (l : Launch) (dC : Nat → ClassId) (dI : Nat → Nat → Nat) (sz : Nat) (aq aw aq_shades aw_near : Nat) (kq_shades kw_near : ClassId) (zq_there : Int32) (zq_allowed : Int32) (zq_shades : Nat → Int32) (zw_near : Nat → Int32) (v2 : Int32) (R : Int32 × Int32 × Int32 × (Nat → Int32)) (hR : F_paintLeastG zq_allowed zq_shades zw_near v2 = some R) : Met l y_Pal_paintLeast w_Pal_paintLeast ({ frames := 13, cells := 0, slots := 0, locals := 309 }) (Pre_ dC dI sz [.ref aq, .ref aw, .int v2] [(aq, .inr (3, [.int zq_there, .int zq_allowed, .ref aq_shades])), (aq_shades, .inl (kq_shades, 10, .inl zq_shades)), (aw, .inr (1, [.ref aw_near])), (aw_near, .inl (kw_near, 11, .inl zw_near))] [(kq_shades, .int), (kw_near, .int)]) (va_Qi (fun (r : Int32) (u : Int32 × Int32 × (Nat → Int32)) => (r, u) = R) (fun u t => End_ dC dI (va_A [(aq, .inr (3, [.int zq_there, .int zq_allowed, .ref aq_shades])), (aq_shades, .inl (kq_shades, 10, .inl zq_shades)), (aw, .inr (1, [.ref aw_near])), (aw_near, .inl (kw_near, 11, .inl zw_near))] sz) [(kq_shades, .int), (kw_near, .int)] [(aq, .inr (3, [.int u.1, .int u.2.1, .ref aq_shades])), (aq_shades, .inl (kq_shades, 10, .inl u.2.2)), (aw, .inr (1, [.ref aw_near])), (aw_near, .inl (kw_near, 11, .inl zw_near))] t) (va_A [(aq, .inr (3, [.int zq_there, .int zq_allowed, .ref aq_shades])), (aq_shades, .inl (kq_shades, 10, .inl zq_shades)), (aw, .inr (1, [.ref aw_near])), (aw_near, .inl (kw_near, 11, .inl zw_near))] sz)) 0 0 (va_A [(aq, .inr (3, [.int zq_there, .int zq_allowed, .ref aq_shades])), (aq_shades, .inl (kq_shades, 10, .inl zq_shades)), (aw, .inr (1, [.ref aw_near])), (aw_near, .inl (kw_near, 11, .inl zw_near))] sz) := by
  refine Met.ofW (cc := b_Pal_paintLeast) (maxL := 4) (ret := (some .int)) (by decide) rfl ?_
  intro p e s m args below meth c s₁ B hml hv
  obtain ⟨hargs, hsz, hP, hK, hD0, hN⟩ := hv
  have hx := B.exec
  have hb := B.bytes
  have hr := B.returns
  have hts := atoms_spec (ws := w_Pal_paintLeast) B.pre
  have hown : s.vm.findClass R_Pal = some m.cls := findClass_of_methodNamed B.named
  have hlocks := B.notSynchronized
  subst hsz
  have hD := hD0.self (sz := s.heap.size)
  generalize hAe : va_A [(aq, .inr (3, [.int zq_there, .int zq_allowed, .ref aq_shades])), (aq_shades, .inl (kq_shades, 10, .inl zq_shades)), (aw, .inr (1, [.ref aw_near])), (aw_near, .inl (kw_near, 11, .inl zw_near))] s.heap.size = A at hD ⊢
  have hA : ∀ q : Nat, s.heap.size ≤ q → A q := fun q h => by rw [← hAe]; exact Or.inr h
  have hS : va_S A s.heap s.heap [] := va_S.rf
  have hl := lv_entry ([.ref aq, .ref aw, .int v2]) (n := 4) (Nat.le_of_ble_eq_true rfl)
  refine W.eq (congrArg (fun a => entryFrame m a 4) hargs) ?_
  rw [lg_entry_eq]
  generalize (lg_sl ([.ref aq, .ref aw, .int v2]) ++ List.replicate (4 - (lg_sl ([.ref aq, .ref aw, .int v2])).length) Slot.unset).toArray = ls at hl ⊢
  have hl : lv_has ls 4 [(0, .ref aq), (1, .ref aw), (2, .int v2)] := hl
  generalize hH0 : ([] : List Loc) = locs at hS ⊢
  have hI := hR.symm
  rw [F_paintLeastG] at hI
  refine lv_aload_n hx hb d_Pal_paintLeast_0 rfl (lv_at hl 0 rfl) ?_
  refine lv_iload_n hx hb d_Pal_paintLeast_1 rfl (lv_at hl 2 rfl) ?_
  refine va_put (D := (dC, dI)) (ci := 3) (v := .int v2) (ty := .int) (C := R_Pal) (T := F_Pal) (N := 3) hx hb hts (fun w h => List.mem_cons_of_mem _ (in_Pal w h)) t_Pal t_Pal_ok n_Pal hown hK hP hD hS 0 rfl rfl 0 (by decide) (hts _ (List.mem_cons_of_mem _ mw_1_73)) (fun _ h9 => h9) rfl (by decide +kernel) rfl rfl (Nat.le_of_ble_eq_true rfl) d_Pal_paintLeast_2 (fun H locs hP hD hS => ?_)
  have hP : va_P (dC, dI) classes [(aq, .inr (3, [.int v2, .int zq_allowed, .ref aq_shades])), (aq_shades, .inl (kq_shades, 10, .inl zq_shades)), (aw, .inr (1, [.ref aw_near])), (aw_near, .inl (kw_near, 11, .inl zw_near))] H := hP
  have hD : va_D A [(aq, .inr (3, [.int v2, .int zq_allowed, .ref aq_shades])), (aq_shades, .inl (kq_shades, 10, .inl zq_shades)), (aw, .inr (1, [.ref aw_near])), (aw_near, .inl (kw_near, 11, .inl zw_near))] := hD
  refine lv_iconst (v := 0) hx hb d_Pal_paintLeast_5 (by decide) ?_
  refine lv_istore_n (lv' := [(3, .int 0), (0, .ref aq), (1, .ref aw), (2, .int v2)]) hx hb d_Pal_paintLeast_6 rfl hl (by decide) rfl (fun ls hl => ?_)
  obtain ⟨K_7, hK_7⟩ : ∃ K : Int32 → Int32 → (Nat → Int32) → Option (Int32 × Int32 × Int32 × (Nat → Int32)), K = (fun v3_7 wq_allowed_7 wq_shades_7 => some ((10 : Int32), v2, wq_allowed_7, wq_shades_7)) := ⟨_, rfl⟩
  have X_7 : ∀ (k_7 : Nat) (v3_7 : Int32) (wq_allowed_7 : Int32) (wq_shades_7 : Nat → Int32) (H : Heap) (locs : List Loc) (ls : Array Slot), some R = K_7 v3_7 wq_allowed_7 wq_shades_7 → va_P (dC, dI) classes [(aq, .inr (3, [.int v2, .int wq_allowed_7, .ref aq_shades])), (aq_shades, .inl (kq_shades, 10, .inl wq_shades_7)), (aw, .inr (1, [.ref aw_near])), (aw_near, .inl (kw_near, 11, .inl zw_near))] H → va_D A [(aq, .inr (3, [.int v2, .int wq_allowed_7, .ref aq_shades])), (aq_shades, .inl (kq_shades, 10, .inl wq_shades_7)), (aw, .inr (1, [.ref aw_near])), (aw_near, .inl (kw_near, 11, .inl zw_near))] → va_S A s.heap H locs → lv_has ls 4 [(0, .ref aq), (1, .ref aw), (2, .int v2), (3, .int v3_7)] → W p l e (headSpec w_Pal_paintLeast ({ frames := 13, cells := 0, slots := 0, locals := 309 })).room s m args below meth c H locs 0 0 (MQ below (va_Qi (fun (r : Int32) (u : Int32 × Int32 × (Nat → Int32)) => (r, u) = R) (fun u t => End_ dC dI A [(kq_shades, .int), (kw_near, .int)] [(aq, .inr (3, [.int u.1, .int u.2.1, .ref aq_shades])), (aq_shades, .inl (kq_shades, 10, .inl u.2.2)), (aw, .inr (1, [.ref aw_near])), (aw_near, .inl (kw_near, 11, .inl zw_near))] t) A) args s 0 0 A) (F0 m 36 ls []) := by
    intro k_7 v3_7 wq_allowed_7 wq_shades_7 H locs ls hI hP hD hS hl
    rw [hK_7] at hI
    refine lv_bipush (v := 10) hx hb d_Pal_paintLeast_36 (by decide) ?_
    exact W.iret (v := 10) hx hb hr (fun t ht hW => ⟨⟨10, (v2, wq_allowed_7, wq_shades_7), rfl, (Option.some.inj hI).symm, by rw [ht]; exact hP, va_K.moved hW.alike hK, hD⟩, hS.F ht⟩) hS.2.2 d_Pal_paintLeast_38
  have L_7 : ∀ (n_7 k_7 : Nat) (v3_7 : Int32) (wq_allowed_7 : Int32) (wq_shades_7 : Nat → Int32) (H : Heap) (locs : List Loc) (ls : Array Slot), some R = F_paintLeastG_L7 K_7 zw_near v2 n_7 v3_7 wq_allowed_7 wq_shades_7 → va_P (dC, dI) classes [(aq, .inr (3, [.int v2, .int wq_allowed_7, .ref aq_shades])), (aq_shades, .inl (kq_shades, 10, .inl wq_shades_7)), (aw, .inr (1, [.ref aw_near])), (aw_near, .inl (kw_near, 11, .inl zw_near))] H → va_D A [(aq, .inr (3, [.int v2, .int wq_allowed_7, .ref aq_shades])), (aq_shades, .inl (kq_shades, 10, .inl wq_shades_7)), (aw, .inr (1, [.ref aw_near])), (aw_near, .inl (kw_near, 11, .inl zw_near))] → va_S A s.heap H locs → lv_has ls 4 [(0, .ref aq), (1, .ref aw), (2, .int v2), (3, .int v3_7)] → W p l e (headSpec w_Pal_paintLeast ({ frames := 13, cells := 0, slots := 0, locals := 309 })).room s m args below meth c H locs 0 0 (MQ below (va_Qi (fun (r : Int32) (u : Int32 × Int32 × (Nat → Int32)) => (r, u) = R) (fun u t => End_ dC dI A [(kq_shades, .int), (kw_near, .int)] [(aq, .inr (3, [.int u.1, .int u.2.1, .ref aq_shades])), (aq_shades, .inl (kq_shades, 10, .inl u.2.2)), (aw, .inr (1, [.ref aw_near])), (aw_near, .inl (kw_near, 11, .inl zw_near))] t) A) args s 0 0 A) (F0 m 7 ls []) := by
    intro n_7
    induction n_7 with
    | zero =>
      intro k_7 v3_7 wq_allowed_7 wq_shades_7 H locs ls hI hP hD hS hl
      rw [F_paintLeastG_L7] at hI
      exact absurd hI (ob_no _)
    | succ n_7 ih_7 =>
      intro k_7 v3_7 wq_allowed_7 wq_shades_7 H locs ls hI hP hD hS hl
      rw [F_paintLeastG_L7] at hI
      refine lv_iload_n hx hb d_Pal_paintLeast_7 rfl (lv_at hl 3 rfl) ?_
      refine lv_bipush (v := 10) hx hb d_Pal_paintLeast_8 (by decide) ?_
      refine lv_icmp_gt (tgt := 36) hx hb d_Pal_paintLeast_10 rfl (fun hc_10 => ?_) (fun hc_10 => ?_)
      · skip
        have hI := hI.trans (if_pos hc_10)
        have hl := lv_sub hl [0, 1, 2, 3] rfl
        exact X_7 0 _ _ _ _ _ _ hI hP hD hS hl
      · skip
        have hI := hI.trans (if_neg hc_10)
        refine lv_aload_n hx hb d_Pal_paintLeast_13 rfl (lv_at hl 0 rfl) ?_
        refine lv_iload_n hx hb d_Pal_paintLeast_14 rfl (lv_at hl 3 rfl) ?_
        refine va_put (D := (dC, dI)) (ci := 3) (v := .int v3_7) (ty := .int) (C := R_Pal) (T := F_Pal) (N := 3) hx hb hts (fun w h => List.mem_cons_of_mem _ (in_Pal w h)) t_Pal t_Pal_ok n_Pal hown hK hP hD hS 0 rfl rfl 1 (by decide) (hts _ (List.mem_cons_of_mem _ mw_1_74)) (fun _ h9 => h9) rfl (by decide +kernel) rfl rfl (Nat.le_of_ble_eq_true rfl) d_Pal_paintLeast_15 (fun H locs hP hD hS => ?_)
        have hP : va_P (dC, dI) classes [(aq, .inr (3, [.int v2, .int v3_7, .ref aq_shades])), (aq_shades, .inl (kq_shades, 10, .inl wq_shades_7)), (aw, .inr (1, [.ref aw_near])), (aw_near, .inl (kw_near, 11, .inl zw_near))] H := hP
        have hD : va_D A [(aq, .inr (3, [.int v2, .int v3_7, .ref aq_shades])), (aq_shades, .inl (kq_shades, 10, .inl wq_shades_7)), (aw, .inr (1, [.ref aw_near])), (aw_near, .inl (kw_near, 11, .inl zw_near))] := hD
        refine lv_aload_n hx hb d_Pal_paintLeast_18 rfl (lv_at hl 0 rfl) ?_
        refine lv_aload_n hx hb d_Pal_paintLeast_19 rfl (lv_at hl 1 rfl) ?_
        refine lv_iconst (v := 0) hx hb d_Pal_paintLeast_20 (by decide) ?_
        refine lv_iconst (v := 0) hx hb d_Pal_paintLeast_21 (by decide) ?_
        obtain ⟨p_22, hg_22, hI⟩ := ob_bd hI
        have hPc := hP.sub (ws' := [(aq, .inr (3, [.int v2, .int v3_7, .ref aq_shades])), (aq_shades, .inl (kq_shades, 10, .inl wq_shades_7)), (aw, .inr (1, [.ref aw_near])), (aw_near, .inl (kw_near, 11, .inl zw_near))]) [0, 1, 2, 3] rfl
        have hDc := hD.sub (ws' := [(aq, .inr (3, [.int v2, .int v3_7, .ref aq_shades])), (aq_shades, .inl (kq_shades, 10, .inl wq_shades_7)), (aw, .inr (1, [.ref aw_near])), (aw_near, .inl (kw_near, 11, .inl zw_near))]) [0, 1, 2, 3] (by decide) rfl
        have hKc := hK.sub (tys' := [(kq_shades, .int), (kw_near, .int)]) [0, 1] rfl
        have hFc := va_free (wc := [(aq, .inr (3, [.int v2, .int v3_7, .ref aq_shades])), (aq_shades, .inl (kq_shades, 10, .inl wq_shades_7)), (aw, .inr (1, [.ref aw_near])), (aw_near, .inl (kw_near, 11, .inl zw_near))]) hD hS hA [0, 1, 2, 3] rfl
        refine va_calli (va_runV (As := [.ref aw, .int 0, .int 0]) (rest := []) ⟨hx, hb, hml, hown, hts⟩ (c_paintFrom_11 l dC dI H.size aq aw aq_shades aw_near kq_shades kw_near v2 v3_7 wq_shades_7 zw_near 0 0 p_22 hg_22) (cwV 3 hts (gi4 mw_2_34 mw_2_36 mw_p_18 mw_1_4 mw_2_37) rfl rfl rfl (by decide +kernel) ⟨Nat.le_of_ble_eq_true rfl, Nat.le_of_ble_eq_true rfl⟩) ⟨fb_, va_recv (q0 := 0) (ci := 3) hK hP rfl rfl, pre_ hPc hKc hDc hN⟩ rfl rfl hl.1 rfl (lv_room (Nat.le_of_ble_eq_true rfl)) d_Pal_paintLeast_22 ⟨Nat.le_of_ble_eq_true rfl, Nat.le_of_ble_eq_true rfl⟩) hS (fun q _ h => hFc q h) hFc (fun r_22 wq_shades_22 t H locs ht hvm hp_22 hB hz1 hk1 hS => ?_)
        obtain ⟨hP1, -, hD1⟩ := hB
        rw [ht] at hP1
        obtain ⟨hP, hD⟩ := va_join (wr := []) (w1 := [(aq, .inr (3, [.int v2, .int v3_7, .ref aq_shades])), (aq_shades, .inl (kq_shades, 10, .inl wq_shades_22)), (aw, .inr (1, [.ref aw_near])), (aw_near, .inl (kw_near, 11, .inl zw_near))]) hP hD [0, 1, 2, 3] [] rfl rfl (by decide) (by decide) hk1 hFc hP1 hD1
        obtain ⟨hp_22, hz_22⟩ := hp_22
        have hp_22 : (r_22, wq_shades_22) = p_22 := hp_22
        subst hp_22
        have hP : va_P (dC, dI) classes [(aq, .inr (3, [.int v2, .int v3_7, .ref aq_shades])), (aq_shades, .inl (kq_shades, 10, .inl wq_shades_22)), (aw, .inr (1, [.ref aw_near])), (aw_near, .inl (kw_near, 11, .inl zw_near))] H := hP
        have hD : va_D A [(aq, .inr (3, [.int v2, .int v3_7, .ref aq_shades])), (aq_shades, .inl (kq_shades, 10, .inl wq_shades_22)), (aw, .inr (1, [.ref aw_near])), (aw_near, .inl (kw_near, 11, .inl zw_near))] := hD
        refine lv_if_eq (tgt := 30) hx hb d_Pal_paintLeast_25 rfl (fun hc_25 => ?_) (fun hc_25 => ?_)
        · skip
          have hI := hI.trans (if_pos hc_25)
          refine lv_iinc (lv' := [(3, .int (v3_7 + 1)), (0, .ref aq), (1, .ref aw), (2, .int v2)]) (k := 3) hx hb d_Pal_paintLeast_30 hl rfl (z_inc1 _) (by decide) rfl (fun ls hl => ?_)
          refine lv_goto (tgt := 7) hx hb d_Pal_paintLeast_33 rfl ?_
          have hl := lv_sub hl [1, 2, 3, 0] rfl
          exact ih_7 0 _ _ _ _ _ _ hI hP hD hS hl
        · skip
          have hI := hI.trans (if_neg hc_25)
          refine lv_iload_n hx hb d_Pal_paintLeast_28 rfl (lv_at hl 3 rfl) ?_
          exact W.iret (v := v3_7) hx hb hr (fun t ht hW => ⟨⟨v3_7, (v2, v3_7, wq_shades_22), rfl, (Option.some.inj hI).symm, by rw [ht]; exact hP, va_K.moved hW.alike hK, hD⟩, hS.F ht⟩) hS.2.2 d_Pal_paintLeast_29
  have hl : lv_has ls 4 [(0, .ref aq), (1, .ref aw), (2, .int v2), (3, .int 0)] := by first | exact lv_sub hl [1, 2, 3, 0] rfl | (rw [nI_succ]; exact lv_sub hl [1, 2, 3, 0] rfl)
  exact L_7 64 0 _ _ _ _ _ _ (by rw [hK_7]; exact hI) hP hD hS hl
