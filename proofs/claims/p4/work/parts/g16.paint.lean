theorem c_paintFrom_0 (l : Launch) (dC : Nat → ClassId) (dI : Nat → Nat → Nat) (sz : Nat) (aq aw aq_shades aw_near : Nat) (kq_shades kw_near : ClassId) (zq_there : Int32) (zq_allowed : Int32) (zq_shades : Nat → Int32) (zw_near : Nat → Int32) (v2 v3 : Int32) (R : Int32 × (Nat → Int32)) (hR : F_paintFromR 0 zq_there zq_allowed zq_shades zw_near v2 v3 = some R) : Met l y_Pal_paintFrom w_Pal_paintFrom ({ frames := 0, cells := 0, slots := 0, locals := 0 }) (Pre_ dC dI sz [.ref aq, .ref aw, .int v2, .int v3] [(aq, .inr (3, [.int zq_there, .int zq_allowed, .ref aq_shades])), (aq_shades, .inl (kq_shades, 10, .inl zq_shades)), (aw, .inr (1, [.ref aw_near])), (aw_near, .inl (kw_near, 11, .inl zw_near))] [(kq_shades, .int), (kw_near, .int)]) (va_Qi (fun (r : Int32) (u : (Nat → Int32)) => ((r, u) = R) ∧ z01 r) (fun u t => End_ dC dI (va_A [(aq, .inr (3, [.int zq_there, .int zq_allowed, .ref aq_shades])), (aq_shades, .inl (kq_shades, 10, .inl zq_shades)), (aw, .inr (1, [.ref aw_near])), (aw_near, .inl (kw_near, 11, .inl zw_near))] sz) [(kq_shades, .int), (kw_near, .int)] [(aq, .inr (3, [.int zq_there, .int zq_allowed, .ref aq_shades])), (aq_shades, .inl (kq_shades, 10, .inl u)), (aw, .inr (1, [.ref aw_near])), (aw_near, .inl (kw_near, 11, .inl zw_near))] t) (va_A [(aq, .inr (3, [.int zq_there, .int zq_allowed, .ref aq_shades])), (aq_shades, .inl (kq_shades, 10, .inl zq_shades)), (aw, .inr (1, [.ref aw_near])), (aw_near, .inl (kw_near, 11, .inl zw_near))] sz)) 0 0 (va_A [(aq, .inr (3, [.int zq_there, .int zq_allowed, .ref aq_shades])), (aq_shades, .inl (kq_shades, 10, .inl zq_shades)), (aw, .inr (1, [.ref aw_near])), (aw_near, .inl (kw_near, 11, .inl zw_near))] sz) := (ob_on hR).elim
set_option maxHeartbeats 4000000 in
set_option maxRecDepth 100000 in
theorem c_paintFrom_1 (l : Launch) (dC : Nat → ClassId) (dI : Nat → Nat → Nat) (sz : Nat) (aq aw aq_shades aw_near : Nat) (kq_shades kw_near : ClassId) (zq_there : Int32) (zq_allowed : Int32) (zq_shades : Nat → Int32) (zw_near : Nat → Int32) (v2 v3 : Int32) (R : Int32 × (Nat → Int32)) (hR : F_paintFromR 1 zq_there zq_allowed zq_shades zw_near v2 v3 = some R) : Met l y_Pal_paintFrom w_Pal_paintFrom ({ frames := 2, cells := 0, slots := 0, locals := 45 }) (Pre_ dC dI sz [.ref aq, .ref aw, .int v2, .int v3] [(aq, .inr (3, [.int zq_there, .int zq_allowed, .ref aq_shades])), (aq_shades, .inl (kq_shades, 10, .inl zq_shades)), (aw, .inr (1, [.ref aw_near])), (aw_near, .inl (kw_near, 11, .inl zw_near))] [(kq_shades, .int), (kw_near, .int)]) (va_Qi (fun (r : Int32) (u : (Nat → Int32)) => ((r, u) = R) ∧ z01 r) (fun u t => End_ dC dI (va_A [(aq, .inr (3, [.int zq_there, .int zq_allowed, .ref aq_shades])), (aq_shades, .inl (kq_shades, 10, .inl zq_shades)), (aw, .inr (1, [.ref aw_near])), (aw_near, .inl (kw_near, 11, .inl zw_near))] sz) [(kq_shades, .int), (kw_near, .int)] [(aq, .inr (3, [.int zq_there, .int zq_allowed, .ref aq_shades])), (aq_shades, .inl (kq_shades, 10, .inl u)), (aw, .inr (1, [.ref aw_near])), (aw_near, .inl (kw_near, 11, .inl zw_near))] t) (va_A [(aq, .inr (3, [.int zq_there, .int zq_allowed, .ref aq_shades])), (aq_shades, .inl (kq_shades, 10, .inl zq_shades)), (aw, .inr (1, [.ref aw_near])), (aw_near, .inl (kw_near, 11, .inl zw_near))] sz)) 0 0 (va_A [(aq, .inr (3, [.int zq_there, .int zq_allowed, .ref aq_shades])), (aq_shades, .inl (kq_shades, 10, .inl zq_shades)), (aw, .inr (1, [.ref aw_near])), (aw_near, .inl (kw_near, 11, .inl zw_near))] sz) := by
  refine Met.ofW (cc := b_Pal_paintFrom) (maxL := 5) (ret := (some .boolean)) (by decide) rfl ?_
  intro p e s m args below meth c s₁ B hml hv
  obtain ⟨hargs, hsz, hP, hK, hD0, hN⟩ := hv
  have hx := B.exec
  have hb := B.bytes
  have hr := B.returns
  have hts := atoms_spec (ws := w_Pal_paintFrom) B.pre
  have hown : s.vm.findClass R_Pal = some m.cls := findClass_of_methodNamed B.named
  have hlocks := B.notSynchronized
  subst hsz
  have hD := hD0.self (sz := s.heap.size)
  generalize hAe : va_A [(aq, .inr (3, [.int zq_there, .int zq_allowed, .ref aq_shades])), (aq_shades, .inl (kq_shades, 10, .inl zq_shades)), (aw, .inr (1, [.ref aw_near])), (aw_near, .inl (kw_near, 11, .inl zw_near))] s.heap.size = A at hD ⊢
  have hA : ∀ q : Nat, s.heap.size ≤ q → A q := fun q h => by rw [← hAe]; exact Or.inr h
  have hS : va_S A s.heap s.heap [] := va_S.rf
  have hl := lv_entry ([.ref aq, .ref aw, .int v2, .int v3]) (n := 5) (Nat.le_of_ble_eq_true rfl)
  refine W.eq (congrArg (fun a => entryFrame m a 5) hargs) ?_
  rw [lg_entry_eq]
  generalize (lg_sl ([.ref aq, .ref aw, .int v2, .int v3]) ++ List.replicate (5 - (lg_sl ([.ref aq, .ref aw, .int v2, .int v3])).length) Slot.unset).toArray = ls at hl ⊢
  have hl : lv_has ls 5 [(0, .ref aq), (1, .ref aw), (2, .int v2), (3, .int v3)] := hl
  generalize hH0 : ([] : List Loc) = locs at hS ⊢
  have hI := hR.symm
  rw [F_paintFromR] at hI
  refine lv_iload_n hx hb d_Pal_paintFrom_0 rfl (lv_at hl 2 rfl) ?_
  refine lv_bipush (v := 10) hx hb d_Pal_paintFrom_1 (by decide) ?_
  refine lv_icmp_lt (tgt := 8) hx hb d_Pal_paintFrom_3 rfl (fun hc_3 => ?_) (fun hc_3 => ?_)
  · skip
    have hI := hI.trans (if_pos hc_3)
    refine lv_aload_n hx hb d_Pal_paintFrom_8 rfl (lv_at hl 0 rfl) ?_
    refine va_get (D := (dC, dI)) (ci := 3) (v := .int zq_there) (C := R_Pal) (T := F_Pal) (N := 3) hx hb hts (fun w h => List.mem_cons_of_mem _ (in_Pal w h)) hown hK hP 0 rfl rfl 0 (by decide) (hts _ (List.mem_cons_of_mem _ mw_1_73)) (fun _ h9 => h9) rfl d_Pal_paintFrom_9 ?_
    refine lv_iload_n hx hb d_Pal_paintFrom_12 rfl (lv_at hl 2 rfl) ?_
    have hPc := hP.sub (ws' := []) [] rfl
    have hDc := hD.sub (ws' := []) [] (by decide) rfl
    have hKc := hK.sub (tys' := []) [] rfl
    have hFc := va_free (wc := []) hD hS hA [] rfl
    refine va_calli (va_runSN (As := [.int zq_there, .int v2]) (rest := []) ⟨hx, hb, hml, hown, hts⟩ (c_has l dC dI s.heap.size zq_there v2) (⟨va_cnB 2 hts (gi0 mw_1_150) rfl rfl rfl (hN (R_Pal, 26, y_PS_has, R_PS) (by decide +kernel)) (hts _ (List.mem_cons_of_mem _ mw_1_1)) (by decide +kernel) ⟨Nat.le_of_ble_eq_true rfl, Nat.le_of_ble_eq_true rfl⟩, hts _ (List.mem_cons_of_mem _ mw_1_149), trivial⟩) ⟨fb_, pre_ hPc hKc hDc hN⟩ rfl rfl hl.1 rfl (lv_room (Nat.le_of_ble_eq_true rfl)) d_Pal_paintFrom_13 ⟨Nat.le_of_ble_eq_true rfl, Nat.le_of_ble_eq_true rfl⟩) hS (fun q _ h => hFc q h) hFc (fun r_13 u t H locs ht hvm hp_13 hB hz1 hk1 hS => ?_)
    obtain ⟨hP1, -, hD1⟩ := hB
    rw [ht] at hP1
    obtain ⟨hP, hD⟩ := va_join (wr := [(aq, .inr (3, [.int zq_there, .int zq_allowed, .ref aq_shades])), (aq_shades, .inl (kq_shades, 10, .inl zq_shades)), (aw, .inr (1, [.ref aw_near])), (aw_near, .inl (kw_near, 11, .inl zw_near))]) (w1 := []) hP hD [] [0, 1, 2, 3] rfl rfl (by decide) (by decide) hk1 hFc hP1 hD1
    have hp_13 : r_13 = f_has zq_there v2 := hp_13
    subst hp_13
    have hP : va_P (dC, dI) classes [(aq, .inr (3, [.int zq_there, .int zq_allowed, .ref aq_shades])), (aq_shades, .inl (kq_shades, 10, .inl zq_shades)), (aw, .inr (1, [.ref aw_near])), (aw_near, .inl (kw_near, 11, .inl zw_near))] H := hP
    have hD : va_D A [(aq, .inr (3, [.int zq_there, .int zq_allowed, .ref aq_shades])), (aq_shades, .inl (kq_shades, 10, .inl zq_shades)), (aw, .inr (1, [.ref aw_near])), (aw_near, .inl (kw_near, 11, .inl zw_near))] := hD
    refine lv_if_ne (tgt := 29) hx hb d_Pal_paintFrom_16 rfl (fun hc_16 => ?_) (fun hc_16 => ?_)
    · skip
      have hI := hI.trans (if_neg hc_16)
      refine lv_iconst (v := 0) hx hb d_Pal_paintFrom_29 (by decide) ?_
      refine lv_istore (lv' := [(4, .int 0), (0, .ref aq), (1, .ref aw), (2, .int v2), (3, .int v3)]) hx hb d_Pal_paintFrom_30 hl (by decide) rfl (fun ls hl => ?_)
      obtain ⟨K_32, hK_32⟩ : ∃ K : Int32 → (Nat → Int32) → Option (Int32 × (Nat → Int32)), K = (fun v4_32 wq_shades_32 => some ((0 : Int32), wq_shades_32)) := ⟨_, rfl⟩
      have X_32 : ∀ (k_32 : Nat) (v4_32 : Int32) (wq_shades_32 : Nat → Int32) (H : Heap) (locs : List Loc) (ls : Array Slot), some R = K_32 v4_32 wq_shades_32 → va_P (dC, dI) classes [(aq, .inr (3, [.int zq_there, .int zq_allowed, .ref aq_shades])), (aq_shades, .inl (kq_shades, 10, .inl wq_shades_32)), (aw, .inr (1, [.ref aw_near])), (aw_near, .inl (kw_near, 11, .inl zw_near))] H → va_D A [(aq, .inr (3, [.int zq_there, .int zq_allowed, .ref aq_shades])), (aq_shades, .inl (kq_shades, 10, .inl wq_shades_32)), (aw, .inr (1, [.ref aw_near])), (aw_near, .inl (kw_near, 11, .inl zw_near))] → va_S A s.heap H locs → lv_has ls 5 [(0, .ref aq), (1, .ref aw), (2, .int v2), (3, .int v3), (4, .int v4_32)] → W p l e (headSpec w_Pal_paintFrom ({ frames := 2, cells := 0, slots := 0, locals := 45 })).room s m args below meth c H locs 0 0 (MQ below (va_Qi (fun (r : Int32) (u : (Nat → Int32)) => ((r, u) = R) ∧ z01 r) (fun u t => End_ dC dI A [(kq_shades, .int), (kw_near, .int)] [(aq, .inr (3, [.int zq_there, .int zq_allowed, .ref aq_shades])), (aq_shades, .inl (kq_shades, 10, .inl u)), (aw, .inr (1, [.ref aw_near])), (aw_near, .inl (kw_near, 11, .inl zw_near))] t) A) args s 0 0 A) (F0 m 103 ls []) := by
        intro k_32 v4_32 wq_shades_32 H locs ls hI hP hD hS hl
        rw [hK_32] at hI
        refine lv_iconst (v := 0) hx hb d_Pal_paintFrom_103 (by decide) ?_
        exact W.zret (v := 0) (ty := .boolean) hx hb hr (nr01 (Or.inl rfl)) (fun t ht hW => ⟨⟨0, (wq_shades_32), rfl, ⟨(Option.some.inj hI).symm, (Or.inl rfl)⟩, by rw [ht]; exact hP, va_K.moved hW.alike hK, hD⟩, hS.F ht⟩) hS.2.2 d_Pal_paintFrom_104
      have L_32 : ∀ (n_32 k_32 : Nat) (v4_32 : Int32) (wq_shades_32 : Nat → Int32) (H : Heap) (locs : List Loc) (ls : Array Slot), some R = F_paintFromR_L32 K_32 zq_there zq_allowed zw_near v2 v3 (F_paintFromR 0) n_32 v4_32 wq_shades_32 → va_P (dC, dI) classes [(aq, .inr (3, [.int zq_there, .int zq_allowed, .ref aq_shades])), (aq_shades, .inl (kq_shades, 10, .inl wq_shades_32)), (aw, .inr (1, [.ref aw_near])), (aw_near, .inl (kw_near, 11, .inl zw_near))] H → va_D A [(aq, .inr (3, [.int zq_there, .int zq_allowed, .ref aq_shades])), (aq_shades, .inl (kq_shades, 10, .inl wq_shades_32)), (aw, .inr (1, [.ref aw_near])), (aw_near, .inl (kw_near, 11, .inl zw_near))] → va_S A s.heap H locs → lv_has ls 5 [(0, .ref aq), (1, .ref aw), (2, .int v2), (3, .int v3), (4, .int v4_32)] → W p l e (headSpec w_Pal_paintFrom ({ frames := 2, cells := 0, slots := 0, locals := 45 })).room s m args below meth c H locs 0 0 (MQ below (va_Qi (fun (r : Int32) (u : (Nat → Int32)) => ((r, u) = R) ∧ z01 r) (fun u t => End_ dC dI A [(kq_shades, .int), (kw_near, .int)] [(aq, .inr (3, [.int zq_there, .int zq_allowed, .ref aq_shades])), (aq_shades, .inl (kq_shades, 10, .inl u)), (aw, .inr (1, [.ref aw_near])), (aw_near, .inl (kw_near, 11, .inl zw_near))] t) A) args s 0 0 A) (F0 m 32 ls []) := by
        intro n_32
        induction n_32 with
        | zero =>
          intro k_32 v4_32 wq_shades_32 H locs ls hI hP hD hS hl
          rw [F_paintFromR_L32] at hI
          exact absurd hI (ob_no _)
        | succ n_32 ih_32 =>
          intro k_32 v4_32 wq_shades_32 H locs ls hI hP hD hS hl
          rw [F_paintFromR_L32] at hI
          refine lv_iload hx hb d_Pal_paintFrom_32 (lv_at hl 4 rfl) ?_
          refine lv_iload_n hx hb d_Pal_paintFrom_34 rfl (lv_at hl 3 rfl) ?_
          refine lv_icmp_gt (tgt := 103) hx hb d_Pal_paintFrom_35 rfl (fun hc_35 => ?_) (fun hc_35 => ?_)
          · skip
            have hI := hI.trans (if_pos hc_35)
            have hl := lv_sub hl [0, 1, 2, 3, 4] rfl
            exact X_32 0 _ _ _ _ _ hI hP hD hS hl
          · skip
            have hI := hI.trans (if_neg hc_35)
            refine lv_iload hx hb d_Pal_paintFrom_38 (lv_at hl 4 rfl) ?_
            refine lv_aload_n hx hb d_Pal_paintFrom_40 rfl (lv_at hl 0 rfl) ?_
            refine va_get (D := (dC, dI)) (ci := 3) (v := .int zq_allowed) (C := R_Pal) (T := F_Pal) (N := 3) hx hb hts (fun w h => List.mem_cons_of_mem _ (in_Pal w h)) hown hK hP 0 rfl rfl 1 (by decide) (hts _ (List.mem_cons_of_mem _ mw_1_74)) (fun _ h9 => h9) rfl d_Pal_paintFrom_41 ?_
            refine lv_icmp_ge (tgt := 103) hx hb d_Pal_paintFrom_44 rfl (fun hc_44 => ?_) (fun hc_44 => ?_)
            · skip
              have hI := hI.trans (if_pos hc_44)
              have hl := lv_sub hl [0, 1, 2, 3, 4] rfl
              exact X_32 0 _ _ _ _ _ hI hP hD hS hl
            · skip
              have hI := hI.trans (if_neg hc_44)
              refine lv_aload_n hx hb d_Pal_paintFrom_47 rfl (lv_at hl 0 rfl) ?_
              refine lv_aload_n hx hb d_Pal_paintFrom_48 rfl (lv_at hl 1 rfl) ?_
              refine lv_iload hx hb d_Pal_paintFrom_49 (lv_at hl 4 rfl) ?_
              refine lv_iload_n hx hb d_Pal_paintFrom_51 rfl (lv_at hl 2 rfl) ?_
              obtain ⟨p_52, hg_52, hI⟩ := ob_bd hI
              have hPc := hP.sub (ws' := [(aq, .inr (3, [.int zq_there, .int zq_allowed, .ref aq_shades])), (aq_shades, .inl (kq_shades, 10, .inl wq_shades_32)), (aw, .inr (1, [.ref aw_near])), (aw_near, .inl (kw_near, 11, .inl zw_near))]) [0, 1, 2, 3] rfl
              have hDc := hD.sub (ws' := [(aq, .inr (3, [.int zq_there, .int zq_allowed, .ref aq_shades])), (aq_shades, .inl (kq_shades, 10, .inl wq_shades_32)), (aw, .inr (1, [.ref aw_near])), (aw_near, .inl (kw_near, 11, .inl zw_near))]) [0, 1, 2, 3] (by decide) rfl
              have hKc := hK.sub (tys' := [(kq_shades, .int), (kw_near, .int)]) [0, 1] rfl
              have hFc := va_free (wc := [(aq, .inr (3, [.int zq_there, .int zq_allowed, .ref aq_shades])), (aq_shades, .inl (kq_shades, 10, .inl wq_shades_32)), (aw, .inr (1, [.ref aw_near])), (aw_near, .inl (kw_near, 11, .inl zw_near))]) hD hS hA [0, 1, 2, 3] rfl
              refine va_calli (va_runV (As := [.ref aw, .int v4_32, .int v2]) (rest := []) ⟨hx, hb, hml, hown, hts⟩ (c_isFreeG l dC dI H.size aq aw aq_shades aw_near kq_shades kw_near zq_there zq_allowed wq_shades_32 zw_near v4_32 v2 p_52 hg_52) (cwV 3 hts (gi4 mw_2_39 mw_2_41 mw_p_19 mw_1_4 mw_2_42) rfl rfl rfl (by decide +kernel) ⟨Nat.le_of_ble_eq_true rfl, Nat.le_of_ble_eq_true rfl⟩) ⟨fb_, va_recv (q0 := 0) (ci := 3) hK hP rfl rfl, pre_ hPc hKc hDc hN⟩ rfl rfl hl.1 rfl (lv_room (Nat.le_of_ble_eq_true rfl)) d_Pal_paintFrom_52 ⟨Nat.le_of_ble_eq_true rfl, Nat.le_of_ble_eq_true rfl⟩) hS (fun q _ h => hFc q h) hFc (fun r_52 u t H locs ht hvm hp_52 hB hz1 hk1 hS => ?_)
              obtain ⟨hP1, -, hD1⟩ := hB
              rw [ht] at hP1
              obtain ⟨hP, hD⟩ := va_join (wr := []) (w1 := [(aq, .inr (3, [.int zq_there, .int zq_allowed, .ref aq_shades])), (aq_shades, .inl (kq_shades, 10, .inl wq_shades_32)), (aw, .inr (1, [.ref aw_near])), (aw_near, .inl (kw_near, 11, .inl zw_near))]) hP hD [0, 1, 2, 3] [] rfl rfl (by decide) (by decide) hk1 hFc hP1 hD1
              obtain ⟨hp_52, hz_52⟩ := hp_52
              have hp_52 : (r_52) = p_52 := hp_52
              subst hp_52
              have hP : va_P (dC, dI) classes [(aq, .inr (3, [.int zq_there, .int zq_allowed, .ref aq_shades])), (aq_shades, .inl (kq_shades, 10, .inl wq_shades_32)), (aw, .inr (1, [.ref aw_near])), (aw_near, .inl (kw_near, 11, .inl zw_near))] H := hP
              have hD : va_D A [(aq, .inr (3, [.int zq_there, .int zq_allowed, .ref aq_shades])), (aq_shades, .inl (kq_shades, 10, .inl wq_shades_32)), (aw, .inr (1, [.ref aw_near])), (aw_near, .inl (kw_near, 11, .inl zw_near))] := hD
              refine lv_if_eq (tgt := 97) hx hb d_Pal_paintFrom_55 rfl (fun hc_55 => ?_) (fun hc_55 => ?_)
              · skip
                have hI := hI.trans (if_pos hc_55)
                refine lv_iinc (lv' := [(4, .int (v4_32 + 1)), (0, .ref aq), (1, .ref aw), (2, .int v2), (3, .int v3)]) (k := 4) hx hb d_Pal_paintFrom_97 hl rfl (z_inc1 _) (by decide) rfl (fun ls hl => ?_)
                refine lv_goto (tgt := 32) hx hb d_Pal_paintFrom_100 rfl ?_
                have hl := lv_sub hl [1, 2, 3, 4, 0] rfl
                exact ih_32 0 _ _ _ _ _ hI hP hD hS hl
              · skip
                have hI := hI.trans (if_neg hc_55)
                refine lv_aload_n hx hb d_Pal_paintFrom_58 rfl (lv_at hl 0 rfl) ?_
                refine va_get (D := (dC, dI)) (ci := 3) (v := .ref aq_shades) (C := R_Pal) (T := F_Pal) (N := 3) hx hb hts (fun w h => List.mem_cons_of_mem _ (in_Pal w h)) hown hK hP 0 rfl rfl 2 (by decide) (hts _ (List.mem_cons_of_mem _ mw_1_75)) (fun _ h9 => h9) rfl d_Pal_paintFrom_59 ?_
                refine lv_iload_n hx hb d_Pal_paintFrom_62 rfl (lv_at hl 2 rfl) ?_
                refine lv_iload hx hb d_Pal_paintFrom_63 (lv_at hl 4 rfl) ?_
                have hi_65 := ob_in hI
                have hI := ob_th hI
                refine va_iast (D := (dC, dI)) hx hb hK hP hD hS 1 0 rfl rfl hi_65 d_Pal_paintFrom_65 (fun H locs hP hD hS => ?_)
                have hP : va_P (dC, dI) classes [(aq, .inr (3, [.int zq_there, .int zq_allowed, .ref aq_shades])), (aq_shades, .inl (kq_shades, 10, .inl (upd wq_shades_32 (Int32.toNatClampNeg v2) v4_32))), (aw, .inr (1, [.ref aw_near])), (aw_near, .inl (kw_near, 11, .inl zw_near))] H := hP
                have hD : va_D A [(aq, .inr (3, [.int zq_there, .int zq_allowed, .ref aq_shades])), (aq_shades, .inl (kq_shades, 10, .inl (upd wq_shades_32 (Int32.toNatClampNeg v2) v4_32))), (aw, .inr (1, [.ref aw_near])), (aw_near, .inl (kw_near, 11, .inl zw_near))] := hD
                refine lv_aload_n hx hb d_Pal_paintFrom_66 rfl (lv_at hl 0 rfl) ?_
                refine lv_aload_n hx hb d_Pal_paintFrom_67 rfl (lv_at hl 1 rfl) ?_
                refine lv_iload_n hx hb d_Pal_paintFrom_68 rfl (lv_at hl 2 rfl) ?_
                refine lv_iconst (v := 1) hx hb d_Pal_paintFrom_69 (by decide) ?_
                refine lv_iadd hx hb d_Pal_paintFrom_70 ?_
                refine lv_iload_n hx hb d_Pal_paintFrom_71 rfl (lv_at hl 3 rfl) ?_
                refine lv_iload hx hb d_Pal_paintFrom_72 (lv_at hl 4 rfl) ?_
                refine lv_iconst (v := 1) hx hb d_Pal_paintFrom_74 (by decide) ?_
                refine lv_iadd hx hb d_Pal_paintFrom_75 ?_
                refine va_mmax hx hb (hml.trans hl.1.symm) hown (hts _ (List.mem_cons_of_mem _ mw_2_44)) (hts _ (List.mem_cons_of_mem _ mw_2_45)) (hts _ (List.mem_cons_of_mem _ mw_1_15)) (hts _ (List.mem_cons_of_mem _ mw_2_46)) (Nat.le_of_ble_eq_true rfl) (Nat.le_of_ble_eq_true rfl) (Nat.le_of_ble_eq_true rfl) (Nat.le_of_ble_eq_true rfl) d_Pal_paintFrom_76 ?_
                obtain ⟨p_79, hg_79, hI⟩ := ob_bd hI
                have hPc := hP.sub (ws' := [(aq, .inr (3, [.int zq_there, .int zq_allowed, .ref aq_shades])), (aq_shades, .inl (kq_shades, 10, .inl (upd wq_shades_32 (Int32.toNatClampNeg v2) v4_32))), (aw, .inr (1, [.ref aw_near])), (aw_near, .inl (kw_near, 11, .inl zw_near))]) [0, 1, 2, 3] rfl
                have hDc := hD.sub (ws' := [(aq, .inr (3, [.int zq_there, .int zq_allowed, .ref aq_shades])), (aq_shades, .inl (kq_shades, 10, .inl (upd wq_shades_32 (Int32.toNatClampNeg v2) v4_32))), (aw, .inr (1, [.ref aw_near])), (aw_near, .inl (kw_near, 11, .inl zw_near))]) [0, 1, 2, 3] (by decide) rfl
                have hKc := hK.sub (tys' := [(kq_shades, .int), (kw_near, .int)]) [0, 1] rfl
                have hFc := va_free (wc := [(aq, .inr (3, [.int zq_there, .int zq_allowed, .ref aq_shades])), (aq_shades, .inl (kq_shades, 10, .inl (upd wq_shades_32 (Int32.toNatClampNeg v2) v4_32))), (aw, .inr (1, [.ref aw_near])), (aw_near, .inl (kw_near, 11, .inl zw_near))]) hD hS hA [0, 1, 2, 3] rfl
                refine va_calli (va_runV (As := [.ref aw, .int (v2 + 1), .int (if v3 < (v4_32 + 1) then (v4_32 + 1) else v3)]) (rest := []) ⟨hx, hb, hml, hown, hts⟩ (c_paintFrom_0 l dC dI H.size aq aw aq_shades aw_near kq_shades kw_near zq_there zq_allowed (upd wq_shades_32 (Int32.toNatClampNeg v2) v4_32) zw_near (v2 + 1) (if v3 < (v4_32 + 1) then (v4_32 + 1) else v3) p_79 hg_79) (cwV 3 hts (gi4 mw_2_34 mw_2_36 mw_p_18 mw_1_4 mw_2_37) rfl rfl rfl (by decide +kernel) ⟨Nat.le_of_ble_eq_true rfl, Nat.le_of_ble_eq_true rfl⟩) ⟨fb_, va_recv (q0 := 0) (ci := 3) hK hP rfl rfl, pre_ hPc hKc hDc hN⟩ rfl rfl hl.1 rfl (lv_room (Nat.le_of_ble_eq_true rfl)) d_Pal_paintFrom_79 ⟨Nat.le_of_ble_eq_true rfl, Nat.le_of_ble_eq_true rfl⟩) hS (fun q _ h => hFc q h) hFc (fun r_79 wq_shades_79 t H locs ht hvm hp_79 hB hz1 hk1 hS => ?_)
                obtain ⟨hP1, -, hD1⟩ := hB
                rw [ht] at hP1
                obtain ⟨hP, hD⟩ := va_join (wr := []) (w1 := [(aq, .inr (3, [.int zq_there, .int zq_allowed, .ref aq_shades])), (aq_shades, .inl (kq_shades, 10, .inl wq_shades_79)), (aw, .inr (1, [.ref aw_near])), (aw_near, .inl (kw_near, 11, .inl zw_near))]) hP hD [0, 1, 2, 3] [] rfl rfl (by decide) (by decide) hk1 hFc hP1 hD1
                obtain ⟨hp_79, hz_79⟩ := hp_79
                have hp_79 : (r_79, wq_shades_79) = p_79 := hp_79
                subst hp_79
                have hP : va_P (dC, dI) classes [(aq, .inr (3, [.int zq_there, .int zq_allowed, .ref aq_shades])), (aq_shades, .inl (kq_shades, 10, .inl wq_shades_79)), (aw, .inr (1, [.ref aw_near])), (aw_near, .inl (kw_near, 11, .inl zw_near))] H := hP
                have hD : va_D A [(aq, .inr (3, [.int zq_there, .int zq_allowed, .ref aq_shades])), (aq_shades, .inl (kq_shades, 10, .inl wq_shades_79)), (aw, .inr (1, [.ref aw_near])), (aw_near, .inl (kw_near, 11, .inl zw_near))] := hD
                refine lv_if_eq (tgt := 87) hx hb d_Pal_paintFrom_82 rfl (fun hc_82 => ?_) (fun hc_82 => ?_)
                · skip
                  have hI := hI.trans (if_pos hc_82)
                  refine lv_aload_n hx hb d_Pal_paintFrom_87 rfl (lv_at hl 1 rfl) ?_
                  refine lv_iload_n hx hb d_Pal_paintFrom_88 rfl (lv_at hl 2 rfl) ?_
                  obtain ⟨p_89, hg_89, hI⟩ := ob_bd hI
                  have hPc := hP.sub (ws' := [(aw, .inr (1, [.ref aw_near])), (aw_near, .inl (kw_near, 11, .inl zw_near))]) [2, 3] rfl
                  have hDc := hD.sub (ws' := [(aw, .inr (1, [.ref aw_near])), (aw_near, .inl (kw_near, 11, .inl zw_near))]) [2, 3] (by decide) rfl
                  have hKc := hK.sub (tys' := [(kw_near, .int)]) [1] rfl
                  have hFc := va_free (wc := [(aw, .inr (1, [.ref aw_near])), (aw_near, .inl (kw_near, 11, .inl zw_near))]) hD hS hA [2, 3] rfl
                  refine va_calli (va_runS (As := [.ref aw, .int v2]) (rest := []) ⟨hx, hb, hml, hown, hts⟩ (c_hasLaterG l dC dI H.size aw aw_near kw_near zw_near v2 p_89 hg_89) (cwS 2 hts (gi3 mw_2_47 mw_2_48 mw_1_4 mw_2_49) rfl rfl rfl (by decide +kernel) ⟨Nat.le_of_ble_eq_true rfl, Nat.le_of_ble_eq_true rfl⟩) ⟨fb_, pre_ hPc hKc hDc hN⟩ rfl rfl hl.1 rfl (lv_room (Nat.le_of_ble_eq_true rfl)) d_Pal_paintFrom_89 ⟨Nat.le_of_ble_eq_true rfl, Nat.le_of_ble_eq_true rfl⟩) hS (fun q _ h => hFc q h) hFc (fun r_89 u t H locs ht hvm hp_89 hB hz1 hk1 hS => ?_)
                  obtain ⟨hP1, -, hD1⟩ := hB
                  rw [ht] at hP1
                  obtain ⟨hP, hD⟩ := va_join (wr := [(aq, .inr (3, [.int zq_there, .int zq_allowed, .ref aq_shades])), (aq_shades, .inl (kq_shades, 10, .inl wq_shades_79))]) (w1 := [(aw, .inr (1, [.ref aw_near])), (aw_near, .inl (kw_near, 11, .inl zw_near))]) hP hD [2, 3] [0, 1] rfl rfl (by decide) (by decide) hk1 hFc hP1 hD1
                  obtain ⟨hp_89, hz_89⟩ := hp_89
                  have hp_89 : (r_89) = p_89 := hp_89
                  subst hp_89
                  have hP : va_P (dC, dI) classes [(aq, .inr (3, [.int zq_there, .int zq_allowed, .ref aq_shades])), (aq_shades, .inl (kq_shades, 10, .inl wq_shades_79)), (aw, .inr (1, [.ref aw_near])), (aw_near, .inl (kw_near, 11, .inl zw_near))] H := hP
                  have hD : va_D A [(aq, .inr (3, [.int zq_there, .int zq_allowed, .ref aq_shades])), (aq_shades, .inl (kq_shades, 10, .inl wq_shades_79)), (aw, .inr (1, [.ref aw_near])), (aw_near, .inl (kw_near, 11, .inl zw_near))] := hD
                  refine lv_if_ne (tgt := 97) hx hb d_Pal_paintFrom_92 rfl (fun hc_92 => ?_) (fun hc_92 => ?_)
                  · skip
                    have hI := hI.trans (if_neg hc_92)
                    refine lv_iinc (lv' := [(4, .int (v4_32 + 1)), (0, .ref aq), (1, .ref aw), (2, .int v2), (3, .int v3)]) (k := 4) hx hb d_Pal_paintFrom_97 hl rfl (z_inc1 _) (by decide) rfl (fun ls hl => ?_)
                    refine lv_goto (tgt := 32) hx hb d_Pal_paintFrom_100 rfl ?_
                    have hl := lv_sub hl [1, 2, 3, 4, 0] rfl
                    exact ih_32 0 _ _ _ _ _ hI hP hD hS hl
                  · skip
                    have hI := hI.trans (if_pos hc_92)
                    refine lv_iconst (v := 0) hx hb d_Pal_paintFrom_95 (by decide) ?_
                    exact W.zret (v := 0) (ty := .boolean) hx hb hr (nr01 (Or.inl rfl)) (fun t ht hW => ⟨⟨0, (wq_shades_79), rfl, ⟨(Option.some.inj hI).symm, (Or.inl rfl)⟩, by rw [ht]; exact hP, va_K.moved hW.alike hK, hD⟩, hS.F ht⟩) hS.2.2 d_Pal_paintFrom_96
                · skip
                  have hI := hI.trans (if_neg hc_82)
                  refine lv_iconst (v := 1) hx hb d_Pal_paintFrom_85 (by decide) ?_
                  exact W.zret (v := 1) (ty := .boolean) hx hb hr (nr01 (Or.inr rfl)) (fun t ht hW => ⟨⟨1, (wq_shades_79), rfl, ⟨(Option.some.inj hI).symm, (Or.inr rfl)⟩, by rw [ht]; exact hP, va_K.moved hW.alike hK, hD⟩, hS.F ht⟩) hS.2.2 d_Pal_paintFrom_86
      have hl : lv_has ls 5 [(0, .ref aq), (1, .ref aw), (2, .int v2), (3, .int v3), (4, .int 0)] := by first | exact lv_sub hl [1, 2, 3, 4, 0] rfl | (rw [nI_succ]; exact lv_sub hl [1, 2, 3, 4, 0] rfl)
      exact L_32 64 0 _ _ _ _ _ (by rw [hK_32]; exact hI) hP hD hS hl
    · skip
      have hI := hI.trans (if_pos hc_16)
      refine lv_aload_n hx hb d_Pal_paintFrom_19 rfl (lv_at hl 0 rfl) ?_
      refine lv_aload_n hx hb d_Pal_paintFrom_20 rfl (lv_at hl 1 rfl) ?_
      refine lv_iload_n hx hb d_Pal_paintFrom_21 rfl (lv_at hl 2 rfl) ?_
      refine lv_iconst (v := 1) hx hb d_Pal_paintFrom_22 (by decide) ?_
      refine lv_iadd hx hb d_Pal_paintFrom_23 ?_
      refine lv_iload_n hx hb d_Pal_paintFrom_24 rfl (lv_at hl 3 rfl) ?_
      obtain ⟨p_25, hg_25, hI⟩ := ob_bd hI
      have hPc := hP.sub (ws' := [(aq, .inr (3, [.int zq_there, .int zq_allowed, .ref aq_shades])), (aq_shades, .inl (kq_shades, 10, .inl zq_shades)), (aw, .inr (1, [.ref aw_near])), (aw_near, .inl (kw_near, 11, .inl zw_near))]) [0, 1, 2, 3] rfl
      have hDc := hD.sub (ws' := [(aq, .inr (3, [.int zq_there, .int zq_allowed, .ref aq_shades])), (aq_shades, .inl (kq_shades, 10, .inl zq_shades)), (aw, .inr (1, [.ref aw_near])), (aw_near, .inl (kw_near, 11, .inl zw_near))]) [0, 1, 2, 3] (by decide) rfl
      have hKc := hK.sub (tys' := [(kq_shades, .int), (kw_near, .int)]) [0, 1] rfl
      have hFc := va_free (wc := [(aq, .inr (3, [.int zq_there, .int zq_allowed, .ref aq_shades])), (aq_shades, .inl (kq_shades, 10, .inl zq_shades)), (aw, .inr (1, [.ref aw_near])), (aw_near, .inl (kw_near, 11, .inl zw_near))]) hD hS hA [0, 1, 2, 3] rfl
      refine va_calli (va_runV (As := [.ref aw, .int (v2 + 1), .int v3]) (rest := []) ⟨hx, hb, hml, hown, hts⟩ (c_paintFrom_0 l dC dI H.size aq aw aq_shades aw_near kq_shades kw_near zq_there zq_allowed zq_shades zw_near (v2 + 1) v3 p_25 hg_25) (cwV 3 hts (gi4 mw_2_34 mw_2_36 mw_p_18 mw_1_4 mw_2_37) rfl rfl rfl (by decide +kernel) ⟨Nat.le_of_ble_eq_true rfl, Nat.le_of_ble_eq_true rfl⟩) ⟨fb_, va_recv (q0 := 0) (ci := 3) hK hP rfl rfl, pre_ hPc hKc hDc hN⟩ rfl rfl hl.1 rfl (lv_room (Nat.le_of_ble_eq_true rfl)) d_Pal_paintFrom_25 ⟨Nat.le_of_ble_eq_true rfl, Nat.le_of_ble_eq_true rfl⟩) hS (fun q _ h => hFc q h) hFc (fun r_25 wq_shades_25 t H locs ht hvm hp_25 hB hz1 hk1 hS => ?_)
      obtain ⟨hP1, -, hD1⟩ := hB
      rw [ht] at hP1
      obtain ⟨hP, hD⟩ := va_join (wr := []) (w1 := [(aq, .inr (3, [.int zq_there, .int zq_allowed, .ref aq_shades])), (aq_shades, .inl (kq_shades, 10, .inl wq_shades_25)), (aw, .inr (1, [.ref aw_near])), (aw_near, .inl (kw_near, 11, .inl zw_near))]) hP hD [0, 1, 2, 3] [] rfl rfl (by decide) (by decide) hk1 hFc hP1 hD1
      obtain ⟨hp_25, hz_25⟩ := hp_25
      have hp_25 : (r_25, wq_shades_25) = p_25 := hp_25
      subst hp_25
      have hP : va_P (dC, dI) classes [(aq, .inr (3, [.int zq_there, .int zq_allowed, .ref aq_shades])), (aq_shades, .inl (kq_shades, 10, .inl wq_shades_25)), (aw, .inr (1, [.ref aw_near])), (aw_near, .inl (kw_near, 11, .inl zw_near))] H := hP
      have hD : va_D A [(aq, .inr (3, [.int zq_there, .int zq_allowed, .ref aq_shades])), (aq_shades, .inl (kq_shades, 10, .inl wq_shades_25)), (aw, .inr (1, [.ref aw_near])), (aw_near, .inl (kw_near, 11, .inl zw_near))] := hD
      exact W.zret (v := r_25) (ty := .boolean) hx hb hr (nr01 hz_25) (fun t ht hW => ⟨⟨r_25, (wq_shades_25), rfl, ⟨(Option.some.inj hI).symm, hz_25⟩, by rw [ht]; exact hP, va_K.moved hW.alike hK, hD⟩, hS.F ht⟩) hS.2.2 d_Pal_paintFrom_28
  · skip
    have hI := hI.trans (if_neg hc_3)
    refine lv_iconst (v := 1) hx hb d_Pal_paintFrom_6 (by decide) ?_
    exact W.zret (v := 1) (ty := .boolean) hx hb hr (nr01 (Or.inr rfl)) (fun t ht hW => ⟨⟨1, (zq_shades), rfl, ⟨(Option.some.inj hI).symm, (Or.inr rfl)⟩, by rw [ht]; exact hP, va_K.moved hW.alike hK, hD⟩, hS.F ht⟩) hS.2.2 d_Pal_paintFrom_7
set_option maxHeartbeats 4000000 in
set_option maxRecDepth 100000 in
theorem c_paintFrom_2 (l : Launch) (dC : Nat → ClassId) (dI : Nat → Nat → Nat) (sz : Nat) (aq aw aq_shades aw_near : Nat) (kq_shades kw_near : ClassId) (zq_there : Int32) (zq_allowed : Int32) (zq_shades : Nat → Int32) (zw_near : Nat → Int32) (v2 v3 : Int32) (R : Int32 × (Nat → Int32)) (hR : F_paintFromR 2 zq_there zq_allowed zq_shades zw_near v2 v3 = some R) : Met l y_Pal_paintFrom w_Pal_paintFrom ({ frames := 3, cells := 0, slots := 0, locals := 69 }) (Pre_ dC dI sz [.ref aq, .ref aw, .int v2, .int v3] [(aq, .inr (3, [.int zq_there, .int zq_allowed, .ref aq_shades])), (aq_shades, .inl (kq_shades, 10, .inl zq_shades)), (aw, .inr (1, [.ref aw_near])), (aw_near, .inl (kw_near, 11, .inl zw_near))] [(kq_shades, .int), (kw_near, .int)]) (va_Qi (fun (r : Int32) (u : (Nat → Int32)) => ((r, u) = R) ∧ z01 r) (fun u t => End_ dC dI (va_A [(aq, .inr (3, [.int zq_there, .int zq_allowed, .ref aq_shades])), (aq_shades, .inl (kq_shades, 10, .inl zq_shades)), (aw, .inr (1, [.ref aw_near])), (aw_near, .inl (kw_near, 11, .inl zw_near))] sz) [(kq_shades, .int), (kw_near, .int)] [(aq, .inr (3, [.int zq_there, .int zq_allowed, .ref aq_shades])), (aq_shades, .inl (kq_shades, 10, .inl u)), (aw, .inr (1, [.ref aw_near])), (aw_near, .inl (kw_near, 11, .inl zw_near))] t) (va_A [(aq, .inr (3, [.int zq_there, .int zq_allowed, .ref aq_shades])), (aq_shades, .inl (kq_shades, 10, .inl zq_shades)), (aw, .inr (1, [.ref aw_near])), (aw_near, .inl (kw_near, 11, .inl zw_near))] sz)) 0 0 (va_A [(aq, .inr (3, [.int zq_there, .int zq_allowed, .ref aq_shades])), (aq_shades, .inl (kq_shades, 10, .inl zq_shades)), (aw, .inr (1, [.ref aw_near])), (aw_near, .inl (kw_near, 11, .inl zw_near))] sz) := by
  refine Met.ofW (cc := b_Pal_paintFrom) (maxL := 5) (ret := (some .boolean)) (by decide) rfl ?_
  intro p e s m args below meth c s₁ B hml hv
  obtain ⟨hargs, hsz, hP, hK, hD0, hN⟩ := hv
  have hx := B.exec
  have hb := B.bytes
  have hr := B.returns
  have hts := atoms_spec (ws := w_Pal_paintFrom) B.pre
  have hown : s.vm.findClass R_Pal = some m.cls := findClass_of_methodNamed B.named
  have hlocks := B.notSynchronized
  subst hsz
  have hD := hD0.self (sz := s.heap.size)
  generalize hAe : va_A [(aq, .inr (3, [.int zq_there, .int zq_allowed, .ref aq_shades])), (aq_shades, .inl (kq_shades, 10, .inl zq_shades)), (aw, .inr (1, [.ref aw_near])), (aw_near, .inl (kw_near, 11, .inl zw_near))] s.heap.size = A at hD ⊢
  have hA : ∀ q : Nat, s.heap.size ≤ q → A q := fun q h => by rw [← hAe]; exact Or.inr h
  have hS : va_S A s.heap s.heap [] := va_S.rf
  have hl := lv_entry ([.ref aq, .ref aw, .int v2, .int v3]) (n := 5) (Nat.le_of_ble_eq_true rfl)
  refine W.eq (congrArg (fun a => entryFrame m a 5) hargs) ?_
  rw [lg_entry_eq]
  generalize (lg_sl ([.ref aq, .ref aw, .int v2, .int v3]) ++ List.replicate (5 - (lg_sl ([.ref aq, .ref aw, .int v2, .int v3])).length) Slot.unset).toArray = ls at hl ⊢
  have hl : lv_has ls 5 [(0, .ref aq), (1, .ref aw), (2, .int v2), (3, .int v3)] := hl
  generalize hH0 : ([] : List Loc) = locs at hS ⊢
  have hI := hR.symm
  rw [F_paintFromR] at hI
  refine lv_iload_n hx hb d_Pal_paintFrom_0 rfl (lv_at hl 2 rfl) ?_
  refine lv_bipush (v := 10) hx hb d_Pal_paintFrom_1 (by decide) ?_
  refine lv_icmp_lt (tgt := 8) hx hb d_Pal_paintFrom_3 rfl (fun hc_3 => ?_) (fun hc_3 => ?_)
  · skip
    have hI := hI.trans (if_pos hc_3)
    refine lv_aload_n hx hb d_Pal_paintFrom_8 rfl (lv_at hl 0 rfl) ?_
    refine va_get (D := (dC, dI)) (ci := 3) (v := .int zq_there) (C := R_Pal) (T := F_Pal) (N := 3) hx hb hts (fun w h => List.mem_cons_of_mem _ (in_Pal w h)) hown hK hP 0 rfl rfl 0 (by decide) (hts _ (List.mem_cons_of_mem _ mw_1_73)) (fun _ h9 => h9) rfl d_Pal_paintFrom_9 ?_
    refine lv_iload_n hx hb d_Pal_paintFrom_12 rfl (lv_at hl 2 rfl) ?_
    have hPc := hP.sub (ws' := []) [] rfl
    have hDc := hD.sub (ws' := []) [] (by decide) rfl
    have hKc := hK.sub (tys' := []) [] rfl
    have hFc := va_free (wc := []) hD hS hA [] rfl
    refine va_calli (va_runSN (As := [.int zq_there, .int v2]) (rest := []) ⟨hx, hb, hml, hown, hts⟩ (c_has l dC dI s.heap.size zq_there v2) (⟨va_cnB 2 hts (gi0 mw_1_150) rfl rfl rfl (hN (R_Pal, 26, y_PS_has, R_PS) (by decide +kernel)) (hts _ (List.mem_cons_of_mem _ mw_1_1)) (by decide +kernel) ⟨Nat.le_of_ble_eq_true rfl, Nat.le_of_ble_eq_true rfl⟩, hts _ (List.mem_cons_of_mem _ mw_1_149), trivial⟩) ⟨fb_, pre_ hPc hKc hDc hN⟩ rfl rfl hl.1 rfl (lv_room (Nat.le_of_ble_eq_true rfl)) d_Pal_paintFrom_13 ⟨Nat.le_of_ble_eq_true rfl, Nat.le_of_ble_eq_true rfl⟩) hS (fun q _ h => hFc q h) hFc (fun r_13 u t H locs ht hvm hp_13 hB hz1 hk1 hS => ?_)
    obtain ⟨hP1, -, hD1⟩ := hB
    rw [ht] at hP1
    obtain ⟨hP, hD⟩ := va_join (wr := [(aq, .inr (3, [.int zq_there, .int zq_allowed, .ref aq_shades])), (aq_shades, .inl (kq_shades, 10, .inl zq_shades)), (aw, .inr (1, [.ref aw_near])), (aw_near, .inl (kw_near, 11, .inl zw_near))]) (w1 := []) hP hD [] [0, 1, 2, 3] rfl rfl (by decide) (by decide) hk1 hFc hP1 hD1
    have hp_13 : r_13 = f_has zq_there v2 := hp_13
    subst hp_13
    have hP : va_P (dC, dI) classes [(aq, .inr (3, [.int zq_there, .int zq_allowed, .ref aq_shades])), (aq_shades, .inl (kq_shades, 10, .inl zq_shades)), (aw, .inr (1, [.ref aw_near])), (aw_near, .inl (kw_near, 11, .inl zw_near))] H := hP
    have hD : va_D A [(aq, .inr (3, [.int zq_there, .int zq_allowed, .ref aq_shades])), (aq_shades, .inl (kq_shades, 10, .inl zq_shades)), (aw, .inr (1, [.ref aw_near])), (aw_near, .inl (kw_near, 11, .inl zw_near))] := hD
    refine lv_if_ne (tgt := 29) hx hb d_Pal_paintFrom_16 rfl (fun hc_16 => ?_) (fun hc_16 => ?_)
    · skip
      have hI := hI.trans (if_neg hc_16)
      refine lv_iconst (v := 0) hx hb d_Pal_paintFrom_29 (by decide) ?_
      refine lv_istore (lv' := [(4, .int 0), (0, .ref aq), (1, .ref aw), (2, .int v2), (3, .int v3)]) hx hb d_Pal_paintFrom_30 hl (by decide) rfl (fun ls hl => ?_)
      obtain ⟨K_32, hK_32⟩ : ∃ K : Int32 → (Nat → Int32) → Option (Int32 × (Nat → Int32)), K = (fun v4_32 wq_shades_32 => some ((0 : Int32), wq_shades_32)) := ⟨_, rfl⟩
      have X_32 : ∀ (k_32 : Nat) (v4_32 : Int32) (wq_shades_32 : Nat → Int32) (H : Heap) (locs : List Loc) (ls : Array Slot), some R = K_32 v4_32 wq_shades_32 → va_P (dC, dI) classes [(aq, .inr (3, [.int zq_there, .int zq_allowed, .ref aq_shades])), (aq_shades, .inl (kq_shades, 10, .inl wq_shades_32)), (aw, .inr (1, [.ref aw_near])), (aw_near, .inl (kw_near, 11, .inl zw_near))] H → va_D A [(aq, .inr (3, [.int zq_there, .int zq_allowed, .ref aq_shades])), (aq_shades, .inl (kq_shades, 10, .inl wq_shades_32)), (aw, .inr (1, [.ref aw_near])), (aw_near, .inl (kw_near, 11, .inl zw_near))] → va_S A s.heap H locs → lv_has ls 5 [(0, .ref aq), (1, .ref aw), (2, .int v2), (3, .int v3), (4, .int v4_32)] → W p l e (headSpec w_Pal_paintFrom ({ frames := 3, cells := 0, slots := 0, locals := 69 })).room s m args below meth c H locs 0 0 (MQ below (va_Qi (fun (r : Int32) (u : (Nat → Int32)) => ((r, u) = R) ∧ z01 r) (fun u t => End_ dC dI A [(kq_shades, .int), (kw_near, .int)] [(aq, .inr (3, [.int zq_there, .int zq_allowed, .ref aq_shades])), (aq_shades, .inl (kq_shades, 10, .inl u)), (aw, .inr (1, [.ref aw_near])), (aw_near, .inl (kw_near, 11, .inl zw_near))] t) A) args s 0 0 A) (F0 m 103 ls []) := by
        intro k_32 v4_32 wq_shades_32 H locs ls hI hP hD hS hl
        rw [hK_32] at hI
        refine lv_iconst (v := 0) hx hb d_Pal_paintFrom_103 (by decide) ?_
        exact W.zret (v := 0) (ty := .boolean) hx hb hr (nr01 (Or.inl rfl)) (fun t ht hW => ⟨⟨0, (wq_shades_32), rfl, ⟨(Option.some.inj hI).symm, (Or.inl rfl)⟩, by rw [ht]; exact hP, va_K.moved hW.alike hK, hD⟩, hS.F ht⟩) hS.2.2 d_Pal_paintFrom_104
      have L_32 : ∀ (n_32 k_32 : Nat) (v4_32 : Int32) (wq_shades_32 : Nat → Int32) (H : Heap) (locs : List Loc) (ls : Array Slot), some R = F_paintFromR_L32 K_32 zq_there zq_allowed zw_near v2 v3 (F_paintFromR 1) n_32 v4_32 wq_shades_32 → va_P (dC, dI) classes [(aq, .inr (3, [.int zq_there, .int zq_allowed, .ref aq_shades])), (aq_shades, .inl (kq_shades, 10, .inl wq_shades_32)), (aw, .inr (1, [.ref aw_near])), (aw_near, .inl (kw_near, 11, .inl zw_near))] H → va_D A [(aq, .inr (3, [.int zq_there, .int zq_allowed, .ref aq_shades])), (aq_shades, .inl (kq_shades, 10, .inl wq_shades_32)), (aw, .inr (1, [.ref aw_near])), (aw_near, .inl (kw_near, 11, .inl zw_near))] → va_S A s.heap H locs → lv_has ls 5 [(0, .ref aq), (1, .ref aw), (2, .int v2), (3, .int v3), (4, .int v4_32)] → W p l e (headSpec w_Pal_paintFrom ({ frames := 3, cells := 0, slots := 0, locals := 69 })).room s m args below meth c H locs 0 0 (MQ below (va_Qi (fun (r : Int32) (u : (Nat → Int32)) => ((r, u) = R) ∧ z01 r) (fun u t => End_ dC dI A [(kq_shades, .int), (kw_near, .int)] [(aq, .inr (3, [.int zq_there, .int zq_allowed, .ref aq_shades])), (aq_shades, .inl (kq_shades, 10, .inl u)), (aw, .inr (1, [.ref aw_near])), (aw_near, .inl (kw_near, 11, .inl zw_near))] t) A) args s 0 0 A) (F0 m 32 ls []) := by
        intro n_32
        induction n_32 with
        | zero =>
          intro k_32 v4_32 wq_shades_32 H locs ls hI hP hD hS hl
          rw [F_paintFromR_L32] at hI
          exact absurd hI (ob_no _)
        | succ n_32 ih_32 =>
          intro k_32 v4_32 wq_shades_32 H locs ls hI hP hD hS hl
          rw [F_paintFromR_L32] at hI
          refine lv_iload hx hb d_Pal_paintFrom_32 (lv_at hl 4 rfl) ?_
          refine lv_iload_n hx hb d_Pal_paintFrom_34 rfl (lv_at hl 3 rfl) ?_
          refine lv_icmp_gt (tgt := 103) hx hb d_Pal_paintFrom_35 rfl (fun hc_35 => ?_) (fun hc_35 => ?_)
          · skip
            have hI := hI.trans (if_pos hc_35)
            have hl := lv_sub hl [0, 1, 2, 3, 4] rfl
            exact X_32 0 _ _ _ _ _ hI hP hD hS hl
          · skip
            have hI := hI.trans (if_neg hc_35)
            refine lv_iload hx hb d_Pal_paintFrom_38 (lv_at hl 4 rfl) ?_
            refine lv_aload_n hx hb d_Pal_paintFrom_40 rfl (lv_at hl 0 rfl) ?_
            refine va_get (D := (dC, dI)) (ci := 3) (v := .int zq_allowed) (C := R_Pal) (T := F_Pal) (N := 3) hx hb hts (fun w h => List.mem_cons_of_mem _ (in_Pal w h)) hown hK hP 0 rfl rfl 1 (by decide) (hts _ (List.mem_cons_of_mem _ mw_1_74)) (fun _ h9 => h9) rfl d_Pal_paintFrom_41 ?_
            refine lv_icmp_ge (tgt := 103) hx hb d_Pal_paintFrom_44 rfl (fun hc_44 => ?_) (fun hc_44 => ?_)
            · skip
              have hI := hI.trans (if_pos hc_44)
              have hl := lv_sub hl [0, 1, 2, 3, 4] rfl
              exact X_32 0 _ _ _ _ _ hI hP hD hS hl
            · skip
              have hI := hI.trans (if_neg hc_44)
              refine lv_aload_n hx hb d_Pal_paintFrom_47 rfl (lv_at hl 0 rfl) ?_
              refine lv_aload_n hx hb d_Pal_paintFrom_48 rfl (lv_at hl 1 rfl) ?_
              refine lv_iload hx hb d_Pal_paintFrom_49 (lv_at hl 4 rfl) ?_
              refine lv_iload_n hx hb d_Pal_paintFrom_51 rfl (lv_at hl 2 rfl) ?_
              obtain ⟨p_52, hg_52, hI⟩ := ob_bd hI
              have hPc := hP.sub (ws' := [(aq, .inr (3, [.int zq_there, .int zq_allowed, .ref aq_shades])), (aq_shades, .inl (kq_shades, 10, .inl wq_shades_32)), (aw, .inr (1, [.ref aw_near])), (aw_near, .inl (kw_near, 11, .inl zw_near))]) [0, 1, 2, 3] rfl
              have hDc := hD.sub (ws' := [(aq, .inr (3, [.int zq_there, .int zq_allowed, .ref aq_shades])), (aq_shades, .inl (kq_shades, 10, .inl wq_shades_32)), (aw, .inr (1, [.ref aw_near])), (aw_near, .inl (kw_near, 11, .inl zw_near))]) [0, 1, 2, 3] (by decide) rfl
              have hKc := hK.sub (tys' := [(kq_shades, .int), (kw_near, .int)]) [0, 1] rfl
              have hFc := va_free (wc := [(aq, .inr (3, [.int zq_there, .int zq_allowed, .ref aq_shades])), (aq_shades, .inl (kq_shades, 10, .inl wq_shades_32)), (aw, .inr (1, [.ref aw_near])), (aw_near, .inl (kw_near, 11, .inl zw_near))]) hD hS hA [0, 1, 2, 3] rfl
              refine va_calli (va_runV (As := [.ref aw, .int v4_32, .int v2]) (rest := []) ⟨hx, hb, hml, hown, hts⟩ (c_isFreeG l dC dI H.size aq aw aq_shades aw_near kq_shades kw_near zq_there zq_allowed wq_shades_32 zw_near v4_32 v2 p_52 hg_52) (cwV 3 hts (gi4 mw_2_39 mw_2_41 mw_p_19 mw_1_4 mw_2_42) rfl rfl rfl (by decide +kernel) ⟨Nat.le_of_ble_eq_true rfl, Nat.le_of_ble_eq_true rfl⟩) ⟨fb_, va_recv (q0 := 0) (ci := 3) hK hP rfl rfl, pre_ hPc hKc hDc hN⟩ rfl rfl hl.1 rfl (lv_room (Nat.le_of_ble_eq_true rfl)) d_Pal_paintFrom_52 ⟨Nat.le_of_ble_eq_true rfl, Nat.le_of_ble_eq_true rfl⟩) hS (fun q _ h => hFc q h) hFc (fun r_52 u t H locs ht hvm hp_52 hB hz1 hk1 hS => ?_)
              obtain ⟨hP1, -, hD1⟩ := hB
              rw [ht] at hP1
              obtain ⟨hP, hD⟩ := va_join (wr := []) (w1 := [(aq, .inr (3, [.int zq_there, .int zq_allowed, .ref aq_shades])), (aq_shades, .inl (kq_shades, 10, .inl wq_shades_32)), (aw, .inr (1, [.ref aw_near])), (aw_near, .inl (kw_near, 11, .inl zw_near))]) hP hD [0, 1, 2, 3] [] rfl rfl (by decide) (by decide) hk1 hFc hP1 hD1
              obtain ⟨hp_52, hz_52⟩ := hp_52
              have hp_52 : (r_52) = p_52 := hp_52
              subst hp_52
              have hP : va_P (dC, dI) classes [(aq, .inr (3, [.int zq_there, .int zq_allowed, .ref aq_shades])), (aq_shades, .inl (kq_shades, 10, .inl wq_shades_32)), (aw, .inr (1, [.ref aw_near])), (aw_near, .inl (kw_near, 11, .inl zw_near))] H := hP
              have hD : va_D A [(aq, .inr (3, [.int zq_there, .int zq_allowed, .ref aq_shades])), (aq_shades, .inl (kq_shades, 10, .inl wq_shades_32)), (aw, .inr (1, [.ref aw_near])), (aw_near, .inl (kw_near, 11, .inl zw_near))] := hD
              refine lv_if_eq (tgt := 97) hx hb d_Pal_paintFrom_55 rfl (fun hc_55 => ?_) (fun hc_55 => ?_)
              · skip
                have hI := hI.trans (if_pos hc_55)
                refine lv_iinc (lv' := [(4, .int (v4_32 + 1)), (0, .ref aq), (1, .ref aw), (2, .int v2), (3, .int v3)]) (k := 4) hx hb d_Pal_paintFrom_97 hl rfl (z_inc1 _) (by decide) rfl (fun ls hl => ?_)
                refine lv_goto (tgt := 32) hx hb d_Pal_paintFrom_100 rfl ?_
                have hl := lv_sub hl [1, 2, 3, 4, 0] rfl
                exact ih_32 0 _ _ _ _ _ hI hP hD hS hl
              · skip
                have hI := hI.trans (if_neg hc_55)
                refine lv_aload_n hx hb d_Pal_paintFrom_58 rfl (lv_at hl 0 rfl) ?_
                refine va_get (D := (dC, dI)) (ci := 3) (v := .ref aq_shades) (C := R_Pal) (T := F_Pal) (N := 3) hx hb hts (fun w h => List.mem_cons_of_mem _ (in_Pal w h)) hown hK hP 0 rfl rfl 2 (by decide) (hts _ (List.mem_cons_of_mem _ mw_1_75)) (fun _ h9 => h9) rfl d_Pal_paintFrom_59 ?_
                refine lv_iload_n hx hb d_Pal_paintFrom_62 rfl (lv_at hl 2 rfl) ?_
                refine lv_iload hx hb d_Pal_paintFrom_63 (lv_at hl 4 rfl) ?_
                have hi_65 := ob_in hI
                have hI := ob_th hI
                refine va_iast (D := (dC, dI)) hx hb hK hP hD hS 1 0 rfl rfl hi_65 d_Pal_paintFrom_65 (fun H locs hP hD hS => ?_)
                have hP : va_P (dC, dI) classes [(aq, .inr (3, [.int zq_there, .int zq_allowed, .ref aq_shades])), (aq_shades, .inl (kq_shades, 10, .inl (upd wq_shades_32 (Int32.toNatClampNeg v2) v4_32))), (aw, .inr (1, [.ref aw_near])), (aw_near, .inl (kw_near, 11, .inl zw_near))] H := hP
                have hD : va_D A [(aq, .inr (3, [.int zq_there, .int zq_allowed, .ref aq_shades])), (aq_shades, .inl (kq_shades, 10, .inl (upd wq_shades_32 (Int32.toNatClampNeg v2) v4_32))), (aw, .inr (1, [.ref aw_near])), (aw_near, .inl (kw_near, 11, .inl zw_near))] := hD
                refine lv_aload_n hx hb d_Pal_paintFrom_66 rfl (lv_at hl 0 rfl) ?_
                refine lv_aload_n hx hb d_Pal_paintFrom_67 rfl (lv_at hl 1 rfl) ?_
                refine lv_iload_n hx hb d_Pal_paintFrom_68 rfl (lv_at hl 2 rfl) ?_
                refine lv_iconst (v := 1) hx hb d_Pal_paintFrom_69 (by decide) ?_
                refine lv_iadd hx hb d_Pal_paintFrom_70 ?_
                refine lv_iload_n hx hb d_Pal_paintFrom_71 rfl (lv_at hl 3 rfl) ?_
                refine lv_iload hx hb d_Pal_paintFrom_72 (lv_at hl 4 rfl) ?_
                refine lv_iconst (v := 1) hx hb d_Pal_paintFrom_74 (by decide) ?_
                refine lv_iadd hx hb d_Pal_paintFrom_75 ?_
                refine va_mmax hx hb (hml.trans hl.1.symm) hown (hts _ (List.mem_cons_of_mem _ mw_2_44)) (hts _ (List.mem_cons_of_mem _ mw_2_45)) (hts _ (List.mem_cons_of_mem _ mw_1_15)) (hts _ (List.mem_cons_of_mem _ mw_2_46)) (Nat.le_of_ble_eq_true rfl) (Nat.le_of_ble_eq_true rfl) (Nat.le_of_ble_eq_true rfl) (Nat.le_of_ble_eq_true rfl) d_Pal_paintFrom_76 ?_
                obtain ⟨p_79, hg_79, hI⟩ := ob_bd hI
                have hPc := hP.sub (ws' := [(aq, .inr (3, [.int zq_there, .int zq_allowed, .ref aq_shades])), (aq_shades, .inl (kq_shades, 10, .inl (upd wq_shades_32 (Int32.toNatClampNeg v2) v4_32))), (aw, .inr (1, [.ref aw_near])), (aw_near, .inl (kw_near, 11, .inl zw_near))]) [0, 1, 2, 3] rfl
                have hDc := hD.sub (ws' := [(aq, .inr (3, [.int zq_there, .int zq_allowed, .ref aq_shades])), (aq_shades, .inl (kq_shades, 10, .inl (upd wq_shades_32 (Int32.toNatClampNeg v2) v4_32))), (aw, .inr (1, [.ref aw_near])), (aw_near, .inl (kw_near, 11, .inl zw_near))]) [0, 1, 2, 3] (by decide) rfl
                have hKc := hK.sub (tys' := [(kq_shades, .int), (kw_near, .int)]) [0, 1] rfl
                have hFc := va_free (wc := [(aq, .inr (3, [.int zq_there, .int zq_allowed, .ref aq_shades])), (aq_shades, .inl (kq_shades, 10, .inl (upd wq_shades_32 (Int32.toNatClampNeg v2) v4_32))), (aw, .inr (1, [.ref aw_near])), (aw_near, .inl (kw_near, 11, .inl zw_near))]) hD hS hA [0, 1, 2, 3] rfl
                refine va_calli (va_runV (As := [.ref aw, .int (v2 + 1), .int (if v3 < (v4_32 + 1) then (v4_32 + 1) else v3)]) (rest := []) ⟨hx, hb, hml, hown, hts⟩ (c_paintFrom_1 l dC dI H.size aq aw aq_shades aw_near kq_shades kw_near zq_there zq_allowed (upd wq_shades_32 (Int32.toNatClampNeg v2) v4_32) zw_near (v2 + 1) (if v3 < (v4_32 + 1) then (v4_32 + 1) else v3) p_79 hg_79) (cwV 3 hts (gi4 mw_2_34 mw_2_36 mw_p_18 mw_1_4 mw_2_37) rfl rfl rfl (by decide +kernel) ⟨Nat.le_of_ble_eq_true rfl, Nat.le_of_ble_eq_true rfl⟩) ⟨fb_, va_recv (q0 := 0) (ci := 3) hK hP rfl rfl, pre_ hPc hKc hDc hN⟩ rfl rfl hl.1 rfl (lv_room (Nat.le_of_ble_eq_true rfl)) d_Pal_paintFrom_79 ⟨Nat.le_of_ble_eq_true rfl, Nat.le_of_ble_eq_true rfl⟩) hS (fun q _ h => hFc q h) hFc (fun r_79 wq_shades_79 t H locs ht hvm hp_79 hB hz1 hk1 hS => ?_)
                obtain ⟨hP1, -, hD1⟩ := hB
                rw [ht] at hP1
                obtain ⟨hP, hD⟩ := va_join (wr := []) (w1 := [(aq, .inr (3, [.int zq_there, .int zq_allowed, .ref aq_shades])), (aq_shades, .inl (kq_shades, 10, .inl wq_shades_79)), (aw, .inr (1, [.ref aw_near])), (aw_near, .inl (kw_near, 11, .inl zw_near))]) hP hD [0, 1, 2, 3] [] rfl rfl (by decide) (by decide) hk1 hFc hP1 hD1
                obtain ⟨hp_79, hz_79⟩ := hp_79
                have hp_79 : (r_79, wq_shades_79) = p_79 := hp_79
                subst hp_79
                have hP : va_P (dC, dI) classes [(aq, .inr (3, [.int zq_there, .int zq_allowed, .ref aq_shades])), (aq_shades, .inl (kq_shades, 10, .inl wq_shades_79)), (aw, .inr (1, [.ref aw_near])), (aw_near, .inl (kw_near, 11, .inl zw_near))] H := hP
                have hD : va_D A [(aq, .inr (3, [.int zq_there, .int zq_allowed, .ref aq_shades])), (aq_shades, .inl (kq_shades, 10, .inl wq_shades_79)), (aw, .inr (1, [.ref aw_near])), (aw_near, .inl (kw_near, 11, .inl zw_near))] := hD
                refine lv_if_eq (tgt := 87) hx hb d_Pal_paintFrom_82 rfl (fun hc_82 => ?_) (fun hc_82 => ?_)
                · skip
                  have hI := hI.trans (if_pos hc_82)
                  refine lv_aload_n hx hb d_Pal_paintFrom_87 rfl (lv_at hl 1 rfl) ?_
                  refine lv_iload_n hx hb d_Pal_paintFrom_88 rfl (lv_at hl 2 rfl) ?_
                  obtain ⟨p_89, hg_89, hI⟩ := ob_bd hI
                  have hPc := hP.sub (ws' := [(aw, .inr (1, [.ref aw_near])), (aw_near, .inl (kw_near, 11, .inl zw_near))]) [2, 3] rfl
                  have hDc := hD.sub (ws' := [(aw, .inr (1, [.ref aw_near])), (aw_near, .inl (kw_near, 11, .inl zw_near))]) [2, 3] (by decide) rfl
                  have hKc := hK.sub (tys' := [(kw_near, .int)]) [1] rfl
                  have hFc := va_free (wc := [(aw, .inr (1, [.ref aw_near])), (aw_near, .inl (kw_near, 11, .inl zw_near))]) hD hS hA [2, 3] rfl
                  refine va_calli (va_runS (As := [.ref aw, .int v2]) (rest := []) ⟨hx, hb, hml, hown, hts⟩ (c_hasLaterG l dC dI H.size aw aw_near kw_near zw_near v2 p_89 hg_89) (cwS 2 hts (gi3 mw_2_47 mw_2_48 mw_1_4 mw_2_49) rfl rfl rfl (by decide +kernel) ⟨Nat.le_of_ble_eq_true rfl, Nat.le_of_ble_eq_true rfl⟩) ⟨fb_, pre_ hPc hKc hDc hN⟩ rfl rfl hl.1 rfl (lv_room (Nat.le_of_ble_eq_true rfl)) d_Pal_paintFrom_89 ⟨Nat.le_of_ble_eq_true rfl, Nat.le_of_ble_eq_true rfl⟩) hS (fun q _ h => hFc q h) hFc (fun r_89 u t H locs ht hvm hp_89 hB hz1 hk1 hS => ?_)
                  obtain ⟨hP1, -, hD1⟩ := hB
                  rw [ht] at hP1
                  obtain ⟨hP, hD⟩ := va_join (wr := [(aq, .inr (3, [.int zq_there, .int zq_allowed, .ref aq_shades])), (aq_shades, .inl (kq_shades, 10, .inl wq_shades_79))]) (w1 := [(aw, .inr (1, [.ref aw_near])), (aw_near, .inl (kw_near, 11, .inl zw_near))]) hP hD [2, 3] [0, 1] rfl rfl (by decide) (by decide) hk1 hFc hP1 hD1
                  obtain ⟨hp_89, hz_89⟩ := hp_89
                  have hp_89 : (r_89) = p_89 := hp_89
                  subst hp_89
                  have hP : va_P (dC, dI) classes [(aq, .inr (3, [.int zq_there, .int zq_allowed, .ref aq_shades])), (aq_shades, .inl (kq_shades, 10, .inl wq_shades_79)), (aw, .inr (1, [.ref aw_near])), (aw_near, .inl (kw_near, 11, .inl zw_near))] H := hP
                  have hD : va_D A [(aq, .inr (3, [.int zq_there, .int zq_allowed, .ref aq_shades])), (aq_shades, .inl (kq_shades, 10, .inl wq_shades_79)), (aw, .inr (1, [.ref aw_near])), (aw_near, .inl (kw_near, 11, .inl zw_near))] := hD
                  refine lv_if_ne (tgt := 97) hx hb d_Pal_paintFrom_92 rfl (fun hc_92 => ?_) (fun hc_92 => ?_)
                  · skip
                    have hI := hI.trans (if_neg hc_92)
                    refine lv_iinc (lv' := [(4, .int (v4_32 + 1)), (0, .ref aq), (1, .ref aw), (2, .int v2), (3, .int v3)]) (k := 4) hx hb d_Pal_paintFrom_97 hl rfl (z_inc1 _) (by decide) rfl (fun ls hl => ?_)
                    refine lv_goto (tgt := 32) hx hb d_Pal_paintFrom_100 rfl ?_
                    have hl := lv_sub hl [1, 2, 3, 4, 0] rfl
                    exact ih_32 0 _ _ _ _ _ hI hP hD hS hl
                  · skip
                    have hI := hI.trans (if_pos hc_92)
                    refine lv_iconst (v := 0) hx hb d_Pal_paintFrom_95 (by decide) ?_
                    exact W.zret (v := 0) (ty := .boolean) hx hb hr (nr01 (Or.inl rfl)) (fun t ht hW => ⟨⟨0, (wq_shades_79), rfl, ⟨(Option.some.inj hI).symm, (Or.inl rfl)⟩, by rw [ht]; exact hP, va_K.moved hW.alike hK, hD⟩, hS.F ht⟩) hS.2.2 d_Pal_paintFrom_96
                · skip
                  have hI := hI.trans (if_neg hc_82)
                  refine lv_iconst (v := 1) hx hb d_Pal_paintFrom_85 (by decide) ?_
                  exact W.zret (v := 1) (ty := .boolean) hx hb hr (nr01 (Or.inr rfl)) (fun t ht hW => ⟨⟨1, (wq_shades_79), rfl, ⟨(Option.some.inj hI).symm, (Or.inr rfl)⟩, by rw [ht]; exact hP, va_K.moved hW.alike hK, hD⟩, hS.F ht⟩) hS.2.2 d_Pal_paintFrom_86
      have hl : lv_has ls 5 [(0, .ref aq), (1, .ref aw), (2, .int v2), (3, .int v3), (4, .int 0)] := by first | exact lv_sub hl [1, 2, 3, 4, 0] rfl | (rw [nI_succ]; exact lv_sub hl [1, 2, 3, 4, 0] rfl)
      exact L_32 64 0 _ _ _ _ _ (by rw [hK_32]; exact hI) hP hD hS hl
    · skip
      have hI := hI.trans (if_pos hc_16)
      refine lv_aload_n hx hb d_Pal_paintFrom_19 rfl (lv_at hl 0 rfl) ?_
      refine lv_aload_n hx hb d_Pal_paintFrom_20 rfl (lv_at hl 1 rfl) ?_
      refine lv_iload_n hx hb d_Pal_paintFrom_21 rfl (lv_at hl 2 rfl) ?_
      refine lv_iconst (v := 1) hx hb d_Pal_paintFrom_22 (by decide) ?_
      refine lv_iadd hx hb d_Pal_paintFrom_23 ?_
      refine lv_iload_n hx hb d_Pal_paintFrom_24 rfl (lv_at hl 3 rfl) ?_
      obtain ⟨p_25, hg_25, hI⟩ := ob_bd hI
      have hPc := hP.sub (ws' := [(aq, .inr (3, [.int zq_there, .int zq_allowed, .ref aq_shades])), (aq_shades, .inl (kq_shades, 10, .inl zq_shades)), (aw, .inr (1, [.ref aw_near])), (aw_near, .inl (kw_near, 11, .inl zw_near))]) [0, 1, 2, 3] rfl
      have hDc := hD.sub (ws' := [(aq, .inr (3, [.int zq_there, .int zq_allowed, .ref aq_shades])), (aq_shades, .inl (kq_shades, 10, .inl zq_shades)), (aw, .inr (1, [.ref aw_near])), (aw_near, .inl (kw_near, 11, .inl zw_near))]) [0, 1, 2, 3] (by decide) rfl
      have hKc := hK.sub (tys' := [(kq_shades, .int), (kw_near, .int)]) [0, 1] rfl
      have hFc := va_free (wc := [(aq, .inr (3, [.int zq_there, .int zq_allowed, .ref aq_shades])), (aq_shades, .inl (kq_shades, 10, .inl zq_shades)), (aw, .inr (1, [.ref aw_near])), (aw_near, .inl (kw_near, 11, .inl zw_near))]) hD hS hA [0, 1, 2, 3] rfl
      refine va_calli (va_runV (As := [.ref aw, .int (v2 + 1), .int v3]) (rest := []) ⟨hx, hb, hml, hown, hts⟩ (c_paintFrom_1 l dC dI H.size aq aw aq_shades aw_near kq_shades kw_near zq_there zq_allowed zq_shades zw_near (v2 + 1) v3 p_25 hg_25) (cwV 3 hts (gi4 mw_2_34 mw_2_36 mw_p_18 mw_1_4 mw_2_37) rfl rfl rfl (by decide +kernel) ⟨Nat.le_of_ble_eq_true rfl, Nat.le_of_ble_eq_true rfl⟩) ⟨fb_, va_recv (q0 := 0) (ci := 3) hK hP rfl rfl, pre_ hPc hKc hDc hN⟩ rfl rfl hl.1 rfl (lv_room (Nat.le_of_ble_eq_true rfl)) d_Pal_paintFrom_25 ⟨Nat.le_of_ble_eq_true rfl, Nat.le_of_ble_eq_true rfl⟩) hS (fun q _ h => hFc q h) hFc (fun r_25 wq_shades_25 t H locs ht hvm hp_25 hB hz1 hk1 hS => ?_)
      obtain ⟨hP1, -, hD1⟩ := hB
      rw [ht] at hP1
      obtain ⟨hP, hD⟩ := va_join (wr := []) (w1 := [(aq, .inr (3, [.int zq_there, .int zq_allowed, .ref aq_shades])), (aq_shades, .inl (kq_shades, 10, .inl wq_shades_25)), (aw, .inr (1, [.ref aw_near])), (aw_near, .inl (kw_near, 11, .inl zw_near))]) hP hD [0, 1, 2, 3] [] rfl rfl (by decide) (by decide) hk1 hFc hP1 hD1
      obtain ⟨hp_25, hz_25⟩ := hp_25
      have hp_25 : (r_25, wq_shades_25) = p_25 := hp_25
      subst hp_25
      have hP : va_P (dC, dI) classes [(aq, .inr (3, [.int zq_there, .int zq_allowed, .ref aq_shades])), (aq_shades, .inl (kq_shades, 10, .inl wq_shades_25)), (aw, .inr (1, [.ref aw_near])), (aw_near, .inl (kw_near, 11, .inl zw_near))] H := hP
      have hD : va_D A [(aq, .inr (3, [.int zq_there, .int zq_allowed, .ref aq_shades])), (aq_shades, .inl (kq_shades, 10, .inl wq_shades_25)), (aw, .inr (1, [.ref aw_near])), (aw_near, .inl (kw_near, 11, .inl zw_near))] := hD
      exact W.zret (v := r_25) (ty := .boolean) hx hb hr (nr01 hz_25) (fun t ht hW => ⟨⟨r_25, (wq_shades_25), rfl, ⟨(Option.some.inj hI).symm, hz_25⟩, by rw [ht]; exact hP, va_K.moved hW.alike hK, hD⟩, hS.F ht⟩) hS.2.2 d_Pal_paintFrom_28
  · skip
    have hI := hI.trans (if_neg hc_3)
    refine lv_iconst (v := 1) hx hb d_Pal_paintFrom_6 (by decide) ?_
    exact W.zret (v := 1) (ty := .boolean) hx hb hr (nr01 (Or.inr rfl)) (fun t ht hW => ⟨⟨1, (zq_shades), rfl, ⟨(Option.some.inj hI).symm, (Or.inr rfl)⟩, by rw [ht]; exact hP, va_K.moved hW.alike hK, hD⟩, hS.F ht⟩) hS.2.2 d_Pal_paintFrom_7
set_option maxHeartbeats 4000000 in
set_option maxRecDepth 100000 in
theorem c_paintFrom_3 (l : Launch) (dC : Nat → ClassId) (dI : Nat → Nat → Nat) (sz : Nat) (aq aw aq_shades aw_near : Nat) (kq_shades kw_near : ClassId) (zq_there : Int32) (zq_allowed : Int32) (zq_shades : Nat → Int32) (zw_near : Nat → Int32) (v2 v3 : Int32) (R : Int32 × (Nat → Int32)) (hR : F_paintFromR 3 zq_there zq_allowed zq_shades zw_near v2 v3 = some R) : Met l y_Pal_paintFrom w_Pal_paintFrom ({ frames := 4, cells := 0, slots := 0, locals := 93 }) (Pre_ dC dI sz [.ref aq, .ref aw, .int v2, .int v3] [(aq, .inr (3, [.int zq_there, .int zq_allowed, .ref aq_shades])), (aq_shades, .inl (kq_shades, 10, .inl zq_shades)), (aw, .inr (1, [.ref aw_near])), (aw_near, .inl (kw_near, 11, .inl zw_near))] [(kq_shades, .int), (kw_near, .int)]) (va_Qi (fun (r : Int32) (u : (Nat → Int32)) => ((r, u) = R) ∧ z01 r) (fun u t => End_ dC dI (va_A [(aq, .inr (3, [.int zq_there, .int zq_allowed, .ref aq_shades])), (aq_shades, .inl (kq_shades, 10, .inl zq_shades)), (aw, .inr (1, [.ref aw_near])), (aw_near, .inl (kw_near, 11, .inl zw_near))] sz) [(kq_shades, .int), (kw_near, .int)] [(aq, .inr (3, [.int zq_there, .int zq_allowed, .ref aq_shades])), (aq_shades, .inl (kq_shades, 10, .inl u)), (aw, .inr (1, [.ref aw_near])), (aw_near, .inl (kw_near, 11, .inl zw_near))] t) (va_A [(aq, .inr (3, [.int zq_there, .int zq_allowed, .ref aq_shades])), (aq_shades, .inl (kq_shades, 10, .inl zq_shades)), (aw, .inr (1, [.ref aw_near])), (aw_near, .inl (kw_near, 11, .inl zw_near))] sz)) 0 0 (va_A [(aq, .inr (3, [.int zq_there, .int zq_allowed, .ref aq_shades])), (aq_shades, .inl (kq_shades, 10, .inl zq_shades)), (aw, .inr (1, [.ref aw_near])), (aw_near, .inl (kw_near, 11, .inl zw_near))] sz) := by
  refine Met.ofW (cc := b_Pal_paintFrom) (maxL := 5) (ret := (some .boolean)) (by decide) rfl ?_
  intro p e s m args below meth c s₁ B hml hv
  obtain ⟨hargs, hsz, hP, hK, hD0, hN⟩ := hv
  have hx := B.exec
  have hb := B.bytes
  have hr := B.returns
  have hts := atoms_spec (ws := w_Pal_paintFrom) B.pre
  have hown : s.vm.findClass R_Pal = some m.cls := findClass_of_methodNamed B.named
  have hlocks := B.notSynchronized
  subst hsz
  have hD := hD0.self (sz := s.heap.size)
  generalize hAe : va_A [(aq, .inr (3, [.int zq_there, .int zq_allowed, .ref aq_shades])), (aq_shades, .inl (kq_shades, 10, .inl zq_shades)), (aw, .inr (1, [.ref aw_near])), (aw_near, .inl (kw_near, 11, .inl zw_near))] s.heap.size = A at hD ⊢
  have hA : ∀ q : Nat, s.heap.size ≤ q → A q := fun q h => by rw [← hAe]; exact Or.inr h
  have hS : va_S A s.heap s.heap [] := va_S.rf
  have hl := lv_entry ([.ref aq, .ref aw, .int v2, .int v3]) (n := 5) (Nat.le_of_ble_eq_true rfl)
  refine W.eq (congrArg (fun a => entryFrame m a 5) hargs) ?_
  rw [lg_entry_eq]
  generalize (lg_sl ([.ref aq, .ref aw, .int v2, .int v3]) ++ List.replicate (5 - (lg_sl ([.ref aq, .ref aw, .int v2, .int v3])).length) Slot.unset).toArray = ls at hl ⊢
  have hl : lv_has ls 5 [(0, .ref aq), (1, .ref aw), (2, .int v2), (3, .int v3)] := hl
  generalize hH0 : ([] : List Loc) = locs at hS ⊢
  have hI := hR.symm
  rw [F_paintFromR] at hI
  refine lv_iload_n hx hb d_Pal_paintFrom_0 rfl (lv_at hl 2 rfl) ?_
  refine lv_bipush (v := 10) hx hb d_Pal_paintFrom_1 (by decide) ?_
  refine lv_icmp_lt (tgt := 8) hx hb d_Pal_paintFrom_3 rfl (fun hc_3 => ?_) (fun hc_3 => ?_)
  · skip
    have hI := hI.trans (if_pos hc_3)
    refine lv_aload_n hx hb d_Pal_paintFrom_8 rfl (lv_at hl 0 rfl) ?_
    refine va_get (D := (dC, dI)) (ci := 3) (v := .int zq_there) (C := R_Pal) (T := F_Pal) (N := 3) hx hb hts (fun w h => List.mem_cons_of_mem _ (in_Pal w h)) hown hK hP 0 rfl rfl 0 (by decide) (hts _ (List.mem_cons_of_mem _ mw_1_73)) (fun _ h9 => h9) rfl d_Pal_paintFrom_9 ?_
    refine lv_iload_n hx hb d_Pal_paintFrom_12 rfl (lv_at hl 2 rfl) ?_
    have hPc := hP.sub (ws' := []) [] rfl
    have hDc := hD.sub (ws' := []) [] (by decide) rfl
    have hKc := hK.sub (tys' := []) [] rfl
    have hFc := va_free (wc := []) hD hS hA [] rfl
    refine va_calli (va_runSN (As := [.int zq_there, .int v2]) (rest := []) ⟨hx, hb, hml, hown, hts⟩ (c_has l dC dI s.heap.size zq_there v2) (⟨va_cnB 2 hts (gi0 mw_1_150) rfl rfl rfl (hN (R_Pal, 26, y_PS_has, R_PS) (by decide +kernel)) (hts _ (List.mem_cons_of_mem _ mw_1_1)) (by decide +kernel) ⟨Nat.le_of_ble_eq_true rfl, Nat.le_of_ble_eq_true rfl⟩, hts _ (List.mem_cons_of_mem _ mw_1_149), trivial⟩) ⟨fb_, pre_ hPc hKc hDc hN⟩ rfl rfl hl.1 rfl (lv_room (Nat.le_of_ble_eq_true rfl)) d_Pal_paintFrom_13 ⟨Nat.le_of_ble_eq_true rfl, Nat.le_of_ble_eq_true rfl⟩) hS (fun q _ h => hFc q h) hFc (fun r_13 u t H locs ht hvm hp_13 hB hz1 hk1 hS => ?_)
    obtain ⟨hP1, -, hD1⟩ := hB
    rw [ht] at hP1
    obtain ⟨hP, hD⟩ := va_join (wr := [(aq, .inr (3, [.int zq_there, .int zq_allowed, .ref aq_shades])), (aq_shades, .inl (kq_shades, 10, .inl zq_shades)), (aw, .inr (1, [.ref aw_near])), (aw_near, .inl (kw_near, 11, .inl zw_near))]) (w1 := []) hP hD [] [0, 1, 2, 3] rfl rfl (by decide) (by decide) hk1 hFc hP1 hD1
    have hp_13 : r_13 = f_has zq_there v2 := hp_13
    subst hp_13
    have hP : va_P (dC, dI) classes [(aq, .inr (3, [.int zq_there, .int zq_allowed, .ref aq_shades])), (aq_shades, .inl (kq_shades, 10, .inl zq_shades)), (aw, .inr (1, [.ref aw_near])), (aw_near, .inl (kw_near, 11, .inl zw_near))] H := hP
    have hD : va_D A [(aq, .inr (3, [.int zq_there, .int zq_allowed, .ref aq_shades])), (aq_shades, .inl (kq_shades, 10, .inl zq_shades)), (aw, .inr (1, [.ref aw_near])), (aw_near, .inl (kw_near, 11, .inl zw_near))] := hD
    refine lv_if_ne (tgt := 29) hx hb d_Pal_paintFrom_16 rfl (fun hc_16 => ?_) (fun hc_16 => ?_)
    · skip
      have hI := hI.trans (if_neg hc_16)
      refine lv_iconst (v := 0) hx hb d_Pal_paintFrom_29 (by decide) ?_
      refine lv_istore (lv' := [(4, .int 0), (0, .ref aq), (1, .ref aw), (2, .int v2), (3, .int v3)]) hx hb d_Pal_paintFrom_30 hl (by decide) rfl (fun ls hl => ?_)
      obtain ⟨K_32, hK_32⟩ : ∃ K : Int32 → (Nat → Int32) → Option (Int32 × (Nat → Int32)), K = (fun v4_32 wq_shades_32 => some ((0 : Int32), wq_shades_32)) := ⟨_, rfl⟩
      have X_32 : ∀ (k_32 : Nat) (v4_32 : Int32) (wq_shades_32 : Nat → Int32) (H : Heap) (locs : List Loc) (ls : Array Slot), some R = K_32 v4_32 wq_shades_32 → va_P (dC, dI) classes [(aq, .inr (3, [.int zq_there, .int zq_allowed, .ref aq_shades])), (aq_shades, .inl (kq_shades, 10, .inl wq_shades_32)), (aw, .inr (1, [.ref aw_near])), (aw_near, .inl (kw_near, 11, .inl zw_near))] H → va_D A [(aq, .inr (3, [.int zq_there, .int zq_allowed, .ref aq_shades])), (aq_shades, .inl (kq_shades, 10, .inl wq_shades_32)), (aw, .inr (1, [.ref aw_near])), (aw_near, .inl (kw_near, 11, .inl zw_near))] → va_S A s.heap H locs → lv_has ls 5 [(0, .ref aq), (1, .ref aw), (2, .int v2), (3, .int v3), (4, .int v4_32)] → W p l e (headSpec w_Pal_paintFrom ({ frames := 4, cells := 0, slots := 0, locals := 93 })).room s m args below meth c H locs 0 0 (MQ below (va_Qi (fun (r : Int32) (u : (Nat → Int32)) => ((r, u) = R) ∧ z01 r) (fun u t => End_ dC dI A [(kq_shades, .int), (kw_near, .int)] [(aq, .inr (3, [.int zq_there, .int zq_allowed, .ref aq_shades])), (aq_shades, .inl (kq_shades, 10, .inl u)), (aw, .inr (1, [.ref aw_near])), (aw_near, .inl (kw_near, 11, .inl zw_near))] t) A) args s 0 0 A) (F0 m 103 ls []) := by
        intro k_32 v4_32 wq_shades_32 H locs ls hI hP hD hS hl
        rw [hK_32] at hI
        refine lv_iconst (v := 0) hx hb d_Pal_paintFrom_103 (by decide) ?_
        exact W.zret (v := 0) (ty := .boolean) hx hb hr (nr01 (Or.inl rfl)) (fun t ht hW => ⟨⟨0, (wq_shades_32), rfl, ⟨(Option.some.inj hI).symm, (Or.inl rfl)⟩, by rw [ht]; exact hP, va_K.moved hW.alike hK, hD⟩, hS.F ht⟩) hS.2.2 d_Pal_paintFrom_104
      have L_32 : ∀ (n_32 k_32 : Nat) (v4_32 : Int32) (wq_shades_32 : Nat → Int32) (H : Heap) (locs : List Loc) (ls : Array Slot), some R = F_paintFromR_L32 K_32 zq_there zq_allowed zw_near v2 v3 (F_paintFromR 2) n_32 v4_32 wq_shades_32 → va_P (dC, dI) classes [(aq, .inr (3, [.int zq_there, .int zq_allowed, .ref aq_shades])), (aq_shades, .inl (kq_shades, 10, .inl wq_shades_32)), (aw, .inr (1, [.ref aw_near])), (aw_near, .inl (kw_near, 11, .inl zw_near))] H → va_D A [(aq, .inr (3, [.int zq_there, .int zq_allowed, .ref aq_shades])), (aq_shades, .inl (kq_shades, 10, .inl wq_shades_32)), (aw, .inr (1, [.ref aw_near])), (aw_near, .inl (kw_near, 11, .inl zw_near))] → va_S A s.heap H locs → lv_has ls 5 [(0, .ref aq), (1, .ref aw), (2, .int v2), (3, .int v3), (4, .int v4_32)] → W p l e (headSpec w_Pal_paintFrom ({ frames := 4, cells := 0, slots := 0, locals := 93 })).room s m args below meth c H locs 0 0 (MQ below (va_Qi (fun (r : Int32) (u : (Nat → Int32)) => ((r, u) = R) ∧ z01 r) (fun u t => End_ dC dI A [(kq_shades, .int), (kw_near, .int)] [(aq, .inr (3, [.int zq_there, .int zq_allowed, .ref aq_shades])), (aq_shades, .inl (kq_shades, 10, .inl u)), (aw, .inr (1, [.ref aw_near])), (aw_near, .inl (kw_near, 11, .inl zw_near))] t) A) args s 0 0 A) (F0 m 32 ls []) := by
        intro n_32
        induction n_32 with
        | zero =>
          intro k_32 v4_32 wq_shades_32 H locs ls hI hP hD hS hl
          rw [F_paintFromR_L32] at hI
          exact absurd hI (ob_no _)
        | succ n_32 ih_32 =>
          intro k_32 v4_32 wq_shades_32 H locs ls hI hP hD hS hl
          rw [F_paintFromR_L32] at hI
          refine lv_iload hx hb d_Pal_paintFrom_32 (lv_at hl 4 rfl) ?_
          refine lv_iload_n hx hb d_Pal_paintFrom_34 rfl (lv_at hl 3 rfl) ?_
          refine lv_icmp_gt (tgt := 103) hx hb d_Pal_paintFrom_35 rfl (fun hc_35 => ?_) (fun hc_35 => ?_)
          · skip
            have hI := hI.trans (if_pos hc_35)
            have hl := lv_sub hl [0, 1, 2, 3, 4] rfl
            exact X_32 0 _ _ _ _ _ hI hP hD hS hl
          · skip
            have hI := hI.trans (if_neg hc_35)
            refine lv_iload hx hb d_Pal_paintFrom_38 (lv_at hl 4 rfl) ?_
            refine lv_aload_n hx hb d_Pal_paintFrom_40 rfl (lv_at hl 0 rfl) ?_
            refine va_get (D := (dC, dI)) (ci := 3) (v := .int zq_allowed) (C := R_Pal) (T := F_Pal) (N := 3) hx hb hts (fun w h => List.mem_cons_of_mem _ (in_Pal w h)) hown hK hP 0 rfl rfl 1 (by decide) (hts _ (List.mem_cons_of_mem _ mw_1_74)) (fun _ h9 => h9) rfl d_Pal_paintFrom_41 ?_
            refine lv_icmp_ge (tgt := 103) hx hb d_Pal_paintFrom_44 rfl (fun hc_44 => ?_) (fun hc_44 => ?_)
            · skip
              have hI := hI.trans (if_pos hc_44)
              have hl := lv_sub hl [0, 1, 2, 3, 4] rfl
              exact X_32 0 _ _ _ _ _ hI hP hD hS hl
            · skip
              have hI := hI.trans (if_neg hc_44)
              refine lv_aload_n hx hb d_Pal_paintFrom_47 rfl (lv_at hl 0 rfl) ?_
              refine lv_aload_n hx hb d_Pal_paintFrom_48 rfl (lv_at hl 1 rfl) ?_
              refine lv_iload hx hb d_Pal_paintFrom_49 (lv_at hl 4 rfl) ?_
              refine lv_iload_n hx hb d_Pal_paintFrom_51 rfl (lv_at hl 2 rfl) ?_
              obtain ⟨p_52, hg_52, hI⟩ := ob_bd hI
              have hPc := hP.sub (ws' := [(aq, .inr (3, [.int zq_there, .int zq_allowed, .ref aq_shades])), (aq_shades, .inl (kq_shades, 10, .inl wq_shades_32)), (aw, .inr (1, [.ref aw_near])), (aw_near, .inl (kw_near, 11, .inl zw_near))]) [0, 1, 2, 3] rfl
              have hDc := hD.sub (ws' := [(aq, .inr (3, [.int zq_there, .int zq_allowed, .ref aq_shades])), (aq_shades, .inl (kq_shades, 10, .inl wq_shades_32)), (aw, .inr (1, [.ref aw_near])), (aw_near, .inl (kw_near, 11, .inl zw_near))]) [0, 1, 2, 3] (by decide) rfl
              have hKc := hK.sub (tys' := [(kq_shades, .int), (kw_near, .int)]) [0, 1] rfl
              have hFc := va_free (wc := [(aq, .inr (3, [.int zq_there, .int zq_allowed, .ref aq_shades])), (aq_shades, .inl (kq_shades, 10, .inl wq_shades_32)), (aw, .inr (1, [.ref aw_near])), (aw_near, .inl (kw_near, 11, .inl zw_near))]) hD hS hA [0, 1, 2, 3] rfl
              refine va_calli (va_runV (As := [.ref aw, .int v4_32, .int v2]) (rest := []) ⟨hx, hb, hml, hown, hts⟩ (c_isFreeG l dC dI H.size aq aw aq_shades aw_near kq_shades kw_near zq_there zq_allowed wq_shades_32 zw_near v4_32 v2 p_52 hg_52) (cwV 3 hts (gi4 mw_2_39 mw_2_41 mw_p_19 mw_1_4 mw_2_42) rfl rfl rfl (by decide +kernel) ⟨Nat.le_of_ble_eq_true rfl, Nat.le_of_ble_eq_true rfl⟩) ⟨fb_, va_recv (q0 := 0) (ci := 3) hK hP rfl rfl, pre_ hPc hKc hDc hN⟩ rfl rfl hl.1 rfl (lv_room (Nat.le_of_ble_eq_true rfl)) d_Pal_paintFrom_52 ⟨Nat.le_of_ble_eq_true rfl, Nat.le_of_ble_eq_true rfl⟩) hS (fun q _ h => hFc q h) hFc (fun r_52 u t H locs ht hvm hp_52 hB hz1 hk1 hS => ?_)
              obtain ⟨hP1, -, hD1⟩ := hB
              rw [ht] at hP1
              obtain ⟨hP, hD⟩ := va_join (wr := []) (w1 := [(aq, .inr (3, [.int zq_there, .int zq_allowed, .ref aq_shades])), (aq_shades, .inl (kq_shades, 10, .inl wq_shades_32)), (aw, .inr (1, [.ref aw_near])), (aw_near, .inl (kw_near, 11, .inl zw_near))]) hP hD [0, 1, 2, 3] [] rfl rfl (by decide) (by decide) hk1 hFc hP1 hD1
              obtain ⟨hp_52, hz_52⟩ := hp_52
              have hp_52 : (r_52) = p_52 := hp_52
              subst hp_52
              have hP : va_P (dC, dI) classes [(aq, .inr (3, [.int zq_there, .int zq_allowed, .ref aq_shades])), (aq_shades, .inl (kq_shades, 10, .inl wq_shades_32)), (aw, .inr (1, [.ref aw_near])), (aw_near, .inl (kw_near, 11, .inl zw_near))] H := hP
              have hD : va_D A [(aq, .inr (3, [.int zq_there, .int zq_allowed, .ref aq_shades])), (aq_shades, .inl (kq_shades, 10, .inl wq_shades_32)), (aw, .inr (1, [.ref aw_near])), (aw_near, .inl (kw_near, 11, .inl zw_near))] := hD
              refine lv_if_eq (tgt := 97) hx hb d_Pal_paintFrom_55 rfl (fun hc_55 => ?_) (fun hc_55 => ?_)
              · skip
                have hI := hI.trans (if_pos hc_55)
                refine lv_iinc (lv' := [(4, .int (v4_32 + 1)), (0, .ref aq), (1, .ref aw), (2, .int v2), (3, .int v3)]) (k := 4) hx hb d_Pal_paintFrom_97 hl rfl (z_inc1 _) (by decide) rfl (fun ls hl => ?_)
                refine lv_goto (tgt := 32) hx hb d_Pal_paintFrom_100 rfl ?_
                have hl := lv_sub hl [1, 2, 3, 4, 0] rfl
                exact ih_32 0 _ _ _ _ _ hI hP hD hS hl
              · skip
                have hI := hI.trans (if_neg hc_55)
                refine lv_aload_n hx hb d_Pal_paintFrom_58 rfl (lv_at hl 0 rfl) ?_
                refine va_get (D := (dC, dI)) (ci := 3) (v := .ref aq_shades) (C := R_Pal) (T := F_Pal) (N := 3) hx hb hts (fun w h => List.mem_cons_of_mem _ (in_Pal w h)) hown hK hP 0 rfl rfl 2 (by decide) (hts _ (List.mem_cons_of_mem _ mw_1_75)) (fun _ h9 => h9) rfl d_Pal_paintFrom_59 ?_
                refine lv_iload_n hx hb d_Pal_paintFrom_62 rfl (lv_at hl 2 rfl) ?_
                refine lv_iload hx hb d_Pal_paintFrom_63 (lv_at hl 4 rfl) ?_
                have hi_65 := ob_in hI
                have hI := ob_th hI
                refine va_iast (D := (dC, dI)) hx hb hK hP hD hS 1 0 rfl rfl hi_65 d_Pal_paintFrom_65 (fun H locs hP hD hS => ?_)
                have hP : va_P (dC, dI) classes [(aq, .inr (3, [.int zq_there, .int zq_allowed, .ref aq_shades])), (aq_shades, .inl (kq_shades, 10, .inl (upd wq_shades_32 (Int32.toNatClampNeg v2) v4_32))), (aw, .inr (1, [.ref aw_near])), (aw_near, .inl (kw_near, 11, .inl zw_near))] H := hP
                have hD : va_D A [(aq, .inr (3, [.int zq_there, .int zq_allowed, .ref aq_shades])), (aq_shades, .inl (kq_shades, 10, .inl (upd wq_shades_32 (Int32.toNatClampNeg v2) v4_32))), (aw, .inr (1, [.ref aw_near])), (aw_near, .inl (kw_near, 11, .inl zw_near))] := hD
                refine lv_aload_n hx hb d_Pal_paintFrom_66 rfl (lv_at hl 0 rfl) ?_
                refine lv_aload_n hx hb d_Pal_paintFrom_67 rfl (lv_at hl 1 rfl) ?_
                refine lv_iload_n hx hb d_Pal_paintFrom_68 rfl (lv_at hl 2 rfl) ?_
                refine lv_iconst (v := 1) hx hb d_Pal_paintFrom_69 (by decide) ?_
                refine lv_iadd hx hb d_Pal_paintFrom_70 ?_
                refine lv_iload_n hx hb d_Pal_paintFrom_71 rfl (lv_at hl 3 rfl) ?_
                refine lv_iload hx hb d_Pal_paintFrom_72 (lv_at hl 4 rfl) ?_
                refine lv_iconst (v := 1) hx hb d_Pal_paintFrom_74 (by decide) ?_
                refine lv_iadd hx hb d_Pal_paintFrom_75 ?_
                refine va_mmax hx hb (hml.trans hl.1.symm) hown (hts _ (List.mem_cons_of_mem _ mw_2_44)) (hts _ (List.mem_cons_of_mem _ mw_2_45)) (hts _ (List.mem_cons_of_mem _ mw_1_15)) (hts _ (List.mem_cons_of_mem _ mw_2_46)) (Nat.le_of_ble_eq_true rfl) (Nat.le_of_ble_eq_true rfl) (Nat.le_of_ble_eq_true rfl) (Nat.le_of_ble_eq_true rfl) d_Pal_paintFrom_76 ?_
                obtain ⟨p_79, hg_79, hI⟩ := ob_bd hI
                have hPc := hP.sub (ws' := [(aq, .inr (3, [.int zq_there, .int zq_allowed, .ref aq_shades])), (aq_shades, .inl (kq_shades, 10, .inl (upd wq_shades_32 (Int32.toNatClampNeg v2) v4_32))), (aw, .inr (1, [.ref aw_near])), (aw_near, .inl (kw_near, 11, .inl zw_near))]) [0, 1, 2, 3] rfl
                have hDc := hD.sub (ws' := [(aq, .inr (3, [.int zq_there, .int zq_allowed, .ref aq_shades])), (aq_shades, .inl (kq_shades, 10, .inl (upd wq_shades_32 (Int32.toNatClampNeg v2) v4_32))), (aw, .inr (1, [.ref aw_near])), (aw_near, .inl (kw_near, 11, .inl zw_near))]) [0, 1, 2, 3] (by decide) rfl
                have hKc := hK.sub (tys' := [(kq_shades, .int), (kw_near, .int)]) [0, 1] rfl
                have hFc := va_free (wc := [(aq, .inr (3, [.int zq_there, .int zq_allowed, .ref aq_shades])), (aq_shades, .inl (kq_shades, 10, .inl (upd wq_shades_32 (Int32.toNatClampNeg v2) v4_32))), (aw, .inr (1, [.ref aw_near])), (aw_near, .inl (kw_near, 11, .inl zw_near))]) hD hS hA [0, 1, 2, 3] rfl
                refine va_calli (va_runV (As := [.ref aw, .int (v2 + 1), .int (if v3 < (v4_32 + 1) then (v4_32 + 1) else v3)]) (rest := []) ⟨hx, hb, hml, hown, hts⟩ (c_paintFrom_2 l dC dI H.size aq aw aq_shades aw_near kq_shades kw_near zq_there zq_allowed (upd wq_shades_32 (Int32.toNatClampNeg v2) v4_32) zw_near (v2 + 1) (if v3 < (v4_32 + 1) then (v4_32 + 1) else v3) p_79 hg_79) (cwV 3 hts (gi4 mw_2_34 mw_2_36 mw_p_18 mw_1_4 mw_2_37) rfl rfl rfl (by decide +kernel) ⟨Nat.le_of_ble_eq_true rfl, Nat.le_of_ble_eq_true rfl⟩) ⟨fb_, va_recv (q0 := 0) (ci := 3) hK hP rfl rfl, pre_ hPc hKc hDc hN⟩ rfl rfl hl.1 rfl (lv_room (Nat.le_of_ble_eq_true rfl)) d_Pal_paintFrom_79 ⟨Nat.le_of_ble_eq_true rfl, Nat.le_of_ble_eq_true rfl⟩) hS (fun q _ h => hFc q h) hFc (fun r_79 wq_shades_79 t H locs ht hvm hp_79 hB hz1 hk1 hS => ?_)
                obtain ⟨hP1, -, hD1⟩ := hB
                rw [ht] at hP1
                obtain ⟨hP, hD⟩ := va_join (wr := []) (w1 := [(aq, .inr (3, [.int zq_there, .int zq_allowed, .ref aq_shades])), (aq_shades, .inl (kq_shades, 10, .inl wq_shades_79)), (aw, .inr (1, [.ref aw_near])), (aw_near, .inl (kw_near, 11, .inl zw_near))]) hP hD [0, 1, 2, 3] [] rfl rfl (by decide) (by decide) hk1 hFc hP1 hD1
                obtain ⟨hp_79, hz_79⟩ := hp_79
                have hp_79 : (r_79, wq_shades_79) = p_79 := hp_79
                subst hp_79
                have hP : va_P (dC, dI) classes [(aq, .inr (3, [.int zq_there, .int zq_allowed, .ref aq_shades])), (aq_shades, .inl (kq_shades, 10, .inl wq_shades_79)), (aw, .inr (1, [.ref aw_near])), (aw_near, .inl (kw_near, 11, .inl zw_near))] H := hP
                have hD : va_D A [(aq, .inr (3, [.int zq_there, .int zq_allowed, .ref aq_shades])), (aq_shades, .inl (kq_shades, 10, .inl wq_shades_79)), (aw, .inr (1, [.ref aw_near])), (aw_near, .inl (kw_near, 11, .inl zw_near))] := hD
                refine lv_if_eq (tgt := 87) hx hb d_Pal_paintFrom_82 rfl (fun hc_82 => ?_) (fun hc_82 => ?_)
                · skip
                  have hI := hI.trans (if_pos hc_82)
                  refine lv_aload_n hx hb d_Pal_paintFrom_87 rfl (lv_at hl 1 rfl) ?_
                  refine lv_iload_n hx hb d_Pal_paintFrom_88 rfl (lv_at hl 2 rfl) ?_
                  obtain ⟨p_89, hg_89, hI⟩ := ob_bd hI
                  have hPc := hP.sub (ws' := [(aw, .inr (1, [.ref aw_near])), (aw_near, .inl (kw_near, 11, .inl zw_near))]) [2, 3] rfl
                  have hDc := hD.sub (ws' := [(aw, .inr (1, [.ref aw_near])), (aw_near, .inl (kw_near, 11, .inl zw_near))]) [2, 3] (by decide) rfl
                  have hKc := hK.sub (tys' := [(kw_near, .int)]) [1] rfl
                  have hFc := va_free (wc := [(aw, .inr (1, [.ref aw_near])), (aw_near, .inl (kw_near, 11, .inl zw_near))]) hD hS hA [2, 3] rfl
                  refine va_calli (va_runS (As := [.ref aw, .int v2]) (rest := []) ⟨hx, hb, hml, hown, hts⟩ (c_hasLaterG l dC dI H.size aw aw_near kw_near zw_near v2 p_89 hg_89) (cwS 2 hts (gi3 mw_2_47 mw_2_48 mw_1_4 mw_2_49) rfl rfl rfl (by decide +kernel) ⟨Nat.le_of_ble_eq_true rfl, Nat.le_of_ble_eq_true rfl⟩) ⟨fb_, pre_ hPc hKc hDc hN⟩ rfl rfl hl.1 rfl (lv_room (Nat.le_of_ble_eq_true rfl)) d_Pal_paintFrom_89 ⟨Nat.le_of_ble_eq_true rfl, Nat.le_of_ble_eq_true rfl⟩) hS (fun q _ h => hFc q h) hFc (fun r_89 u t H locs ht hvm hp_89 hB hz1 hk1 hS => ?_)
                  obtain ⟨hP1, -, hD1⟩ := hB
                  rw [ht] at hP1
                  obtain ⟨hP, hD⟩ := va_join (wr := [(aq, .inr (3, [.int zq_there, .int zq_allowed, .ref aq_shades])), (aq_shades, .inl (kq_shades, 10, .inl wq_shades_79))]) (w1 := [(aw, .inr (1, [.ref aw_near])), (aw_near, .inl (kw_near, 11, .inl zw_near))]) hP hD [2, 3] [0, 1] rfl rfl (by decide) (by decide) hk1 hFc hP1 hD1
                  obtain ⟨hp_89, hz_89⟩ := hp_89
                  have hp_89 : (r_89) = p_89 := hp_89
                  subst hp_89
                  have hP : va_P (dC, dI) classes [(aq, .inr (3, [.int zq_there, .int zq_allowed, .ref aq_shades])), (aq_shades, .inl (kq_shades, 10, .inl wq_shades_79)), (aw, .inr (1, [.ref aw_near])), (aw_near, .inl (kw_near, 11, .inl zw_near))] H := hP
                  have hD : va_D A [(aq, .inr (3, [.int zq_there, .int zq_allowed, .ref aq_shades])), (aq_shades, .inl (kq_shades, 10, .inl wq_shades_79)), (aw, .inr (1, [.ref aw_near])), (aw_near, .inl (kw_near, 11, .inl zw_near))] := hD
                  refine lv_if_ne (tgt := 97) hx hb d_Pal_paintFrom_92 rfl (fun hc_92 => ?_) (fun hc_92 => ?_)
                  · skip
                    have hI := hI.trans (if_neg hc_92)
                    refine lv_iinc (lv' := [(4, .int (v4_32 + 1)), (0, .ref aq), (1, .ref aw), (2, .int v2), (3, .int v3)]) (k := 4) hx hb d_Pal_paintFrom_97 hl rfl (z_inc1 _) (by decide) rfl (fun ls hl => ?_)
                    refine lv_goto (tgt := 32) hx hb d_Pal_paintFrom_100 rfl ?_
                    have hl := lv_sub hl [1, 2, 3, 4, 0] rfl
                    exact ih_32 0 _ _ _ _ _ hI hP hD hS hl
                  · skip
                    have hI := hI.trans (if_pos hc_92)
                    refine lv_iconst (v := 0) hx hb d_Pal_paintFrom_95 (by decide) ?_
                    exact W.zret (v := 0) (ty := .boolean) hx hb hr (nr01 (Or.inl rfl)) (fun t ht hW => ⟨⟨0, (wq_shades_79), rfl, ⟨(Option.some.inj hI).symm, (Or.inl rfl)⟩, by rw [ht]; exact hP, va_K.moved hW.alike hK, hD⟩, hS.F ht⟩) hS.2.2 d_Pal_paintFrom_96
                · skip
                  have hI := hI.trans (if_neg hc_82)
                  refine lv_iconst (v := 1) hx hb d_Pal_paintFrom_85 (by decide) ?_
                  exact W.zret (v := 1) (ty := .boolean) hx hb hr (nr01 (Or.inr rfl)) (fun t ht hW => ⟨⟨1, (wq_shades_79), rfl, ⟨(Option.some.inj hI).symm, (Or.inr rfl)⟩, by rw [ht]; exact hP, va_K.moved hW.alike hK, hD⟩, hS.F ht⟩) hS.2.2 d_Pal_paintFrom_86
      have hl : lv_has ls 5 [(0, .ref aq), (1, .ref aw), (2, .int v2), (3, .int v3), (4, .int 0)] := by first | exact lv_sub hl [1, 2, 3, 4, 0] rfl | (rw [nI_succ]; exact lv_sub hl [1, 2, 3, 4, 0] rfl)
      exact L_32 64 0 _ _ _ _ _ (by rw [hK_32]; exact hI) hP hD hS hl
    · skip
      have hI := hI.trans (if_pos hc_16)
      refine lv_aload_n hx hb d_Pal_paintFrom_19 rfl (lv_at hl 0 rfl) ?_
      refine lv_aload_n hx hb d_Pal_paintFrom_20 rfl (lv_at hl 1 rfl) ?_
      refine lv_iload_n hx hb d_Pal_paintFrom_21 rfl (lv_at hl 2 rfl) ?_
      refine lv_iconst (v := 1) hx hb d_Pal_paintFrom_22 (by decide) ?_
      refine lv_iadd hx hb d_Pal_paintFrom_23 ?_
      refine lv_iload_n hx hb d_Pal_paintFrom_24 rfl (lv_at hl 3 rfl) ?_
      obtain ⟨p_25, hg_25, hI⟩ := ob_bd hI
      have hPc := hP.sub (ws' := [(aq, .inr (3, [.int zq_there, .int zq_allowed, .ref aq_shades])), (aq_shades, .inl (kq_shades, 10, .inl zq_shades)), (aw, .inr (1, [.ref aw_near])), (aw_near, .inl (kw_near, 11, .inl zw_near))]) [0, 1, 2, 3] rfl
      have hDc := hD.sub (ws' := [(aq, .inr (3, [.int zq_there, .int zq_allowed, .ref aq_shades])), (aq_shades, .inl (kq_shades, 10, .inl zq_shades)), (aw, .inr (1, [.ref aw_near])), (aw_near, .inl (kw_near, 11, .inl zw_near))]) [0, 1, 2, 3] (by decide) rfl
      have hKc := hK.sub (tys' := [(kq_shades, .int), (kw_near, .int)]) [0, 1] rfl
      have hFc := va_free (wc := [(aq, .inr (3, [.int zq_there, .int zq_allowed, .ref aq_shades])), (aq_shades, .inl (kq_shades, 10, .inl zq_shades)), (aw, .inr (1, [.ref aw_near])), (aw_near, .inl (kw_near, 11, .inl zw_near))]) hD hS hA [0, 1, 2, 3] rfl
      refine va_calli (va_runV (As := [.ref aw, .int (v2 + 1), .int v3]) (rest := []) ⟨hx, hb, hml, hown, hts⟩ (c_paintFrom_2 l dC dI H.size aq aw aq_shades aw_near kq_shades kw_near zq_there zq_allowed zq_shades zw_near (v2 + 1) v3 p_25 hg_25) (cwV 3 hts (gi4 mw_2_34 mw_2_36 mw_p_18 mw_1_4 mw_2_37) rfl rfl rfl (by decide +kernel) ⟨Nat.le_of_ble_eq_true rfl, Nat.le_of_ble_eq_true rfl⟩) ⟨fb_, va_recv (q0 := 0) (ci := 3) hK hP rfl rfl, pre_ hPc hKc hDc hN⟩ rfl rfl hl.1 rfl (lv_room (Nat.le_of_ble_eq_true rfl)) d_Pal_paintFrom_25 ⟨Nat.le_of_ble_eq_true rfl, Nat.le_of_ble_eq_true rfl⟩) hS (fun q _ h => hFc q h) hFc (fun r_25 wq_shades_25 t H locs ht hvm hp_25 hB hz1 hk1 hS => ?_)
      obtain ⟨hP1, -, hD1⟩ := hB
      rw [ht] at hP1
      obtain ⟨hP, hD⟩ := va_join (wr := []) (w1 := [(aq, .inr (3, [.int zq_there, .int zq_allowed, .ref aq_shades])), (aq_shades, .inl (kq_shades, 10, .inl wq_shades_25)), (aw, .inr (1, [.ref aw_near])), (aw_near, .inl (kw_near, 11, .inl zw_near))]) hP hD [0, 1, 2, 3] [] rfl rfl (by decide) (by decide) hk1 hFc hP1 hD1
      obtain ⟨hp_25, hz_25⟩ := hp_25
      have hp_25 : (r_25, wq_shades_25) = p_25 := hp_25
      subst hp_25
      have hP : va_P (dC, dI) classes [(aq, .inr (3, [.int zq_there, .int zq_allowed, .ref aq_shades])), (aq_shades, .inl (kq_shades, 10, .inl wq_shades_25)), (aw, .inr (1, [.ref aw_near])), (aw_near, .inl (kw_near, 11, .inl zw_near))] H := hP
      have hD : va_D A [(aq, .inr (3, [.int zq_there, .int zq_allowed, .ref aq_shades])), (aq_shades, .inl (kq_shades, 10, .inl wq_shades_25)), (aw, .inr (1, [.ref aw_near])), (aw_near, .inl (kw_near, 11, .inl zw_near))] := hD
      exact W.zret (v := r_25) (ty := .boolean) hx hb hr (nr01 hz_25) (fun t ht hW => ⟨⟨r_25, (wq_shades_25), rfl, ⟨(Option.some.inj hI).symm, hz_25⟩, by rw [ht]; exact hP, va_K.moved hW.alike hK, hD⟩, hS.F ht⟩) hS.2.2 d_Pal_paintFrom_28
  · skip
    have hI := hI.trans (if_neg hc_3)
    refine lv_iconst (v := 1) hx hb d_Pal_paintFrom_6 (by decide) ?_
    exact W.zret (v := 1) (ty := .boolean) hx hb hr (nr01 (Or.inr rfl)) (fun t ht hW => ⟨⟨1, (zq_shades), rfl, ⟨(Option.some.inj hI).symm, (Or.inr rfl)⟩, by rw [ht]; exact hP, va_K.moved hW.alike hK, hD⟩, hS.F ht⟩) hS.2.2 d_Pal_paintFrom_7
set_option maxHeartbeats 4000000 in
set_option maxRecDepth 100000 in
theorem c_paintFrom_4 (l : Launch) (dC : Nat → ClassId) (dI : Nat → Nat → Nat) (sz : Nat) (aq aw aq_shades aw_near : Nat) (kq_shades kw_near : ClassId) (zq_there : Int32) (zq_allowed : Int32) (zq_shades : Nat → Int32) (zw_near : Nat → Int32) (v2 v3 : Int32) (R : Int32 × (Nat → Int32)) (hR : F_paintFromR 4 zq_there zq_allowed zq_shades zw_near v2 v3 = some R) : Met l y_Pal_paintFrom w_Pal_paintFrom ({ frames := 5, cells := 0, slots := 0, locals := 117 }) (Pre_ dC dI sz [.ref aq, .ref aw, .int v2, .int v3] [(aq, .inr (3, [.int zq_there, .int zq_allowed, .ref aq_shades])), (aq_shades, .inl (kq_shades, 10, .inl zq_shades)), (aw, .inr (1, [.ref aw_near])), (aw_near, .inl (kw_near, 11, .inl zw_near))] [(kq_shades, .int), (kw_near, .int)]) (va_Qi (fun (r : Int32) (u : (Nat → Int32)) => ((r, u) = R) ∧ z01 r) (fun u t => End_ dC dI (va_A [(aq, .inr (3, [.int zq_there, .int zq_allowed, .ref aq_shades])), (aq_shades, .inl (kq_shades, 10, .inl zq_shades)), (aw, .inr (1, [.ref aw_near])), (aw_near, .inl (kw_near, 11, .inl zw_near))] sz) [(kq_shades, .int), (kw_near, .int)] [(aq, .inr (3, [.int zq_there, .int zq_allowed, .ref aq_shades])), (aq_shades, .inl (kq_shades, 10, .inl u)), (aw, .inr (1, [.ref aw_near])), (aw_near, .inl (kw_near, 11, .inl zw_near))] t) (va_A [(aq, .inr (3, [.int zq_there, .int zq_allowed, .ref aq_shades])), (aq_shades, .inl (kq_shades, 10, .inl zq_shades)), (aw, .inr (1, [.ref aw_near])), (aw_near, .inl (kw_near, 11, .inl zw_near))] sz)) 0 0 (va_A [(aq, .inr (3, [.int zq_there, .int zq_allowed, .ref aq_shades])), (aq_shades, .inl (kq_shades, 10, .inl zq_shades)), (aw, .inr (1, [.ref aw_near])), (aw_near, .inl (kw_near, 11, .inl zw_near))] sz) := by
  refine Met.ofW (cc := b_Pal_paintFrom) (maxL := 5) (ret := (some .boolean)) (by decide) rfl ?_
  intro p e s m args below meth c s₁ B hml hv
  obtain ⟨hargs, hsz, hP, hK, hD0, hN⟩ := hv
  have hx := B.exec
  have hb := B.bytes
  have hr := B.returns
  have hts := atoms_spec (ws := w_Pal_paintFrom) B.pre
  have hown : s.vm.findClass R_Pal = some m.cls := findClass_of_methodNamed B.named
  have hlocks := B.notSynchronized
  subst hsz
  have hD := hD0.self (sz := s.heap.size)
  generalize hAe : va_A [(aq, .inr (3, [.int zq_there, .int zq_allowed, .ref aq_shades])), (aq_shades, .inl (kq_shades, 10, .inl zq_shades)), (aw, .inr (1, [.ref aw_near])), (aw_near, .inl (kw_near, 11, .inl zw_near))] s.heap.size = A at hD ⊢
  have hA : ∀ q : Nat, s.heap.size ≤ q → A q := fun q h => by rw [← hAe]; exact Or.inr h
  have hS : va_S A s.heap s.heap [] := va_S.rf
  have hl := lv_entry ([.ref aq, .ref aw, .int v2, .int v3]) (n := 5) (Nat.le_of_ble_eq_true rfl)
  refine W.eq (congrArg (fun a => entryFrame m a 5) hargs) ?_
  rw [lg_entry_eq]
  generalize (lg_sl ([.ref aq, .ref aw, .int v2, .int v3]) ++ List.replicate (5 - (lg_sl ([.ref aq, .ref aw, .int v2, .int v3])).length) Slot.unset).toArray = ls at hl ⊢
  have hl : lv_has ls 5 [(0, .ref aq), (1, .ref aw), (2, .int v2), (3, .int v3)] := hl
  generalize hH0 : ([] : List Loc) = locs at hS ⊢
  have hI := hR.symm
  rw [F_paintFromR] at hI
  refine lv_iload_n hx hb d_Pal_paintFrom_0 rfl (lv_at hl 2 rfl) ?_
  refine lv_bipush (v := 10) hx hb d_Pal_paintFrom_1 (by decide) ?_
  refine lv_icmp_lt (tgt := 8) hx hb d_Pal_paintFrom_3 rfl (fun hc_3 => ?_) (fun hc_3 => ?_)
  · skip
    have hI := hI.trans (if_pos hc_3)
    refine lv_aload_n hx hb d_Pal_paintFrom_8 rfl (lv_at hl 0 rfl) ?_
    refine va_get (D := (dC, dI)) (ci := 3) (v := .int zq_there) (C := R_Pal) (T := F_Pal) (N := 3) hx hb hts (fun w h => List.mem_cons_of_mem _ (in_Pal w h)) hown hK hP 0 rfl rfl 0 (by decide) (hts _ (List.mem_cons_of_mem _ mw_1_73)) (fun _ h9 => h9) rfl d_Pal_paintFrom_9 ?_
    refine lv_iload_n hx hb d_Pal_paintFrom_12 rfl (lv_at hl 2 rfl) ?_
    have hPc := hP.sub (ws' := []) [] rfl
    have hDc := hD.sub (ws' := []) [] (by decide) rfl
    have hKc := hK.sub (tys' := []) [] rfl
    have hFc := va_free (wc := []) hD hS hA [] rfl
    refine va_calli (va_runSN (As := [.int zq_there, .int v2]) (rest := []) ⟨hx, hb, hml, hown, hts⟩ (c_has l dC dI s.heap.size zq_there v2) (⟨va_cnB 2 hts (gi0 mw_1_150) rfl rfl rfl (hN (R_Pal, 26, y_PS_has, R_PS) (by decide +kernel)) (hts _ (List.mem_cons_of_mem _ mw_1_1)) (by decide +kernel) ⟨Nat.le_of_ble_eq_true rfl, Nat.le_of_ble_eq_true rfl⟩, hts _ (List.mem_cons_of_mem _ mw_1_149), trivial⟩) ⟨fb_, pre_ hPc hKc hDc hN⟩ rfl rfl hl.1 rfl (lv_room (Nat.le_of_ble_eq_true rfl)) d_Pal_paintFrom_13 ⟨Nat.le_of_ble_eq_true rfl, Nat.le_of_ble_eq_true rfl⟩) hS (fun q _ h => hFc q h) hFc (fun r_13 u t H locs ht hvm hp_13 hB hz1 hk1 hS => ?_)
    obtain ⟨hP1, -, hD1⟩ := hB
    rw [ht] at hP1
    obtain ⟨hP, hD⟩ := va_join (wr := [(aq, .inr (3, [.int zq_there, .int zq_allowed, .ref aq_shades])), (aq_shades, .inl (kq_shades, 10, .inl zq_shades)), (aw, .inr (1, [.ref aw_near])), (aw_near, .inl (kw_near, 11, .inl zw_near))]) (w1 := []) hP hD [] [0, 1, 2, 3] rfl rfl (by decide) (by decide) hk1 hFc hP1 hD1
    have hp_13 : r_13 = f_has zq_there v2 := hp_13
    subst hp_13
    have hP : va_P (dC, dI) classes [(aq, .inr (3, [.int zq_there, .int zq_allowed, .ref aq_shades])), (aq_shades, .inl (kq_shades, 10, .inl zq_shades)), (aw, .inr (1, [.ref aw_near])), (aw_near, .inl (kw_near, 11, .inl zw_near))] H := hP
    have hD : va_D A [(aq, .inr (3, [.int zq_there, .int zq_allowed, .ref aq_shades])), (aq_shades, .inl (kq_shades, 10, .inl zq_shades)), (aw, .inr (1, [.ref aw_near])), (aw_near, .inl (kw_near, 11, .inl zw_near))] := hD
    refine lv_if_ne (tgt := 29) hx hb d_Pal_paintFrom_16 rfl (fun hc_16 => ?_) (fun hc_16 => ?_)
    · skip
      have hI := hI.trans (if_neg hc_16)
      refine lv_iconst (v := 0) hx hb d_Pal_paintFrom_29 (by decide) ?_
      refine lv_istore (lv' := [(4, .int 0), (0, .ref aq), (1, .ref aw), (2, .int v2), (3, .int v3)]) hx hb d_Pal_paintFrom_30 hl (by decide) rfl (fun ls hl => ?_)
      obtain ⟨K_32, hK_32⟩ : ∃ K : Int32 → (Nat → Int32) → Option (Int32 × (Nat → Int32)), K = (fun v4_32 wq_shades_32 => some ((0 : Int32), wq_shades_32)) := ⟨_, rfl⟩
      have X_32 : ∀ (k_32 : Nat) (v4_32 : Int32) (wq_shades_32 : Nat → Int32) (H : Heap) (locs : List Loc) (ls : Array Slot), some R = K_32 v4_32 wq_shades_32 → va_P (dC, dI) classes [(aq, .inr (3, [.int zq_there, .int zq_allowed, .ref aq_shades])), (aq_shades, .inl (kq_shades, 10, .inl wq_shades_32)), (aw, .inr (1, [.ref aw_near])), (aw_near, .inl (kw_near, 11, .inl zw_near))] H → va_D A [(aq, .inr (3, [.int zq_there, .int zq_allowed, .ref aq_shades])), (aq_shades, .inl (kq_shades, 10, .inl wq_shades_32)), (aw, .inr (1, [.ref aw_near])), (aw_near, .inl (kw_near, 11, .inl zw_near))] → va_S A s.heap H locs → lv_has ls 5 [(0, .ref aq), (1, .ref aw), (2, .int v2), (3, .int v3), (4, .int v4_32)] → W p l e (headSpec w_Pal_paintFrom ({ frames := 5, cells := 0, slots := 0, locals := 117 })).room s m args below meth c H locs 0 0 (MQ below (va_Qi (fun (r : Int32) (u : (Nat → Int32)) => ((r, u) = R) ∧ z01 r) (fun u t => End_ dC dI A [(kq_shades, .int), (kw_near, .int)] [(aq, .inr (3, [.int zq_there, .int zq_allowed, .ref aq_shades])), (aq_shades, .inl (kq_shades, 10, .inl u)), (aw, .inr (1, [.ref aw_near])), (aw_near, .inl (kw_near, 11, .inl zw_near))] t) A) args s 0 0 A) (F0 m 103 ls []) := by
        intro k_32 v4_32 wq_shades_32 H locs ls hI hP hD hS hl
        rw [hK_32] at hI
        refine lv_iconst (v := 0) hx hb d_Pal_paintFrom_103 (by decide) ?_
        exact W.zret (v := 0) (ty := .boolean) hx hb hr (nr01 (Or.inl rfl)) (fun t ht hW => ⟨⟨0, (wq_shades_32), rfl, ⟨(Option.some.inj hI).symm, (Or.inl rfl)⟩, by rw [ht]; exact hP, va_K.moved hW.alike hK, hD⟩, hS.F ht⟩) hS.2.2 d_Pal_paintFrom_104
      have L_32 : ∀ (n_32 k_32 : Nat) (v4_32 : Int32) (wq_shades_32 : Nat → Int32) (H : Heap) (locs : List Loc) (ls : Array Slot), some R = F_paintFromR_L32 K_32 zq_there zq_allowed zw_near v2 v3 (F_paintFromR 3) n_32 v4_32 wq_shades_32 → va_P (dC, dI) classes [(aq, .inr (3, [.int zq_there, .int zq_allowed, .ref aq_shades])), (aq_shades, .inl (kq_shades, 10, .inl wq_shades_32)), (aw, .inr (1, [.ref aw_near])), (aw_near, .inl (kw_near, 11, .inl zw_near))] H → va_D A [(aq, .inr (3, [.int zq_there, .int zq_allowed, .ref aq_shades])), (aq_shades, .inl (kq_shades, 10, .inl wq_shades_32)), (aw, .inr (1, [.ref aw_near])), (aw_near, .inl (kw_near, 11, .inl zw_near))] → va_S A s.heap H locs → lv_has ls 5 [(0, .ref aq), (1, .ref aw), (2, .int v2), (3, .int v3), (4, .int v4_32)] → W p l e (headSpec w_Pal_paintFrom ({ frames := 5, cells := 0, slots := 0, locals := 117 })).room s m args below meth c H locs 0 0 (MQ below (va_Qi (fun (r : Int32) (u : (Nat → Int32)) => ((r, u) = R) ∧ z01 r) (fun u t => End_ dC dI A [(kq_shades, .int), (kw_near, .int)] [(aq, .inr (3, [.int zq_there, .int zq_allowed, .ref aq_shades])), (aq_shades, .inl (kq_shades, 10, .inl u)), (aw, .inr (1, [.ref aw_near])), (aw_near, .inl (kw_near, 11, .inl zw_near))] t) A) args s 0 0 A) (F0 m 32 ls []) := by
        intro n_32
        induction n_32 with
        | zero =>
          intro k_32 v4_32 wq_shades_32 H locs ls hI hP hD hS hl
          rw [F_paintFromR_L32] at hI
          exact absurd hI (ob_no _)
        | succ n_32 ih_32 =>
          intro k_32 v4_32 wq_shades_32 H locs ls hI hP hD hS hl
          rw [F_paintFromR_L32] at hI
          refine lv_iload hx hb d_Pal_paintFrom_32 (lv_at hl 4 rfl) ?_
          refine lv_iload_n hx hb d_Pal_paintFrom_34 rfl (lv_at hl 3 rfl) ?_
          refine lv_icmp_gt (tgt := 103) hx hb d_Pal_paintFrom_35 rfl (fun hc_35 => ?_) (fun hc_35 => ?_)
          · skip
            have hI := hI.trans (if_pos hc_35)
            have hl := lv_sub hl [0, 1, 2, 3, 4] rfl
            exact X_32 0 _ _ _ _ _ hI hP hD hS hl
          · skip
            have hI := hI.trans (if_neg hc_35)
            refine lv_iload hx hb d_Pal_paintFrom_38 (lv_at hl 4 rfl) ?_
            refine lv_aload_n hx hb d_Pal_paintFrom_40 rfl (lv_at hl 0 rfl) ?_
            refine va_get (D := (dC, dI)) (ci := 3) (v := .int zq_allowed) (C := R_Pal) (T := F_Pal) (N := 3) hx hb hts (fun w h => List.mem_cons_of_mem _ (in_Pal w h)) hown hK hP 0 rfl rfl 1 (by decide) (hts _ (List.mem_cons_of_mem _ mw_1_74)) (fun _ h9 => h9) rfl d_Pal_paintFrom_41 ?_
            refine lv_icmp_ge (tgt := 103) hx hb d_Pal_paintFrom_44 rfl (fun hc_44 => ?_) (fun hc_44 => ?_)
            · skip
              have hI := hI.trans (if_pos hc_44)
              have hl := lv_sub hl [0, 1, 2, 3, 4] rfl
              exact X_32 0 _ _ _ _ _ hI hP hD hS hl
            · skip
              have hI := hI.trans (if_neg hc_44)
              refine lv_aload_n hx hb d_Pal_paintFrom_47 rfl (lv_at hl 0 rfl) ?_
              refine lv_aload_n hx hb d_Pal_paintFrom_48 rfl (lv_at hl 1 rfl) ?_
              refine lv_iload hx hb d_Pal_paintFrom_49 (lv_at hl 4 rfl) ?_
              refine lv_iload_n hx hb d_Pal_paintFrom_51 rfl (lv_at hl 2 rfl) ?_
              obtain ⟨p_52, hg_52, hI⟩ := ob_bd hI
              have hPc := hP.sub (ws' := [(aq, .inr (3, [.int zq_there, .int zq_allowed, .ref aq_shades])), (aq_shades, .inl (kq_shades, 10, .inl wq_shades_32)), (aw, .inr (1, [.ref aw_near])), (aw_near, .inl (kw_near, 11, .inl zw_near))]) [0, 1, 2, 3] rfl
              have hDc := hD.sub (ws' := [(aq, .inr (3, [.int zq_there, .int zq_allowed, .ref aq_shades])), (aq_shades, .inl (kq_shades, 10, .inl wq_shades_32)), (aw, .inr (1, [.ref aw_near])), (aw_near, .inl (kw_near, 11, .inl zw_near))]) [0, 1, 2, 3] (by decide) rfl
              have hKc := hK.sub (tys' := [(kq_shades, .int), (kw_near, .int)]) [0, 1] rfl
              have hFc := va_free (wc := [(aq, .inr (3, [.int zq_there, .int zq_allowed, .ref aq_shades])), (aq_shades, .inl (kq_shades, 10, .inl wq_shades_32)), (aw, .inr (1, [.ref aw_near])), (aw_near, .inl (kw_near, 11, .inl zw_near))]) hD hS hA [0, 1, 2, 3] rfl
              refine va_calli (va_runV (As := [.ref aw, .int v4_32, .int v2]) (rest := []) ⟨hx, hb, hml, hown, hts⟩ (c_isFreeG l dC dI H.size aq aw aq_shades aw_near kq_shades kw_near zq_there zq_allowed wq_shades_32 zw_near v4_32 v2 p_52 hg_52) (cwV 3 hts (gi4 mw_2_39 mw_2_41 mw_p_19 mw_1_4 mw_2_42) rfl rfl rfl (by decide +kernel) ⟨Nat.le_of_ble_eq_true rfl, Nat.le_of_ble_eq_true rfl⟩) ⟨fb_, va_recv (q0 := 0) (ci := 3) hK hP rfl rfl, pre_ hPc hKc hDc hN⟩ rfl rfl hl.1 rfl (lv_room (Nat.le_of_ble_eq_true rfl)) d_Pal_paintFrom_52 ⟨Nat.le_of_ble_eq_true rfl, Nat.le_of_ble_eq_true rfl⟩) hS (fun q _ h => hFc q h) hFc (fun r_52 u t H locs ht hvm hp_52 hB hz1 hk1 hS => ?_)
              obtain ⟨hP1, -, hD1⟩ := hB
              rw [ht] at hP1
              obtain ⟨hP, hD⟩ := va_join (wr := []) (w1 := [(aq, .inr (3, [.int zq_there, .int zq_allowed, .ref aq_shades])), (aq_shades, .inl (kq_shades, 10, .inl wq_shades_32)), (aw, .inr (1, [.ref aw_near])), (aw_near, .inl (kw_near, 11, .inl zw_near))]) hP hD [0, 1, 2, 3] [] rfl rfl (by decide) (by decide) hk1 hFc hP1 hD1
              obtain ⟨hp_52, hz_52⟩ := hp_52
              have hp_52 : (r_52) = p_52 := hp_52
              subst hp_52
              have hP : va_P (dC, dI) classes [(aq, .inr (3, [.int zq_there, .int zq_allowed, .ref aq_shades])), (aq_shades, .inl (kq_shades, 10, .inl wq_shades_32)), (aw, .inr (1, [.ref aw_near])), (aw_near, .inl (kw_near, 11, .inl zw_near))] H := hP
              have hD : va_D A [(aq, .inr (3, [.int zq_there, .int zq_allowed, .ref aq_shades])), (aq_shades, .inl (kq_shades, 10, .inl wq_shades_32)), (aw, .inr (1, [.ref aw_near])), (aw_near, .inl (kw_near, 11, .inl zw_near))] := hD
              refine lv_if_eq (tgt := 97) hx hb d_Pal_paintFrom_55 rfl (fun hc_55 => ?_) (fun hc_55 => ?_)
              · skip
                have hI := hI.trans (if_pos hc_55)
                refine lv_iinc (lv' := [(4, .int (v4_32 + 1)), (0, .ref aq), (1, .ref aw), (2, .int v2), (3, .int v3)]) (k := 4) hx hb d_Pal_paintFrom_97 hl rfl (z_inc1 _) (by decide) rfl (fun ls hl => ?_)
                refine lv_goto (tgt := 32) hx hb d_Pal_paintFrom_100 rfl ?_
                have hl := lv_sub hl [1, 2, 3, 4, 0] rfl
                exact ih_32 0 _ _ _ _ _ hI hP hD hS hl
              · skip
                have hI := hI.trans (if_neg hc_55)
                refine lv_aload_n hx hb d_Pal_paintFrom_58 rfl (lv_at hl 0 rfl) ?_
                refine va_get (D := (dC, dI)) (ci := 3) (v := .ref aq_shades) (C := R_Pal) (T := F_Pal) (N := 3) hx hb hts (fun w h => List.mem_cons_of_mem _ (in_Pal w h)) hown hK hP 0 rfl rfl 2 (by decide) (hts _ (List.mem_cons_of_mem _ mw_1_75)) (fun _ h9 => h9) rfl d_Pal_paintFrom_59 ?_
                refine lv_iload_n hx hb d_Pal_paintFrom_62 rfl (lv_at hl 2 rfl) ?_
                refine lv_iload hx hb d_Pal_paintFrom_63 (lv_at hl 4 rfl) ?_
                have hi_65 := ob_in hI
                have hI := ob_th hI
                refine va_iast (D := (dC, dI)) hx hb hK hP hD hS 1 0 rfl rfl hi_65 d_Pal_paintFrom_65 (fun H locs hP hD hS => ?_)
                have hP : va_P (dC, dI) classes [(aq, .inr (3, [.int zq_there, .int zq_allowed, .ref aq_shades])), (aq_shades, .inl (kq_shades, 10, .inl (upd wq_shades_32 (Int32.toNatClampNeg v2) v4_32))), (aw, .inr (1, [.ref aw_near])), (aw_near, .inl (kw_near, 11, .inl zw_near))] H := hP
                have hD : va_D A [(aq, .inr (3, [.int zq_there, .int zq_allowed, .ref aq_shades])), (aq_shades, .inl (kq_shades, 10, .inl (upd wq_shades_32 (Int32.toNatClampNeg v2) v4_32))), (aw, .inr (1, [.ref aw_near])), (aw_near, .inl (kw_near, 11, .inl zw_near))] := hD
                refine lv_aload_n hx hb d_Pal_paintFrom_66 rfl (lv_at hl 0 rfl) ?_
                refine lv_aload_n hx hb d_Pal_paintFrom_67 rfl (lv_at hl 1 rfl) ?_
                refine lv_iload_n hx hb d_Pal_paintFrom_68 rfl (lv_at hl 2 rfl) ?_
                refine lv_iconst (v := 1) hx hb d_Pal_paintFrom_69 (by decide) ?_
                refine lv_iadd hx hb d_Pal_paintFrom_70 ?_
                refine lv_iload_n hx hb d_Pal_paintFrom_71 rfl (lv_at hl 3 rfl) ?_
                refine lv_iload hx hb d_Pal_paintFrom_72 (lv_at hl 4 rfl) ?_
                refine lv_iconst (v := 1) hx hb d_Pal_paintFrom_74 (by decide) ?_
                refine lv_iadd hx hb d_Pal_paintFrom_75 ?_
                refine va_mmax hx hb (hml.trans hl.1.symm) hown (hts _ (List.mem_cons_of_mem _ mw_2_44)) (hts _ (List.mem_cons_of_mem _ mw_2_45)) (hts _ (List.mem_cons_of_mem _ mw_1_15)) (hts _ (List.mem_cons_of_mem _ mw_2_46)) (Nat.le_of_ble_eq_true rfl) (Nat.le_of_ble_eq_true rfl) (Nat.le_of_ble_eq_true rfl) (Nat.le_of_ble_eq_true rfl) d_Pal_paintFrom_76 ?_
                obtain ⟨p_79, hg_79, hI⟩ := ob_bd hI
                have hPc := hP.sub (ws' := [(aq, .inr (3, [.int zq_there, .int zq_allowed, .ref aq_shades])), (aq_shades, .inl (kq_shades, 10, .inl (upd wq_shades_32 (Int32.toNatClampNeg v2) v4_32))), (aw, .inr (1, [.ref aw_near])), (aw_near, .inl (kw_near, 11, .inl zw_near))]) [0, 1, 2, 3] rfl
                have hDc := hD.sub (ws' := [(aq, .inr (3, [.int zq_there, .int zq_allowed, .ref aq_shades])), (aq_shades, .inl (kq_shades, 10, .inl (upd wq_shades_32 (Int32.toNatClampNeg v2) v4_32))), (aw, .inr (1, [.ref aw_near])), (aw_near, .inl (kw_near, 11, .inl zw_near))]) [0, 1, 2, 3] (by decide) rfl
                have hKc := hK.sub (tys' := [(kq_shades, .int), (kw_near, .int)]) [0, 1] rfl
                have hFc := va_free (wc := [(aq, .inr (3, [.int zq_there, .int zq_allowed, .ref aq_shades])), (aq_shades, .inl (kq_shades, 10, .inl (upd wq_shades_32 (Int32.toNatClampNeg v2) v4_32))), (aw, .inr (1, [.ref aw_near])), (aw_near, .inl (kw_near, 11, .inl zw_near))]) hD hS hA [0, 1, 2, 3] rfl
                refine va_calli (va_runV (As := [.ref aw, .int (v2 + 1), .int (if v3 < (v4_32 + 1) then (v4_32 + 1) else v3)]) (rest := []) ⟨hx, hb, hml, hown, hts⟩ (c_paintFrom_3 l dC dI H.size aq aw aq_shades aw_near kq_shades kw_near zq_there zq_allowed (upd wq_shades_32 (Int32.toNatClampNeg v2) v4_32) zw_near (v2 + 1) (if v3 < (v4_32 + 1) then (v4_32 + 1) else v3) p_79 hg_79) (cwV 3 hts (gi4 mw_2_34 mw_2_36 mw_p_18 mw_1_4 mw_2_37) rfl rfl rfl (by decide +kernel) ⟨Nat.le_of_ble_eq_true rfl, Nat.le_of_ble_eq_true rfl⟩) ⟨fb_, va_recv (q0 := 0) (ci := 3) hK hP rfl rfl, pre_ hPc hKc hDc hN⟩ rfl rfl hl.1 rfl (lv_room (Nat.le_of_ble_eq_true rfl)) d_Pal_paintFrom_79 ⟨Nat.le_of_ble_eq_true rfl, Nat.le_of_ble_eq_true rfl⟩) hS (fun q _ h => hFc q h) hFc (fun r_79 wq_shades_79 t H locs ht hvm hp_79 hB hz1 hk1 hS => ?_)
                obtain ⟨hP1, -, hD1⟩ := hB
                rw [ht] at hP1
                obtain ⟨hP, hD⟩ := va_join (wr := []) (w1 := [(aq, .inr (3, [.int zq_there, .int zq_allowed, .ref aq_shades])), (aq_shades, .inl (kq_shades, 10, .inl wq_shades_79)), (aw, .inr (1, [.ref aw_near])), (aw_near, .inl (kw_near, 11, .inl zw_near))]) hP hD [0, 1, 2, 3] [] rfl rfl (by decide) (by decide) hk1 hFc hP1 hD1
                obtain ⟨hp_79, hz_79⟩ := hp_79
                have hp_79 : (r_79, wq_shades_79) = p_79 := hp_79
                subst hp_79
                have hP : va_P (dC, dI) classes [(aq, .inr (3, [.int zq_there, .int zq_allowed, .ref aq_shades])), (aq_shades, .inl (kq_shades, 10, .inl wq_shades_79)), (aw, .inr (1, [.ref aw_near])), (aw_near, .inl (kw_near, 11, .inl zw_near))] H := hP
                have hD : va_D A [(aq, .inr (3, [.int zq_there, .int zq_allowed, .ref aq_shades])), (aq_shades, .inl (kq_shades, 10, .inl wq_shades_79)), (aw, .inr (1, [.ref aw_near])), (aw_near, .inl (kw_near, 11, .inl zw_near))] := hD
                refine lv_if_eq (tgt := 87) hx hb d_Pal_paintFrom_82 rfl (fun hc_82 => ?_) (fun hc_82 => ?_)
                · skip
                  have hI := hI.trans (if_pos hc_82)
                  refine lv_aload_n hx hb d_Pal_paintFrom_87 rfl (lv_at hl 1 rfl) ?_
                  refine lv_iload_n hx hb d_Pal_paintFrom_88 rfl (lv_at hl 2 rfl) ?_
                  obtain ⟨p_89, hg_89, hI⟩ := ob_bd hI
                  have hPc := hP.sub (ws' := [(aw, .inr (1, [.ref aw_near])), (aw_near, .inl (kw_near, 11, .inl zw_near))]) [2, 3] rfl
                  have hDc := hD.sub (ws' := [(aw, .inr (1, [.ref aw_near])), (aw_near, .inl (kw_near, 11, .inl zw_near))]) [2, 3] (by decide) rfl
                  have hKc := hK.sub (tys' := [(kw_near, .int)]) [1] rfl
                  have hFc := va_free (wc := [(aw, .inr (1, [.ref aw_near])), (aw_near, .inl (kw_near, 11, .inl zw_near))]) hD hS hA [2, 3] rfl
                  refine va_calli (va_runS (As := [.ref aw, .int v2]) (rest := []) ⟨hx, hb, hml, hown, hts⟩ (c_hasLaterG l dC dI H.size aw aw_near kw_near zw_near v2 p_89 hg_89) (cwS 2 hts (gi3 mw_2_47 mw_2_48 mw_1_4 mw_2_49) rfl rfl rfl (by decide +kernel) ⟨Nat.le_of_ble_eq_true rfl, Nat.le_of_ble_eq_true rfl⟩) ⟨fb_, pre_ hPc hKc hDc hN⟩ rfl rfl hl.1 rfl (lv_room (Nat.le_of_ble_eq_true rfl)) d_Pal_paintFrom_89 ⟨Nat.le_of_ble_eq_true rfl, Nat.le_of_ble_eq_true rfl⟩) hS (fun q _ h => hFc q h) hFc (fun r_89 u t H locs ht hvm hp_89 hB hz1 hk1 hS => ?_)
                  obtain ⟨hP1, -, hD1⟩ := hB
                  rw [ht] at hP1
                  obtain ⟨hP, hD⟩ := va_join (wr := [(aq, .inr (3, [.int zq_there, .int zq_allowed, .ref aq_shades])), (aq_shades, .inl (kq_shades, 10, .inl wq_shades_79))]) (w1 := [(aw, .inr (1, [.ref aw_near])), (aw_near, .inl (kw_near, 11, .inl zw_near))]) hP hD [2, 3] [0, 1] rfl rfl (by decide) (by decide) hk1 hFc hP1 hD1
                  obtain ⟨hp_89, hz_89⟩ := hp_89
                  have hp_89 : (r_89) = p_89 := hp_89
                  subst hp_89
                  have hP : va_P (dC, dI) classes [(aq, .inr (3, [.int zq_there, .int zq_allowed, .ref aq_shades])), (aq_shades, .inl (kq_shades, 10, .inl wq_shades_79)), (aw, .inr (1, [.ref aw_near])), (aw_near, .inl (kw_near, 11, .inl zw_near))] H := hP
                  have hD : va_D A [(aq, .inr (3, [.int zq_there, .int zq_allowed, .ref aq_shades])), (aq_shades, .inl (kq_shades, 10, .inl wq_shades_79)), (aw, .inr (1, [.ref aw_near])), (aw_near, .inl (kw_near, 11, .inl zw_near))] := hD
                  refine lv_if_ne (tgt := 97) hx hb d_Pal_paintFrom_92 rfl (fun hc_92 => ?_) (fun hc_92 => ?_)
                  · skip
                    have hI := hI.trans (if_neg hc_92)
                    refine lv_iinc (lv' := [(4, .int (v4_32 + 1)), (0, .ref aq), (1, .ref aw), (2, .int v2), (3, .int v3)]) (k := 4) hx hb d_Pal_paintFrom_97 hl rfl (z_inc1 _) (by decide) rfl (fun ls hl => ?_)
                    refine lv_goto (tgt := 32) hx hb d_Pal_paintFrom_100 rfl ?_
                    have hl := lv_sub hl [1, 2, 3, 4, 0] rfl
                    exact ih_32 0 _ _ _ _ _ hI hP hD hS hl
                  · skip
                    have hI := hI.trans (if_pos hc_92)
                    refine lv_iconst (v := 0) hx hb d_Pal_paintFrom_95 (by decide) ?_
                    exact W.zret (v := 0) (ty := .boolean) hx hb hr (nr01 (Or.inl rfl)) (fun t ht hW => ⟨⟨0, (wq_shades_79), rfl, ⟨(Option.some.inj hI).symm, (Or.inl rfl)⟩, by rw [ht]; exact hP, va_K.moved hW.alike hK, hD⟩, hS.F ht⟩) hS.2.2 d_Pal_paintFrom_96
                · skip
                  have hI := hI.trans (if_neg hc_82)
                  refine lv_iconst (v := 1) hx hb d_Pal_paintFrom_85 (by decide) ?_
                  exact W.zret (v := 1) (ty := .boolean) hx hb hr (nr01 (Or.inr rfl)) (fun t ht hW => ⟨⟨1, (wq_shades_79), rfl, ⟨(Option.some.inj hI).symm, (Or.inr rfl)⟩, by rw [ht]; exact hP, va_K.moved hW.alike hK, hD⟩, hS.F ht⟩) hS.2.2 d_Pal_paintFrom_86
      have hl : lv_has ls 5 [(0, .ref aq), (1, .ref aw), (2, .int v2), (3, .int v3), (4, .int 0)] := by first | exact lv_sub hl [1, 2, 3, 4, 0] rfl | (rw [nI_succ]; exact lv_sub hl [1, 2, 3, 4, 0] rfl)
      exact L_32 64 0 _ _ _ _ _ (by rw [hK_32]; exact hI) hP hD hS hl
    · skip
      have hI := hI.trans (if_pos hc_16)
      refine lv_aload_n hx hb d_Pal_paintFrom_19 rfl (lv_at hl 0 rfl) ?_
      refine lv_aload_n hx hb d_Pal_paintFrom_20 rfl (lv_at hl 1 rfl) ?_
      refine lv_iload_n hx hb d_Pal_paintFrom_21 rfl (lv_at hl 2 rfl) ?_
      refine lv_iconst (v := 1) hx hb d_Pal_paintFrom_22 (by decide) ?_
      refine lv_iadd hx hb d_Pal_paintFrom_23 ?_
      refine lv_iload_n hx hb d_Pal_paintFrom_24 rfl (lv_at hl 3 rfl) ?_
      obtain ⟨p_25, hg_25, hI⟩ := ob_bd hI
      have hPc := hP.sub (ws' := [(aq, .inr (3, [.int zq_there, .int zq_allowed, .ref aq_shades])), (aq_shades, .inl (kq_shades, 10, .inl zq_shades)), (aw, .inr (1, [.ref aw_near])), (aw_near, .inl (kw_near, 11, .inl zw_near))]) [0, 1, 2, 3] rfl
      have hDc := hD.sub (ws' := [(aq, .inr (3, [.int zq_there, .int zq_allowed, .ref aq_shades])), (aq_shades, .inl (kq_shades, 10, .inl zq_shades)), (aw, .inr (1, [.ref aw_near])), (aw_near, .inl (kw_near, 11, .inl zw_near))]) [0, 1, 2, 3] (by decide) rfl
      have hKc := hK.sub (tys' := [(kq_shades, .int), (kw_near, .int)]) [0, 1] rfl
      have hFc := va_free (wc := [(aq, .inr (3, [.int zq_there, .int zq_allowed, .ref aq_shades])), (aq_shades, .inl (kq_shades, 10, .inl zq_shades)), (aw, .inr (1, [.ref aw_near])), (aw_near, .inl (kw_near, 11, .inl zw_near))]) hD hS hA [0, 1, 2, 3] rfl
      refine va_calli (va_runV (As := [.ref aw, .int (v2 + 1), .int v3]) (rest := []) ⟨hx, hb, hml, hown, hts⟩ (c_paintFrom_3 l dC dI H.size aq aw aq_shades aw_near kq_shades kw_near zq_there zq_allowed zq_shades zw_near (v2 + 1) v3 p_25 hg_25) (cwV 3 hts (gi4 mw_2_34 mw_2_36 mw_p_18 mw_1_4 mw_2_37) rfl rfl rfl (by decide +kernel) ⟨Nat.le_of_ble_eq_true rfl, Nat.le_of_ble_eq_true rfl⟩) ⟨fb_, va_recv (q0 := 0) (ci := 3) hK hP rfl rfl, pre_ hPc hKc hDc hN⟩ rfl rfl hl.1 rfl (lv_room (Nat.le_of_ble_eq_true rfl)) d_Pal_paintFrom_25 ⟨Nat.le_of_ble_eq_true rfl, Nat.le_of_ble_eq_true rfl⟩) hS (fun q _ h => hFc q h) hFc (fun r_25 wq_shades_25 t H locs ht hvm hp_25 hB hz1 hk1 hS => ?_)
      obtain ⟨hP1, -, hD1⟩ := hB
      rw [ht] at hP1
      obtain ⟨hP, hD⟩ := va_join (wr := []) (w1 := [(aq, .inr (3, [.int zq_there, .int zq_allowed, .ref aq_shades])), (aq_shades, .inl (kq_shades, 10, .inl wq_shades_25)), (aw, .inr (1, [.ref aw_near])), (aw_near, .inl (kw_near, 11, .inl zw_near))]) hP hD [0, 1, 2, 3] [] rfl rfl (by decide) (by decide) hk1 hFc hP1 hD1
      obtain ⟨hp_25, hz_25⟩ := hp_25
      have hp_25 : (r_25, wq_shades_25) = p_25 := hp_25
      subst hp_25
      have hP : va_P (dC, dI) classes [(aq, .inr (3, [.int zq_there, .int zq_allowed, .ref aq_shades])), (aq_shades, .inl (kq_shades, 10, .inl wq_shades_25)), (aw, .inr (1, [.ref aw_near])), (aw_near, .inl (kw_near, 11, .inl zw_near))] H := hP
      have hD : va_D A [(aq, .inr (3, [.int zq_there, .int zq_allowed, .ref aq_shades])), (aq_shades, .inl (kq_shades, 10, .inl wq_shades_25)), (aw, .inr (1, [.ref aw_near])), (aw_near, .inl (kw_near, 11, .inl zw_near))] := hD
      exact W.zret (v := r_25) (ty := .boolean) hx hb hr (nr01 hz_25) (fun t ht hW => ⟨⟨r_25, (wq_shades_25), rfl, ⟨(Option.some.inj hI).symm, hz_25⟩, by rw [ht]; exact hP, va_K.moved hW.alike hK, hD⟩, hS.F ht⟩) hS.2.2 d_Pal_paintFrom_28
  · skip
    have hI := hI.trans (if_neg hc_3)
    refine lv_iconst (v := 1) hx hb d_Pal_paintFrom_6 (by decide) ?_
    exact W.zret (v := 1) (ty := .boolean) hx hb hr (nr01 (Or.inr rfl)) (fun t ht hW => ⟨⟨1, (zq_shades), rfl, ⟨(Option.some.inj hI).symm, (Or.inr rfl)⟩, by rw [ht]; exact hP, va_K.moved hW.alike hK, hD⟩, hS.F ht⟩) hS.2.2 d_Pal_paintFrom_7
set_option maxHeartbeats 4000000 in
set_option maxRecDepth 100000 in
theorem c_paintFrom_5 (l : Launch) (dC : Nat → ClassId) (dI : Nat → Nat → Nat) (sz : Nat) (aq aw aq_shades aw_near : Nat) (kq_shades kw_near : ClassId) (zq_there : Int32) (zq_allowed : Int32) (zq_shades : Nat → Int32) (zw_near : Nat → Int32) (v2 v3 : Int32) (R : Int32 × (Nat → Int32)) (hR : F_paintFromR 5 zq_there zq_allowed zq_shades zw_near v2 v3 = some R) : Met l y_Pal_paintFrom w_Pal_paintFrom ({ frames := 6, cells := 0, slots := 0, locals := 141 }) (Pre_ dC dI sz [.ref aq, .ref aw, .int v2, .int v3] [(aq, .inr (3, [.int zq_there, .int zq_allowed, .ref aq_shades])), (aq_shades, .inl (kq_shades, 10, .inl zq_shades)), (aw, .inr (1, [.ref aw_near])), (aw_near, .inl (kw_near, 11, .inl zw_near))] [(kq_shades, .int), (kw_near, .int)]) (va_Qi (fun (r : Int32) (u : (Nat → Int32)) => ((r, u) = R) ∧ z01 r) (fun u t => End_ dC dI (va_A [(aq, .inr (3, [.int zq_there, .int zq_allowed, .ref aq_shades])), (aq_shades, .inl (kq_shades, 10, .inl zq_shades)), (aw, .inr (1, [.ref aw_near])), (aw_near, .inl (kw_near, 11, .inl zw_near))] sz) [(kq_shades, .int), (kw_near, .int)] [(aq, .inr (3, [.int zq_there, .int zq_allowed, .ref aq_shades])), (aq_shades, .inl (kq_shades, 10, .inl u)), (aw, .inr (1, [.ref aw_near])), (aw_near, .inl (kw_near, 11, .inl zw_near))] t) (va_A [(aq, .inr (3, [.int zq_there, .int zq_allowed, .ref aq_shades])), (aq_shades, .inl (kq_shades, 10, .inl zq_shades)), (aw, .inr (1, [.ref aw_near])), (aw_near, .inl (kw_near, 11, .inl zw_near))] sz)) 0 0 (va_A [(aq, .inr (3, [.int zq_there, .int zq_allowed, .ref aq_shades])), (aq_shades, .inl (kq_shades, 10, .inl zq_shades)), (aw, .inr (1, [.ref aw_near])), (aw_near, .inl (kw_near, 11, .inl zw_near))] sz) := by
  refine Met.ofW (cc := b_Pal_paintFrom) (maxL := 5) (ret := (some .boolean)) (by decide) rfl ?_
  intro p e s m args below meth c s₁ B hml hv
  obtain ⟨hargs, hsz, hP, hK, hD0, hN⟩ := hv
  have hx := B.exec
  have hb := B.bytes
  have hr := B.returns
  have hts := atoms_spec (ws := w_Pal_paintFrom) B.pre
  have hown : s.vm.findClass R_Pal = some m.cls := findClass_of_methodNamed B.named
  have hlocks := B.notSynchronized
  subst hsz
  have hD := hD0.self (sz := s.heap.size)
  generalize hAe : va_A [(aq, .inr (3, [.int zq_there, .int zq_allowed, .ref aq_shades])), (aq_shades, .inl (kq_shades, 10, .inl zq_shades)), (aw, .inr (1, [.ref aw_near])), (aw_near, .inl (kw_near, 11, .inl zw_near))] s.heap.size = A at hD ⊢
  have hA : ∀ q : Nat, s.heap.size ≤ q → A q := fun q h => by rw [← hAe]; exact Or.inr h
  have hS : va_S A s.heap s.heap [] := va_S.rf
  have hl := lv_entry ([.ref aq, .ref aw, .int v2, .int v3]) (n := 5) (Nat.le_of_ble_eq_true rfl)
  refine W.eq (congrArg (fun a => entryFrame m a 5) hargs) ?_
  rw [lg_entry_eq]
  generalize (lg_sl ([.ref aq, .ref aw, .int v2, .int v3]) ++ List.replicate (5 - (lg_sl ([.ref aq, .ref aw, .int v2, .int v3])).length) Slot.unset).toArray = ls at hl ⊢
  have hl : lv_has ls 5 [(0, .ref aq), (1, .ref aw), (2, .int v2), (3, .int v3)] := hl
  generalize hH0 : ([] : List Loc) = locs at hS ⊢
  have hI := hR.symm
  rw [F_paintFromR] at hI
  refine lv_iload_n hx hb d_Pal_paintFrom_0 rfl (lv_at hl 2 rfl) ?_
  refine lv_bipush (v := 10) hx hb d_Pal_paintFrom_1 (by decide) ?_
  refine lv_icmp_lt (tgt := 8) hx hb d_Pal_paintFrom_3 rfl (fun hc_3 => ?_) (fun hc_3 => ?_)
  · skip
    have hI := hI.trans (if_pos hc_3)
    refine lv_aload_n hx hb d_Pal_paintFrom_8 rfl (lv_at hl 0 rfl) ?_
    refine va_get (D := (dC, dI)) (ci := 3) (v := .int zq_there) (C := R_Pal) (T := F_Pal) (N := 3) hx hb hts (fun w h => List.mem_cons_of_mem _ (in_Pal w h)) hown hK hP 0 rfl rfl 0 (by decide) (hts _ (List.mem_cons_of_mem _ mw_1_73)) (fun _ h9 => h9) rfl d_Pal_paintFrom_9 ?_
    refine lv_iload_n hx hb d_Pal_paintFrom_12 rfl (lv_at hl 2 rfl) ?_
    have hPc := hP.sub (ws' := []) [] rfl
    have hDc := hD.sub (ws' := []) [] (by decide) rfl
    have hKc := hK.sub (tys' := []) [] rfl
    have hFc := va_free (wc := []) hD hS hA [] rfl
    refine va_calli (va_runSN (As := [.int zq_there, .int v2]) (rest := []) ⟨hx, hb, hml, hown, hts⟩ (c_has l dC dI s.heap.size zq_there v2) (⟨va_cnB 2 hts (gi0 mw_1_150) rfl rfl rfl (hN (R_Pal, 26, y_PS_has, R_PS) (by decide +kernel)) (hts _ (List.mem_cons_of_mem _ mw_1_1)) (by decide +kernel) ⟨Nat.le_of_ble_eq_true rfl, Nat.le_of_ble_eq_true rfl⟩, hts _ (List.mem_cons_of_mem _ mw_1_149), trivial⟩) ⟨fb_, pre_ hPc hKc hDc hN⟩ rfl rfl hl.1 rfl (lv_room (Nat.le_of_ble_eq_true rfl)) d_Pal_paintFrom_13 ⟨Nat.le_of_ble_eq_true rfl, Nat.le_of_ble_eq_true rfl⟩) hS (fun q _ h => hFc q h) hFc (fun r_13 u t H locs ht hvm hp_13 hB hz1 hk1 hS => ?_)
    obtain ⟨hP1, -, hD1⟩ := hB
    rw [ht] at hP1
    obtain ⟨hP, hD⟩ := va_join (wr := [(aq, .inr (3, [.int zq_there, .int zq_allowed, .ref aq_shades])), (aq_shades, .inl (kq_shades, 10, .inl zq_shades)), (aw, .inr (1, [.ref aw_near])), (aw_near, .inl (kw_near, 11, .inl zw_near))]) (w1 := []) hP hD [] [0, 1, 2, 3] rfl rfl (by decide) (by decide) hk1 hFc hP1 hD1
    have hp_13 : r_13 = f_has zq_there v2 := hp_13
    subst hp_13
    have hP : va_P (dC, dI) classes [(aq, .inr (3, [.int zq_there, .int zq_allowed, .ref aq_shades])), (aq_shades, .inl (kq_shades, 10, .inl zq_shades)), (aw, .inr (1, [.ref aw_near])), (aw_near, .inl (kw_near, 11, .inl zw_near))] H := hP
    have hD : va_D A [(aq, .inr (3, [.int zq_there, .int zq_allowed, .ref aq_shades])), (aq_shades, .inl (kq_shades, 10, .inl zq_shades)), (aw, .inr (1, [.ref aw_near])), (aw_near, .inl (kw_near, 11, .inl zw_near))] := hD
    refine lv_if_ne (tgt := 29) hx hb d_Pal_paintFrom_16 rfl (fun hc_16 => ?_) (fun hc_16 => ?_)
    · skip
      have hI := hI.trans (if_neg hc_16)
      refine lv_iconst (v := 0) hx hb d_Pal_paintFrom_29 (by decide) ?_
      refine lv_istore (lv' := [(4, .int 0), (0, .ref aq), (1, .ref aw), (2, .int v2), (3, .int v3)]) hx hb d_Pal_paintFrom_30 hl (by decide) rfl (fun ls hl => ?_)
      obtain ⟨K_32, hK_32⟩ : ∃ K : Int32 → (Nat → Int32) → Option (Int32 × (Nat → Int32)), K = (fun v4_32 wq_shades_32 => some ((0 : Int32), wq_shades_32)) := ⟨_, rfl⟩
      have X_32 : ∀ (k_32 : Nat) (v4_32 : Int32) (wq_shades_32 : Nat → Int32) (H : Heap) (locs : List Loc) (ls : Array Slot), some R = K_32 v4_32 wq_shades_32 → va_P (dC, dI) classes [(aq, .inr (3, [.int zq_there, .int zq_allowed, .ref aq_shades])), (aq_shades, .inl (kq_shades, 10, .inl wq_shades_32)), (aw, .inr (1, [.ref aw_near])), (aw_near, .inl (kw_near, 11, .inl zw_near))] H → va_D A [(aq, .inr (3, [.int zq_there, .int zq_allowed, .ref aq_shades])), (aq_shades, .inl (kq_shades, 10, .inl wq_shades_32)), (aw, .inr (1, [.ref aw_near])), (aw_near, .inl (kw_near, 11, .inl zw_near))] → va_S A s.heap H locs → lv_has ls 5 [(0, .ref aq), (1, .ref aw), (2, .int v2), (3, .int v3), (4, .int v4_32)] → W p l e (headSpec w_Pal_paintFrom ({ frames := 6, cells := 0, slots := 0, locals := 141 })).room s m args below meth c H locs 0 0 (MQ below (va_Qi (fun (r : Int32) (u : (Nat → Int32)) => ((r, u) = R) ∧ z01 r) (fun u t => End_ dC dI A [(kq_shades, .int), (kw_near, .int)] [(aq, .inr (3, [.int zq_there, .int zq_allowed, .ref aq_shades])), (aq_shades, .inl (kq_shades, 10, .inl u)), (aw, .inr (1, [.ref aw_near])), (aw_near, .inl (kw_near, 11, .inl zw_near))] t) A) args s 0 0 A) (F0 m 103 ls []) := by
        intro k_32 v4_32 wq_shades_32 H locs ls hI hP hD hS hl
        rw [hK_32] at hI
        refine lv_iconst (v := 0) hx hb d_Pal_paintFrom_103 (by decide) ?_
        exact W.zret (v := 0) (ty := .boolean) hx hb hr (nr01 (Or.inl rfl)) (fun t ht hW => ⟨⟨0, (wq_shades_32), rfl, ⟨(Option.some.inj hI).symm, (Or.inl rfl)⟩, by rw [ht]; exact hP, va_K.moved hW.alike hK, hD⟩, hS.F ht⟩) hS.2.2 d_Pal_paintFrom_104
      have L_32 : ∀ (n_32 k_32 : Nat) (v4_32 : Int32) (wq_shades_32 : Nat → Int32) (H : Heap) (locs : List Loc) (ls : Array Slot), some R = F_paintFromR_L32 K_32 zq_there zq_allowed zw_near v2 v3 (F_paintFromR 4) n_32 v4_32 wq_shades_32 → va_P (dC, dI) classes [(aq, .inr (3, [.int zq_there, .int zq_allowed, .ref aq_shades])), (aq_shades, .inl (kq_shades, 10, .inl wq_shades_32)), (aw, .inr (1, [.ref aw_near])), (aw_near, .inl (kw_near, 11, .inl zw_near))] H → va_D A [(aq, .inr (3, [.int zq_there, .int zq_allowed, .ref aq_shades])), (aq_shades, .inl (kq_shades, 10, .inl wq_shades_32)), (aw, .inr (1, [.ref aw_near])), (aw_near, .inl (kw_near, 11, .inl zw_near))] → va_S A s.heap H locs → lv_has ls 5 [(0, .ref aq), (1, .ref aw), (2, .int v2), (3, .int v3), (4, .int v4_32)] → W p l e (headSpec w_Pal_paintFrom ({ frames := 6, cells := 0, slots := 0, locals := 141 })).room s m args below meth c H locs 0 0 (MQ below (va_Qi (fun (r : Int32) (u : (Nat → Int32)) => ((r, u) = R) ∧ z01 r) (fun u t => End_ dC dI A [(kq_shades, .int), (kw_near, .int)] [(aq, .inr (3, [.int zq_there, .int zq_allowed, .ref aq_shades])), (aq_shades, .inl (kq_shades, 10, .inl u)), (aw, .inr (1, [.ref aw_near])), (aw_near, .inl (kw_near, 11, .inl zw_near))] t) A) args s 0 0 A) (F0 m 32 ls []) := by
        intro n_32
        induction n_32 with
        | zero =>
          intro k_32 v4_32 wq_shades_32 H locs ls hI hP hD hS hl
          rw [F_paintFromR_L32] at hI
          exact absurd hI (ob_no _)
        | succ n_32 ih_32 =>
          intro k_32 v4_32 wq_shades_32 H locs ls hI hP hD hS hl
          rw [F_paintFromR_L32] at hI
          refine lv_iload hx hb d_Pal_paintFrom_32 (lv_at hl 4 rfl) ?_
          refine lv_iload_n hx hb d_Pal_paintFrom_34 rfl (lv_at hl 3 rfl) ?_
          refine lv_icmp_gt (tgt := 103) hx hb d_Pal_paintFrom_35 rfl (fun hc_35 => ?_) (fun hc_35 => ?_)
          · skip
            have hI := hI.trans (if_pos hc_35)
            have hl := lv_sub hl [0, 1, 2, 3, 4] rfl
            exact X_32 0 _ _ _ _ _ hI hP hD hS hl
          · skip
            have hI := hI.trans (if_neg hc_35)
            refine lv_iload hx hb d_Pal_paintFrom_38 (lv_at hl 4 rfl) ?_
            refine lv_aload_n hx hb d_Pal_paintFrom_40 rfl (lv_at hl 0 rfl) ?_
            refine va_get (D := (dC, dI)) (ci := 3) (v := .int zq_allowed) (C := R_Pal) (T := F_Pal) (N := 3) hx hb hts (fun w h => List.mem_cons_of_mem _ (in_Pal w h)) hown hK hP 0 rfl rfl 1 (by decide) (hts _ (List.mem_cons_of_mem _ mw_1_74)) (fun _ h9 => h9) rfl d_Pal_paintFrom_41 ?_
            refine lv_icmp_ge (tgt := 103) hx hb d_Pal_paintFrom_44 rfl (fun hc_44 => ?_) (fun hc_44 => ?_)
            · skip
              have hI := hI.trans (if_pos hc_44)
              have hl := lv_sub hl [0, 1, 2, 3, 4] rfl
              exact X_32 0 _ _ _ _ _ hI hP hD hS hl
            · skip
              have hI := hI.trans (if_neg hc_44)
              refine lv_aload_n hx hb d_Pal_paintFrom_47 rfl (lv_at hl 0 rfl) ?_
              refine lv_aload_n hx hb d_Pal_paintFrom_48 rfl (lv_at hl 1 rfl) ?_
              refine lv_iload hx hb d_Pal_paintFrom_49 (lv_at hl 4 rfl) ?_
              refine lv_iload_n hx hb d_Pal_paintFrom_51 rfl (lv_at hl 2 rfl) ?_
              obtain ⟨p_52, hg_52, hI⟩ := ob_bd hI
              have hPc := hP.sub (ws' := [(aq, .inr (3, [.int zq_there, .int zq_allowed, .ref aq_shades])), (aq_shades, .inl (kq_shades, 10, .inl wq_shades_32)), (aw, .inr (1, [.ref aw_near])), (aw_near, .inl (kw_near, 11, .inl zw_near))]) [0, 1, 2, 3] rfl
              have hDc := hD.sub (ws' := [(aq, .inr (3, [.int zq_there, .int zq_allowed, .ref aq_shades])), (aq_shades, .inl (kq_shades, 10, .inl wq_shades_32)), (aw, .inr (1, [.ref aw_near])), (aw_near, .inl (kw_near, 11, .inl zw_near))]) [0, 1, 2, 3] (by decide) rfl
              have hKc := hK.sub (tys' := [(kq_shades, .int), (kw_near, .int)]) [0, 1] rfl
              have hFc := va_free (wc := [(aq, .inr (3, [.int zq_there, .int zq_allowed, .ref aq_shades])), (aq_shades, .inl (kq_shades, 10, .inl wq_shades_32)), (aw, .inr (1, [.ref aw_near])), (aw_near, .inl (kw_near, 11, .inl zw_near))]) hD hS hA [0, 1, 2, 3] rfl
              refine va_calli (va_runV (As := [.ref aw, .int v4_32, .int v2]) (rest := []) ⟨hx, hb, hml, hown, hts⟩ (c_isFreeG l dC dI H.size aq aw aq_shades aw_near kq_shades kw_near zq_there zq_allowed wq_shades_32 zw_near v4_32 v2 p_52 hg_52) (cwV 3 hts (gi4 mw_2_39 mw_2_41 mw_p_19 mw_1_4 mw_2_42) rfl rfl rfl (by decide +kernel) ⟨Nat.le_of_ble_eq_true rfl, Nat.le_of_ble_eq_true rfl⟩) ⟨fb_, va_recv (q0 := 0) (ci := 3) hK hP rfl rfl, pre_ hPc hKc hDc hN⟩ rfl rfl hl.1 rfl (lv_room (Nat.le_of_ble_eq_true rfl)) d_Pal_paintFrom_52 ⟨Nat.le_of_ble_eq_true rfl, Nat.le_of_ble_eq_true rfl⟩) hS (fun q _ h => hFc q h) hFc (fun r_52 u t H locs ht hvm hp_52 hB hz1 hk1 hS => ?_)
              obtain ⟨hP1, -, hD1⟩ := hB
              rw [ht] at hP1
              obtain ⟨hP, hD⟩ := va_join (wr := []) (w1 := [(aq, .inr (3, [.int zq_there, .int zq_allowed, .ref aq_shades])), (aq_shades, .inl (kq_shades, 10, .inl wq_shades_32)), (aw, .inr (1, [.ref aw_near])), (aw_near, .inl (kw_near, 11, .inl zw_near))]) hP hD [0, 1, 2, 3] [] rfl rfl (by decide) (by decide) hk1 hFc hP1 hD1
              obtain ⟨hp_52, hz_52⟩ := hp_52
              have hp_52 : (r_52) = p_52 := hp_52
              subst hp_52
              have hP : va_P (dC, dI) classes [(aq, .inr (3, [.int zq_there, .int zq_allowed, .ref aq_shades])), (aq_shades, .inl (kq_shades, 10, .inl wq_shades_32)), (aw, .inr (1, [.ref aw_near])), (aw_near, .inl (kw_near, 11, .inl zw_near))] H := hP
              have hD : va_D A [(aq, .inr (3, [.int zq_there, .int zq_allowed, .ref aq_shades])), (aq_shades, .inl (kq_shades, 10, .inl wq_shades_32)), (aw, .inr (1, [.ref aw_near])), (aw_near, .inl (kw_near, 11, .inl zw_near))] := hD
              refine lv_if_eq (tgt := 97) hx hb d_Pal_paintFrom_55 rfl (fun hc_55 => ?_) (fun hc_55 => ?_)
              · skip
                have hI := hI.trans (if_pos hc_55)
                refine lv_iinc (lv' := [(4, .int (v4_32 + 1)), (0, .ref aq), (1, .ref aw), (2, .int v2), (3, .int v3)]) (k := 4) hx hb d_Pal_paintFrom_97 hl rfl (z_inc1 _) (by decide) rfl (fun ls hl => ?_)
                refine lv_goto (tgt := 32) hx hb d_Pal_paintFrom_100 rfl ?_
                have hl := lv_sub hl [1, 2, 3, 4, 0] rfl
                exact ih_32 0 _ _ _ _ _ hI hP hD hS hl
              · skip
                have hI := hI.trans (if_neg hc_55)
                refine lv_aload_n hx hb d_Pal_paintFrom_58 rfl (lv_at hl 0 rfl) ?_
                refine va_get (D := (dC, dI)) (ci := 3) (v := .ref aq_shades) (C := R_Pal) (T := F_Pal) (N := 3) hx hb hts (fun w h => List.mem_cons_of_mem _ (in_Pal w h)) hown hK hP 0 rfl rfl 2 (by decide) (hts _ (List.mem_cons_of_mem _ mw_1_75)) (fun _ h9 => h9) rfl d_Pal_paintFrom_59 ?_
                refine lv_iload_n hx hb d_Pal_paintFrom_62 rfl (lv_at hl 2 rfl) ?_
                refine lv_iload hx hb d_Pal_paintFrom_63 (lv_at hl 4 rfl) ?_
                have hi_65 := ob_in hI
                have hI := ob_th hI
                refine va_iast (D := (dC, dI)) hx hb hK hP hD hS 1 0 rfl rfl hi_65 d_Pal_paintFrom_65 (fun H locs hP hD hS => ?_)
                have hP : va_P (dC, dI) classes [(aq, .inr (3, [.int zq_there, .int zq_allowed, .ref aq_shades])), (aq_shades, .inl (kq_shades, 10, .inl (upd wq_shades_32 (Int32.toNatClampNeg v2) v4_32))), (aw, .inr (1, [.ref aw_near])), (aw_near, .inl (kw_near, 11, .inl zw_near))] H := hP
                have hD : va_D A [(aq, .inr (3, [.int zq_there, .int zq_allowed, .ref aq_shades])), (aq_shades, .inl (kq_shades, 10, .inl (upd wq_shades_32 (Int32.toNatClampNeg v2) v4_32))), (aw, .inr (1, [.ref aw_near])), (aw_near, .inl (kw_near, 11, .inl zw_near))] := hD
                refine lv_aload_n hx hb d_Pal_paintFrom_66 rfl (lv_at hl 0 rfl) ?_
                refine lv_aload_n hx hb d_Pal_paintFrom_67 rfl (lv_at hl 1 rfl) ?_
                refine lv_iload_n hx hb d_Pal_paintFrom_68 rfl (lv_at hl 2 rfl) ?_
                refine lv_iconst (v := 1) hx hb d_Pal_paintFrom_69 (by decide) ?_
                refine lv_iadd hx hb d_Pal_paintFrom_70 ?_
                refine lv_iload_n hx hb d_Pal_paintFrom_71 rfl (lv_at hl 3 rfl) ?_
                refine lv_iload hx hb d_Pal_paintFrom_72 (lv_at hl 4 rfl) ?_
                refine lv_iconst (v := 1) hx hb d_Pal_paintFrom_74 (by decide) ?_
                refine lv_iadd hx hb d_Pal_paintFrom_75 ?_
                refine va_mmax hx hb (hml.trans hl.1.symm) hown (hts _ (List.mem_cons_of_mem _ mw_2_44)) (hts _ (List.mem_cons_of_mem _ mw_2_45)) (hts _ (List.mem_cons_of_mem _ mw_1_15)) (hts _ (List.mem_cons_of_mem _ mw_2_46)) (Nat.le_of_ble_eq_true rfl) (Nat.le_of_ble_eq_true rfl) (Nat.le_of_ble_eq_true rfl) (Nat.le_of_ble_eq_true rfl) d_Pal_paintFrom_76 ?_
                obtain ⟨p_79, hg_79, hI⟩ := ob_bd hI
                have hPc := hP.sub (ws' := [(aq, .inr (3, [.int zq_there, .int zq_allowed, .ref aq_shades])), (aq_shades, .inl (kq_shades, 10, .inl (upd wq_shades_32 (Int32.toNatClampNeg v2) v4_32))), (aw, .inr (1, [.ref aw_near])), (aw_near, .inl (kw_near, 11, .inl zw_near))]) [0, 1, 2, 3] rfl
                have hDc := hD.sub (ws' := [(aq, .inr (3, [.int zq_there, .int zq_allowed, .ref aq_shades])), (aq_shades, .inl (kq_shades, 10, .inl (upd wq_shades_32 (Int32.toNatClampNeg v2) v4_32))), (aw, .inr (1, [.ref aw_near])), (aw_near, .inl (kw_near, 11, .inl zw_near))]) [0, 1, 2, 3] (by decide) rfl
                have hKc := hK.sub (tys' := [(kq_shades, .int), (kw_near, .int)]) [0, 1] rfl
                have hFc := va_free (wc := [(aq, .inr (3, [.int zq_there, .int zq_allowed, .ref aq_shades])), (aq_shades, .inl (kq_shades, 10, .inl (upd wq_shades_32 (Int32.toNatClampNeg v2) v4_32))), (aw, .inr (1, [.ref aw_near])), (aw_near, .inl (kw_near, 11, .inl zw_near))]) hD hS hA [0, 1, 2, 3] rfl
                refine va_calli (va_runV (As := [.ref aw, .int (v2 + 1), .int (if v3 < (v4_32 + 1) then (v4_32 + 1) else v3)]) (rest := []) ⟨hx, hb, hml, hown, hts⟩ (c_paintFrom_4 l dC dI H.size aq aw aq_shades aw_near kq_shades kw_near zq_there zq_allowed (upd wq_shades_32 (Int32.toNatClampNeg v2) v4_32) zw_near (v2 + 1) (if v3 < (v4_32 + 1) then (v4_32 + 1) else v3) p_79 hg_79) (cwV 3 hts (gi4 mw_2_34 mw_2_36 mw_p_18 mw_1_4 mw_2_37) rfl rfl rfl (by decide +kernel) ⟨Nat.le_of_ble_eq_true rfl, Nat.le_of_ble_eq_true rfl⟩) ⟨fb_, va_recv (q0 := 0) (ci := 3) hK hP rfl rfl, pre_ hPc hKc hDc hN⟩ rfl rfl hl.1 rfl (lv_room (Nat.le_of_ble_eq_true rfl)) d_Pal_paintFrom_79 ⟨Nat.le_of_ble_eq_true rfl, Nat.le_of_ble_eq_true rfl⟩) hS (fun q _ h => hFc q h) hFc (fun r_79 wq_shades_79 t H locs ht hvm hp_79 hB hz1 hk1 hS => ?_)
                obtain ⟨hP1, -, hD1⟩ := hB
                rw [ht] at hP1
                obtain ⟨hP, hD⟩ := va_join (wr := []) (w1 := [(aq, .inr (3, [.int zq_there, .int zq_allowed, .ref aq_shades])), (aq_shades, .inl (kq_shades, 10, .inl wq_shades_79)), (aw, .inr (1, [.ref aw_near])), (aw_near, .inl (kw_near, 11, .inl zw_near))]) hP hD [0, 1, 2, 3] [] rfl rfl (by decide) (by decide) hk1 hFc hP1 hD1
                obtain ⟨hp_79, hz_79⟩ := hp_79
                have hp_79 : (r_79, wq_shades_79) = p_79 := hp_79
                subst hp_79
                have hP : va_P (dC, dI) classes [(aq, .inr (3, [.int zq_there, .int zq_allowed, .ref aq_shades])), (aq_shades, .inl (kq_shades, 10, .inl wq_shades_79)), (aw, .inr (1, [.ref aw_near])), (aw_near, .inl (kw_near, 11, .inl zw_near))] H := hP
                have hD : va_D A [(aq, .inr (3, [.int zq_there, .int zq_allowed, .ref aq_shades])), (aq_shades, .inl (kq_shades, 10, .inl wq_shades_79)), (aw, .inr (1, [.ref aw_near])), (aw_near, .inl (kw_near, 11, .inl zw_near))] := hD
                refine lv_if_eq (tgt := 87) hx hb d_Pal_paintFrom_82 rfl (fun hc_82 => ?_) (fun hc_82 => ?_)
                · skip
                  have hI := hI.trans (if_pos hc_82)
                  refine lv_aload_n hx hb d_Pal_paintFrom_87 rfl (lv_at hl 1 rfl) ?_
                  refine lv_iload_n hx hb d_Pal_paintFrom_88 rfl (lv_at hl 2 rfl) ?_
                  obtain ⟨p_89, hg_89, hI⟩ := ob_bd hI
                  have hPc := hP.sub (ws' := [(aw, .inr (1, [.ref aw_near])), (aw_near, .inl (kw_near, 11, .inl zw_near))]) [2, 3] rfl
                  have hDc := hD.sub (ws' := [(aw, .inr (1, [.ref aw_near])), (aw_near, .inl (kw_near, 11, .inl zw_near))]) [2, 3] (by decide) rfl
                  have hKc := hK.sub (tys' := [(kw_near, .int)]) [1] rfl
                  have hFc := va_free (wc := [(aw, .inr (1, [.ref aw_near])), (aw_near, .inl (kw_near, 11, .inl zw_near))]) hD hS hA [2, 3] rfl
                  refine va_calli (va_runS (As := [.ref aw, .int v2]) (rest := []) ⟨hx, hb, hml, hown, hts⟩ (c_hasLaterG l dC dI H.size aw aw_near kw_near zw_near v2 p_89 hg_89) (cwS 2 hts (gi3 mw_2_47 mw_2_48 mw_1_4 mw_2_49) rfl rfl rfl (by decide +kernel) ⟨Nat.le_of_ble_eq_true rfl, Nat.le_of_ble_eq_true rfl⟩) ⟨fb_, pre_ hPc hKc hDc hN⟩ rfl rfl hl.1 rfl (lv_room (Nat.le_of_ble_eq_true rfl)) d_Pal_paintFrom_89 ⟨Nat.le_of_ble_eq_true rfl, Nat.le_of_ble_eq_true rfl⟩) hS (fun q _ h => hFc q h) hFc (fun r_89 u t H locs ht hvm hp_89 hB hz1 hk1 hS => ?_)
                  obtain ⟨hP1, -, hD1⟩ := hB
                  rw [ht] at hP1
                  obtain ⟨hP, hD⟩ := va_join (wr := [(aq, .inr (3, [.int zq_there, .int zq_allowed, .ref aq_shades])), (aq_shades, .inl (kq_shades, 10, .inl wq_shades_79))]) (w1 := [(aw, .inr (1, [.ref aw_near])), (aw_near, .inl (kw_near, 11, .inl zw_near))]) hP hD [2, 3] [0, 1] rfl rfl (by decide) (by decide) hk1 hFc hP1 hD1
                  obtain ⟨hp_89, hz_89⟩ := hp_89
                  have hp_89 : (r_89) = p_89 := hp_89
                  subst hp_89
                  have hP : va_P (dC, dI) classes [(aq, .inr (3, [.int zq_there, .int zq_allowed, .ref aq_shades])), (aq_shades, .inl (kq_shades, 10, .inl wq_shades_79)), (aw, .inr (1, [.ref aw_near])), (aw_near, .inl (kw_near, 11, .inl zw_near))] H := hP
                  have hD : va_D A [(aq, .inr (3, [.int zq_there, .int zq_allowed, .ref aq_shades])), (aq_shades, .inl (kq_shades, 10, .inl wq_shades_79)), (aw, .inr (1, [.ref aw_near])), (aw_near, .inl (kw_near, 11, .inl zw_near))] := hD
                  refine lv_if_ne (tgt := 97) hx hb d_Pal_paintFrom_92 rfl (fun hc_92 => ?_) (fun hc_92 => ?_)
                  · skip
                    have hI := hI.trans (if_neg hc_92)
                    refine lv_iinc (lv' := [(4, .int (v4_32 + 1)), (0, .ref aq), (1, .ref aw), (2, .int v2), (3, .int v3)]) (k := 4) hx hb d_Pal_paintFrom_97 hl rfl (z_inc1 _) (by decide) rfl (fun ls hl => ?_)
                    refine lv_goto (tgt := 32) hx hb d_Pal_paintFrom_100 rfl ?_
                    have hl := lv_sub hl [1, 2, 3, 4, 0] rfl
                    exact ih_32 0 _ _ _ _ _ hI hP hD hS hl
                  · skip
                    have hI := hI.trans (if_pos hc_92)
                    refine lv_iconst (v := 0) hx hb d_Pal_paintFrom_95 (by decide) ?_
                    exact W.zret (v := 0) (ty := .boolean) hx hb hr (nr01 (Or.inl rfl)) (fun t ht hW => ⟨⟨0, (wq_shades_79), rfl, ⟨(Option.some.inj hI).symm, (Or.inl rfl)⟩, by rw [ht]; exact hP, va_K.moved hW.alike hK, hD⟩, hS.F ht⟩) hS.2.2 d_Pal_paintFrom_96
                · skip
                  have hI := hI.trans (if_neg hc_82)
                  refine lv_iconst (v := 1) hx hb d_Pal_paintFrom_85 (by decide) ?_
                  exact W.zret (v := 1) (ty := .boolean) hx hb hr (nr01 (Or.inr rfl)) (fun t ht hW => ⟨⟨1, (wq_shades_79), rfl, ⟨(Option.some.inj hI).symm, (Or.inr rfl)⟩, by rw [ht]; exact hP, va_K.moved hW.alike hK, hD⟩, hS.F ht⟩) hS.2.2 d_Pal_paintFrom_86
      have hl : lv_has ls 5 [(0, .ref aq), (1, .ref aw), (2, .int v2), (3, .int v3), (4, .int 0)] := by first | exact lv_sub hl [1, 2, 3, 4, 0] rfl | (rw [nI_succ]; exact lv_sub hl [1, 2, 3, 4, 0] rfl)
      exact L_32 64 0 _ _ _ _ _ (by rw [hK_32]; exact hI) hP hD hS hl
    · skip
      have hI := hI.trans (if_pos hc_16)
      refine lv_aload_n hx hb d_Pal_paintFrom_19 rfl (lv_at hl 0 rfl) ?_
      refine lv_aload_n hx hb d_Pal_paintFrom_20 rfl (lv_at hl 1 rfl) ?_
      refine lv_iload_n hx hb d_Pal_paintFrom_21 rfl (lv_at hl 2 rfl) ?_
      refine lv_iconst (v := 1) hx hb d_Pal_paintFrom_22 (by decide) ?_
      refine lv_iadd hx hb d_Pal_paintFrom_23 ?_
      refine lv_iload_n hx hb d_Pal_paintFrom_24 rfl (lv_at hl 3 rfl) ?_
      obtain ⟨p_25, hg_25, hI⟩ := ob_bd hI
      have hPc := hP.sub (ws' := [(aq, .inr (3, [.int zq_there, .int zq_allowed, .ref aq_shades])), (aq_shades, .inl (kq_shades, 10, .inl zq_shades)), (aw, .inr (1, [.ref aw_near])), (aw_near, .inl (kw_near, 11, .inl zw_near))]) [0, 1, 2, 3] rfl
      have hDc := hD.sub (ws' := [(aq, .inr (3, [.int zq_there, .int zq_allowed, .ref aq_shades])), (aq_shades, .inl (kq_shades, 10, .inl zq_shades)), (aw, .inr (1, [.ref aw_near])), (aw_near, .inl (kw_near, 11, .inl zw_near))]) [0, 1, 2, 3] (by decide) rfl
      have hKc := hK.sub (tys' := [(kq_shades, .int), (kw_near, .int)]) [0, 1] rfl
      have hFc := va_free (wc := [(aq, .inr (3, [.int zq_there, .int zq_allowed, .ref aq_shades])), (aq_shades, .inl (kq_shades, 10, .inl zq_shades)), (aw, .inr (1, [.ref aw_near])), (aw_near, .inl (kw_near, 11, .inl zw_near))]) hD hS hA [0, 1, 2, 3] rfl
      refine va_calli (va_runV (As := [.ref aw, .int (v2 + 1), .int v3]) (rest := []) ⟨hx, hb, hml, hown, hts⟩ (c_paintFrom_4 l dC dI H.size aq aw aq_shades aw_near kq_shades kw_near zq_there zq_allowed zq_shades zw_near (v2 + 1) v3 p_25 hg_25) (cwV 3 hts (gi4 mw_2_34 mw_2_36 mw_p_18 mw_1_4 mw_2_37) rfl rfl rfl (by decide +kernel) ⟨Nat.le_of_ble_eq_true rfl, Nat.le_of_ble_eq_true rfl⟩) ⟨fb_, va_recv (q0 := 0) (ci := 3) hK hP rfl rfl, pre_ hPc hKc hDc hN⟩ rfl rfl hl.1 rfl (lv_room (Nat.le_of_ble_eq_true rfl)) d_Pal_paintFrom_25 ⟨Nat.le_of_ble_eq_true rfl, Nat.le_of_ble_eq_true rfl⟩) hS (fun q _ h => hFc q h) hFc (fun r_25 wq_shades_25 t H locs ht hvm hp_25 hB hz1 hk1 hS => ?_)
      obtain ⟨hP1, -, hD1⟩ := hB
      rw [ht] at hP1
      obtain ⟨hP, hD⟩ := va_join (wr := []) (w1 := [(aq, .inr (3, [.int zq_there, .int zq_allowed, .ref aq_shades])), (aq_shades, .inl (kq_shades, 10, .inl wq_shades_25)), (aw, .inr (1, [.ref aw_near])), (aw_near, .inl (kw_near, 11, .inl zw_near))]) hP hD [0, 1, 2, 3] [] rfl rfl (by decide) (by decide) hk1 hFc hP1 hD1
      obtain ⟨hp_25, hz_25⟩ := hp_25
      have hp_25 : (r_25, wq_shades_25) = p_25 := hp_25
      subst hp_25
      have hP : va_P (dC, dI) classes [(aq, .inr (3, [.int zq_there, .int zq_allowed, .ref aq_shades])), (aq_shades, .inl (kq_shades, 10, .inl wq_shades_25)), (aw, .inr (1, [.ref aw_near])), (aw_near, .inl (kw_near, 11, .inl zw_near))] H := hP
      have hD : va_D A [(aq, .inr (3, [.int zq_there, .int zq_allowed, .ref aq_shades])), (aq_shades, .inl (kq_shades, 10, .inl wq_shades_25)), (aw, .inr (1, [.ref aw_near])), (aw_near, .inl (kw_near, 11, .inl zw_near))] := hD
      exact W.zret (v := r_25) (ty := .boolean) hx hb hr (nr01 hz_25) (fun t ht hW => ⟨⟨r_25, (wq_shades_25), rfl, ⟨(Option.some.inj hI).symm, hz_25⟩, by rw [ht]; exact hP, va_K.moved hW.alike hK, hD⟩, hS.F ht⟩) hS.2.2 d_Pal_paintFrom_28
  · skip
    have hI := hI.trans (if_neg hc_3)
    refine lv_iconst (v := 1) hx hb d_Pal_paintFrom_6 (by decide) ?_
    exact W.zret (v := 1) (ty := .boolean) hx hb hr (nr01 (Or.inr rfl)) (fun t ht hW => ⟨⟨1, (zq_shades), rfl, ⟨(Option.some.inj hI).symm, (Or.inr rfl)⟩, by rw [ht]; exact hP, va_K.moved hW.alike hK, hD⟩, hS.F ht⟩) hS.2.2 d_Pal_paintFrom_7
set_option maxHeartbeats 4000000 in
set_option maxRecDepth 100000 in
theorem c_paintFrom_6 (l : Launch) (dC : Nat → ClassId) (dI : Nat → Nat → Nat) (sz : Nat) (aq aw aq_shades aw_near : Nat) (kq_shades kw_near : ClassId) (zq_there : Int32) (zq_allowed : Int32) (zq_shades : Nat → Int32) (zw_near : Nat → Int32) (v2 v3 : Int32) (R : Int32 × (Nat → Int32)) (hR : F_paintFromR 6 zq_there zq_allowed zq_shades zw_near v2 v3 = some R) : Met l y_Pal_paintFrom w_Pal_paintFrom ({ frames := 7, cells := 0, slots := 0, locals := 165 }) (Pre_ dC dI sz [.ref aq, .ref aw, .int v2, .int v3] [(aq, .inr (3, [.int zq_there, .int zq_allowed, .ref aq_shades])), (aq_shades, .inl (kq_shades, 10, .inl zq_shades)), (aw, .inr (1, [.ref aw_near])), (aw_near, .inl (kw_near, 11, .inl zw_near))] [(kq_shades, .int), (kw_near, .int)]) (va_Qi (fun (r : Int32) (u : (Nat → Int32)) => ((r, u) = R) ∧ z01 r) (fun u t => End_ dC dI (va_A [(aq, .inr (3, [.int zq_there, .int zq_allowed, .ref aq_shades])), (aq_shades, .inl (kq_shades, 10, .inl zq_shades)), (aw, .inr (1, [.ref aw_near])), (aw_near, .inl (kw_near, 11, .inl zw_near))] sz) [(kq_shades, .int), (kw_near, .int)] [(aq, .inr (3, [.int zq_there, .int zq_allowed, .ref aq_shades])), (aq_shades, .inl (kq_shades, 10, .inl u)), (aw, .inr (1, [.ref aw_near])), (aw_near, .inl (kw_near, 11, .inl zw_near))] t) (va_A [(aq, .inr (3, [.int zq_there, .int zq_allowed, .ref aq_shades])), (aq_shades, .inl (kq_shades, 10, .inl zq_shades)), (aw, .inr (1, [.ref aw_near])), (aw_near, .inl (kw_near, 11, .inl zw_near))] sz)) 0 0 (va_A [(aq, .inr (3, [.int zq_there, .int zq_allowed, .ref aq_shades])), (aq_shades, .inl (kq_shades, 10, .inl zq_shades)), (aw, .inr (1, [.ref aw_near])), (aw_near, .inl (kw_near, 11, .inl zw_near))] sz) := by
  refine Met.ofW (cc := b_Pal_paintFrom) (maxL := 5) (ret := (some .boolean)) (by decide) rfl ?_
  intro p e s m args below meth c s₁ B hml hv
  obtain ⟨hargs, hsz, hP, hK, hD0, hN⟩ := hv
  have hx := B.exec
  have hb := B.bytes
  have hr := B.returns
  have hts := atoms_spec (ws := w_Pal_paintFrom) B.pre
  have hown : s.vm.findClass R_Pal = some m.cls := findClass_of_methodNamed B.named
  have hlocks := B.notSynchronized
  subst hsz
  have hD := hD0.self (sz := s.heap.size)
  generalize hAe : va_A [(aq, .inr (3, [.int zq_there, .int zq_allowed, .ref aq_shades])), (aq_shades, .inl (kq_shades, 10, .inl zq_shades)), (aw, .inr (1, [.ref aw_near])), (aw_near, .inl (kw_near, 11, .inl zw_near))] s.heap.size = A at hD ⊢
  have hA : ∀ q : Nat, s.heap.size ≤ q → A q := fun q h => by rw [← hAe]; exact Or.inr h
  have hS : va_S A s.heap s.heap [] := va_S.rf
  have hl := lv_entry ([.ref aq, .ref aw, .int v2, .int v3]) (n := 5) (Nat.le_of_ble_eq_true rfl)
  refine W.eq (congrArg (fun a => entryFrame m a 5) hargs) ?_
  rw [lg_entry_eq]
  generalize (lg_sl ([.ref aq, .ref aw, .int v2, .int v3]) ++ List.replicate (5 - (lg_sl ([.ref aq, .ref aw, .int v2, .int v3])).length) Slot.unset).toArray = ls at hl ⊢
  have hl : lv_has ls 5 [(0, .ref aq), (1, .ref aw), (2, .int v2), (3, .int v3)] := hl
  generalize hH0 : ([] : List Loc) = locs at hS ⊢
  have hI := hR.symm
  rw [F_paintFromR] at hI
  refine lv_iload_n hx hb d_Pal_paintFrom_0 rfl (lv_at hl 2 rfl) ?_
  refine lv_bipush (v := 10) hx hb d_Pal_paintFrom_1 (by decide) ?_
  refine lv_icmp_lt (tgt := 8) hx hb d_Pal_paintFrom_3 rfl (fun hc_3 => ?_) (fun hc_3 => ?_)
  · skip
    have hI := hI.trans (if_pos hc_3)
    refine lv_aload_n hx hb d_Pal_paintFrom_8 rfl (lv_at hl 0 rfl) ?_
    refine va_get (D := (dC, dI)) (ci := 3) (v := .int zq_there) (C := R_Pal) (T := F_Pal) (N := 3) hx hb hts (fun w h => List.mem_cons_of_mem _ (in_Pal w h)) hown hK hP 0 rfl rfl 0 (by decide) (hts _ (List.mem_cons_of_mem _ mw_1_73)) (fun _ h9 => h9) rfl d_Pal_paintFrom_9 ?_
    refine lv_iload_n hx hb d_Pal_paintFrom_12 rfl (lv_at hl 2 rfl) ?_
    have hPc := hP.sub (ws' := []) [] rfl
    have hDc := hD.sub (ws' := []) [] (by decide) rfl
    have hKc := hK.sub (tys' := []) [] rfl
    have hFc := va_free (wc := []) hD hS hA [] rfl
    refine va_calli (va_runSN (As := [.int zq_there, .int v2]) (rest := []) ⟨hx, hb, hml, hown, hts⟩ (c_has l dC dI s.heap.size zq_there v2) (⟨va_cnB 2 hts (gi0 mw_1_150) rfl rfl rfl (hN (R_Pal, 26, y_PS_has, R_PS) (by decide +kernel)) (hts _ (List.mem_cons_of_mem _ mw_1_1)) (by decide +kernel) ⟨Nat.le_of_ble_eq_true rfl, Nat.le_of_ble_eq_true rfl⟩, hts _ (List.mem_cons_of_mem _ mw_1_149), trivial⟩) ⟨fb_, pre_ hPc hKc hDc hN⟩ rfl rfl hl.1 rfl (lv_room (Nat.le_of_ble_eq_true rfl)) d_Pal_paintFrom_13 ⟨Nat.le_of_ble_eq_true rfl, Nat.le_of_ble_eq_true rfl⟩) hS (fun q _ h => hFc q h) hFc (fun r_13 u t H locs ht hvm hp_13 hB hz1 hk1 hS => ?_)
    obtain ⟨hP1, -, hD1⟩ := hB
    rw [ht] at hP1
    obtain ⟨hP, hD⟩ := va_join (wr := [(aq, .inr (3, [.int zq_there, .int zq_allowed, .ref aq_shades])), (aq_shades, .inl (kq_shades, 10, .inl zq_shades)), (aw, .inr (1, [.ref aw_near])), (aw_near, .inl (kw_near, 11, .inl zw_near))]) (w1 := []) hP hD [] [0, 1, 2, 3] rfl rfl (by decide) (by decide) hk1 hFc hP1 hD1
    have hp_13 : r_13 = f_has zq_there v2 := hp_13
    subst hp_13
    have hP : va_P (dC, dI) classes [(aq, .inr (3, [.int zq_there, .int zq_allowed, .ref aq_shades])), (aq_shades, .inl (kq_shades, 10, .inl zq_shades)), (aw, .inr (1, [.ref aw_near])), (aw_near, .inl (kw_near, 11, .inl zw_near))] H := hP
    have hD : va_D A [(aq, .inr (3, [.int zq_there, .int zq_allowed, .ref aq_shades])), (aq_shades, .inl (kq_shades, 10, .inl zq_shades)), (aw, .inr (1, [.ref aw_near])), (aw_near, .inl (kw_near, 11, .inl zw_near))] := hD
    refine lv_if_ne (tgt := 29) hx hb d_Pal_paintFrom_16 rfl (fun hc_16 => ?_) (fun hc_16 => ?_)
    · skip
      have hI := hI.trans (if_neg hc_16)
      refine lv_iconst (v := 0) hx hb d_Pal_paintFrom_29 (by decide) ?_
      refine lv_istore (lv' := [(4, .int 0), (0, .ref aq), (1, .ref aw), (2, .int v2), (3, .int v3)]) hx hb d_Pal_paintFrom_30 hl (by decide) rfl (fun ls hl => ?_)
      obtain ⟨K_32, hK_32⟩ : ∃ K : Int32 → (Nat → Int32) → Option (Int32 × (Nat → Int32)), K = (fun v4_32 wq_shades_32 => some ((0 : Int32), wq_shades_32)) := ⟨_, rfl⟩
      have X_32 : ∀ (k_32 : Nat) (v4_32 : Int32) (wq_shades_32 : Nat → Int32) (H : Heap) (locs : List Loc) (ls : Array Slot), some R = K_32 v4_32 wq_shades_32 → va_P (dC, dI) classes [(aq, .inr (3, [.int zq_there, .int zq_allowed, .ref aq_shades])), (aq_shades, .inl (kq_shades, 10, .inl wq_shades_32)), (aw, .inr (1, [.ref aw_near])), (aw_near, .inl (kw_near, 11, .inl zw_near))] H → va_D A [(aq, .inr (3, [.int zq_there, .int zq_allowed, .ref aq_shades])), (aq_shades, .inl (kq_shades, 10, .inl wq_shades_32)), (aw, .inr (1, [.ref aw_near])), (aw_near, .inl (kw_near, 11, .inl zw_near))] → va_S A s.heap H locs → lv_has ls 5 [(0, .ref aq), (1, .ref aw), (2, .int v2), (3, .int v3), (4, .int v4_32)] → W p l e (headSpec w_Pal_paintFrom ({ frames := 7, cells := 0, slots := 0, locals := 165 })).room s m args below meth c H locs 0 0 (MQ below (va_Qi (fun (r : Int32) (u : (Nat → Int32)) => ((r, u) = R) ∧ z01 r) (fun u t => End_ dC dI A [(kq_shades, .int), (kw_near, .int)] [(aq, .inr (3, [.int zq_there, .int zq_allowed, .ref aq_shades])), (aq_shades, .inl (kq_shades, 10, .inl u)), (aw, .inr (1, [.ref aw_near])), (aw_near, .inl (kw_near, 11, .inl zw_near))] t) A) args s 0 0 A) (F0 m 103 ls []) := by
        intro k_32 v4_32 wq_shades_32 H locs ls hI hP hD hS hl
        rw [hK_32] at hI
        refine lv_iconst (v := 0) hx hb d_Pal_paintFrom_103 (by decide) ?_
        exact W.zret (v := 0) (ty := .boolean) hx hb hr (nr01 (Or.inl rfl)) (fun t ht hW => ⟨⟨0, (wq_shades_32), rfl, ⟨(Option.some.inj hI).symm, (Or.inl rfl)⟩, by rw [ht]; exact hP, va_K.moved hW.alike hK, hD⟩, hS.F ht⟩) hS.2.2 d_Pal_paintFrom_104
      have L_32 : ∀ (n_32 k_32 : Nat) (v4_32 : Int32) (wq_shades_32 : Nat → Int32) (H : Heap) (locs : List Loc) (ls : Array Slot), some R = F_paintFromR_L32 K_32 zq_there zq_allowed zw_near v2 v3 (F_paintFromR 5) n_32 v4_32 wq_shades_32 → va_P (dC, dI) classes [(aq, .inr (3, [.int zq_there, .int zq_allowed, .ref aq_shades])), (aq_shades, .inl (kq_shades, 10, .inl wq_shades_32)), (aw, .inr (1, [.ref aw_near])), (aw_near, .inl (kw_near, 11, .inl zw_near))] H → va_D A [(aq, .inr (3, [.int zq_there, .int zq_allowed, .ref aq_shades])), (aq_shades, .inl (kq_shades, 10, .inl wq_shades_32)), (aw, .inr (1, [.ref aw_near])), (aw_near, .inl (kw_near, 11, .inl zw_near))] → va_S A s.heap H locs → lv_has ls 5 [(0, .ref aq), (1, .ref aw), (2, .int v2), (3, .int v3), (4, .int v4_32)] → W p l e (headSpec w_Pal_paintFrom ({ frames := 7, cells := 0, slots := 0, locals := 165 })).room s m args below meth c H locs 0 0 (MQ below (va_Qi (fun (r : Int32) (u : (Nat → Int32)) => ((r, u) = R) ∧ z01 r) (fun u t => End_ dC dI A [(kq_shades, .int), (kw_near, .int)] [(aq, .inr (3, [.int zq_there, .int zq_allowed, .ref aq_shades])), (aq_shades, .inl (kq_shades, 10, .inl u)), (aw, .inr (1, [.ref aw_near])), (aw_near, .inl (kw_near, 11, .inl zw_near))] t) A) args s 0 0 A) (F0 m 32 ls []) := by
        intro n_32
        induction n_32 with
        | zero =>
          intro k_32 v4_32 wq_shades_32 H locs ls hI hP hD hS hl
          rw [F_paintFromR_L32] at hI
          exact absurd hI (ob_no _)
        | succ n_32 ih_32 =>
          intro k_32 v4_32 wq_shades_32 H locs ls hI hP hD hS hl
          rw [F_paintFromR_L32] at hI
          refine lv_iload hx hb d_Pal_paintFrom_32 (lv_at hl 4 rfl) ?_
          refine lv_iload_n hx hb d_Pal_paintFrom_34 rfl (lv_at hl 3 rfl) ?_
          refine lv_icmp_gt (tgt := 103) hx hb d_Pal_paintFrom_35 rfl (fun hc_35 => ?_) (fun hc_35 => ?_)
          · skip
            have hI := hI.trans (if_pos hc_35)
            have hl := lv_sub hl [0, 1, 2, 3, 4] rfl
            exact X_32 0 _ _ _ _ _ hI hP hD hS hl
          · skip
            have hI := hI.trans (if_neg hc_35)
            refine lv_iload hx hb d_Pal_paintFrom_38 (lv_at hl 4 rfl) ?_
            refine lv_aload_n hx hb d_Pal_paintFrom_40 rfl (lv_at hl 0 rfl) ?_
            refine va_get (D := (dC, dI)) (ci := 3) (v := .int zq_allowed) (C := R_Pal) (T := F_Pal) (N := 3) hx hb hts (fun w h => List.mem_cons_of_mem _ (in_Pal w h)) hown hK hP 0 rfl rfl 1 (by decide) (hts _ (List.mem_cons_of_mem _ mw_1_74)) (fun _ h9 => h9) rfl d_Pal_paintFrom_41 ?_
            refine lv_icmp_ge (tgt := 103) hx hb d_Pal_paintFrom_44 rfl (fun hc_44 => ?_) (fun hc_44 => ?_)
            · skip
              have hI := hI.trans (if_pos hc_44)
              have hl := lv_sub hl [0, 1, 2, 3, 4] rfl
              exact X_32 0 _ _ _ _ _ hI hP hD hS hl
            · skip
              have hI := hI.trans (if_neg hc_44)
              refine lv_aload_n hx hb d_Pal_paintFrom_47 rfl (lv_at hl 0 rfl) ?_
              refine lv_aload_n hx hb d_Pal_paintFrom_48 rfl (lv_at hl 1 rfl) ?_
              refine lv_iload hx hb d_Pal_paintFrom_49 (lv_at hl 4 rfl) ?_
              refine lv_iload_n hx hb d_Pal_paintFrom_51 rfl (lv_at hl 2 rfl) ?_
              obtain ⟨p_52, hg_52, hI⟩ := ob_bd hI
              have hPc := hP.sub (ws' := [(aq, .inr (3, [.int zq_there, .int zq_allowed, .ref aq_shades])), (aq_shades, .inl (kq_shades, 10, .inl wq_shades_32)), (aw, .inr (1, [.ref aw_near])), (aw_near, .inl (kw_near, 11, .inl zw_near))]) [0, 1, 2, 3] rfl
              have hDc := hD.sub (ws' := [(aq, .inr (3, [.int zq_there, .int zq_allowed, .ref aq_shades])), (aq_shades, .inl (kq_shades, 10, .inl wq_shades_32)), (aw, .inr (1, [.ref aw_near])), (aw_near, .inl (kw_near, 11, .inl zw_near))]) [0, 1, 2, 3] (by decide) rfl
              have hKc := hK.sub (tys' := [(kq_shades, .int), (kw_near, .int)]) [0, 1] rfl
              have hFc := va_free (wc := [(aq, .inr (3, [.int zq_there, .int zq_allowed, .ref aq_shades])), (aq_shades, .inl (kq_shades, 10, .inl wq_shades_32)), (aw, .inr (1, [.ref aw_near])), (aw_near, .inl (kw_near, 11, .inl zw_near))]) hD hS hA [0, 1, 2, 3] rfl
              refine va_calli (va_runV (As := [.ref aw, .int v4_32, .int v2]) (rest := []) ⟨hx, hb, hml, hown, hts⟩ (c_isFreeG l dC dI H.size aq aw aq_shades aw_near kq_shades kw_near zq_there zq_allowed wq_shades_32 zw_near v4_32 v2 p_52 hg_52) (cwV 3 hts (gi4 mw_2_39 mw_2_41 mw_p_19 mw_1_4 mw_2_42) rfl rfl rfl (by decide +kernel) ⟨Nat.le_of_ble_eq_true rfl, Nat.le_of_ble_eq_true rfl⟩) ⟨fb_, va_recv (q0 := 0) (ci := 3) hK hP rfl rfl, pre_ hPc hKc hDc hN⟩ rfl rfl hl.1 rfl (lv_room (Nat.le_of_ble_eq_true rfl)) d_Pal_paintFrom_52 ⟨Nat.le_of_ble_eq_true rfl, Nat.le_of_ble_eq_true rfl⟩) hS (fun q _ h => hFc q h) hFc (fun r_52 u t H locs ht hvm hp_52 hB hz1 hk1 hS => ?_)
              obtain ⟨hP1, -, hD1⟩ := hB
              rw [ht] at hP1
              obtain ⟨hP, hD⟩ := va_join (wr := []) (w1 := [(aq, .inr (3, [.int zq_there, .int zq_allowed, .ref aq_shades])), (aq_shades, .inl (kq_shades, 10, .inl wq_shades_32)), (aw, .inr (1, [.ref aw_near])), (aw_near, .inl (kw_near, 11, .inl zw_near))]) hP hD [0, 1, 2, 3] [] rfl rfl (by decide) (by decide) hk1 hFc hP1 hD1
              obtain ⟨hp_52, hz_52⟩ := hp_52
              have hp_52 : (r_52) = p_52 := hp_52
              subst hp_52
              have hP : va_P (dC, dI) classes [(aq, .inr (3, [.int zq_there, .int zq_allowed, .ref aq_shades])), (aq_shades, .inl (kq_shades, 10, .inl wq_shades_32)), (aw, .inr (1, [.ref aw_near])), (aw_near, .inl (kw_near, 11, .inl zw_near))] H := hP
              have hD : va_D A [(aq, .inr (3, [.int zq_there, .int zq_allowed, .ref aq_shades])), (aq_shades, .inl (kq_shades, 10, .inl wq_shades_32)), (aw, .inr (1, [.ref aw_near])), (aw_near, .inl (kw_near, 11, .inl zw_near))] := hD
              refine lv_if_eq (tgt := 97) hx hb d_Pal_paintFrom_55 rfl (fun hc_55 => ?_) (fun hc_55 => ?_)
              · skip
                have hI := hI.trans (if_pos hc_55)
                refine lv_iinc (lv' := [(4, .int (v4_32 + 1)), (0, .ref aq), (1, .ref aw), (2, .int v2), (3, .int v3)]) (k := 4) hx hb d_Pal_paintFrom_97 hl rfl (z_inc1 _) (by decide) rfl (fun ls hl => ?_)
                refine lv_goto (tgt := 32) hx hb d_Pal_paintFrom_100 rfl ?_
                have hl := lv_sub hl [1, 2, 3, 4, 0] rfl
                exact ih_32 0 _ _ _ _ _ hI hP hD hS hl
              · skip
                have hI := hI.trans (if_neg hc_55)
                refine lv_aload_n hx hb d_Pal_paintFrom_58 rfl (lv_at hl 0 rfl) ?_
                refine va_get (D := (dC, dI)) (ci := 3) (v := .ref aq_shades) (C := R_Pal) (T := F_Pal) (N := 3) hx hb hts (fun w h => List.mem_cons_of_mem _ (in_Pal w h)) hown hK hP 0 rfl rfl 2 (by decide) (hts _ (List.mem_cons_of_mem _ mw_1_75)) (fun _ h9 => h9) rfl d_Pal_paintFrom_59 ?_
                refine lv_iload_n hx hb d_Pal_paintFrom_62 rfl (lv_at hl 2 rfl) ?_
                refine lv_iload hx hb d_Pal_paintFrom_63 (lv_at hl 4 rfl) ?_
                have hi_65 := ob_in hI
                have hI := ob_th hI
                refine va_iast (D := (dC, dI)) hx hb hK hP hD hS 1 0 rfl rfl hi_65 d_Pal_paintFrom_65 (fun H locs hP hD hS => ?_)
                have hP : va_P (dC, dI) classes [(aq, .inr (3, [.int zq_there, .int zq_allowed, .ref aq_shades])), (aq_shades, .inl (kq_shades, 10, .inl (upd wq_shades_32 (Int32.toNatClampNeg v2) v4_32))), (aw, .inr (1, [.ref aw_near])), (aw_near, .inl (kw_near, 11, .inl zw_near))] H := hP
                have hD : va_D A [(aq, .inr (3, [.int zq_there, .int zq_allowed, .ref aq_shades])), (aq_shades, .inl (kq_shades, 10, .inl (upd wq_shades_32 (Int32.toNatClampNeg v2) v4_32))), (aw, .inr (1, [.ref aw_near])), (aw_near, .inl (kw_near, 11, .inl zw_near))] := hD
                refine lv_aload_n hx hb d_Pal_paintFrom_66 rfl (lv_at hl 0 rfl) ?_
                refine lv_aload_n hx hb d_Pal_paintFrom_67 rfl (lv_at hl 1 rfl) ?_
                refine lv_iload_n hx hb d_Pal_paintFrom_68 rfl (lv_at hl 2 rfl) ?_
                refine lv_iconst (v := 1) hx hb d_Pal_paintFrom_69 (by decide) ?_
                refine lv_iadd hx hb d_Pal_paintFrom_70 ?_
                refine lv_iload_n hx hb d_Pal_paintFrom_71 rfl (lv_at hl 3 rfl) ?_
                refine lv_iload hx hb d_Pal_paintFrom_72 (lv_at hl 4 rfl) ?_
                refine lv_iconst (v := 1) hx hb d_Pal_paintFrom_74 (by decide) ?_
                refine lv_iadd hx hb d_Pal_paintFrom_75 ?_
                refine va_mmax hx hb (hml.trans hl.1.symm) hown (hts _ (List.mem_cons_of_mem _ mw_2_44)) (hts _ (List.mem_cons_of_mem _ mw_2_45)) (hts _ (List.mem_cons_of_mem _ mw_1_15)) (hts _ (List.mem_cons_of_mem _ mw_2_46)) (Nat.le_of_ble_eq_true rfl) (Nat.le_of_ble_eq_true rfl) (Nat.le_of_ble_eq_true rfl) (Nat.le_of_ble_eq_true rfl) d_Pal_paintFrom_76 ?_
                obtain ⟨p_79, hg_79, hI⟩ := ob_bd hI
                have hPc := hP.sub (ws' := [(aq, .inr (3, [.int zq_there, .int zq_allowed, .ref aq_shades])), (aq_shades, .inl (kq_shades, 10, .inl (upd wq_shades_32 (Int32.toNatClampNeg v2) v4_32))), (aw, .inr (1, [.ref aw_near])), (aw_near, .inl (kw_near, 11, .inl zw_near))]) [0, 1, 2, 3] rfl
                have hDc := hD.sub (ws' := [(aq, .inr (3, [.int zq_there, .int zq_allowed, .ref aq_shades])), (aq_shades, .inl (kq_shades, 10, .inl (upd wq_shades_32 (Int32.toNatClampNeg v2) v4_32))), (aw, .inr (1, [.ref aw_near])), (aw_near, .inl (kw_near, 11, .inl zw_near))]) [0, 1, 2, 3] (by decide) rfl
                have hKc := hK.sub (tys' := [(kq_shades, .int), (kw_near, .int)]) [0, 1] rfl
                have hFc := va_free (wc := [(aq, .inr (3, [.int zq_there, .int zq_allowed, .ref aq_shades])), (aq_shades, .inl (kq_shades, 10, .inl (upd wq_shades_32 (Int32.toNatClampNeg v2) v4_32))), (aw, .inr (1, [.ref aw_near])), (aw_near, .inl (kw_near, 11, .inl zw_near))]) hD hS hA [0, 1, 2, 3] rfl
                refine va_calli (va_runV (As := [.ref aw, .int (v2 + 1), .int (if v3 < (v4_32 + 1) then (v4_32 + 1) else v3)]) (rest := []) ⟨hx, hb, hml, hown, hts⟩ (c_paintFrom_5 l dC dI H.size aq aw aq_shades aw_near kq_shades kw_near zq_there zq_allowed (upd wq_shades_32 (Int32.toNatClampNeg v2) v4_32) zw_near (v2 + 1) (if v3 < (v4_32 + 1) then (v4_32 + 1) else v3) p_79 hg_79) (cwV 3 hts (gi4 mw_2_34 mw_2_36 mw_p_18 mw_1_4 mw_2_37) rfl rfl rfl (by decide +kernel) ⟨Nat.le_of_ble_eq_true rfl, Nat.le_of_ble_eq_true rfl⟩) ⟨fb_, va_recv (q0 := 0) (ci := 3) hK hP rfl rfl, pre_ hPc hKc hDc hN⟩ rfl rfl hl.1 rfl (lv_room (Nat.le_of_ble_eq_true rfl)) d_Pal_paintFrom_79 ⟨Nat.le_of_ble_eq_true rfl, Nat.le_of_ble_eq_true rfl⟩) hS (fun q _ h => hFc q h) hFc (fun r_79 wq_shades_79 t H locs ht hvm hp_79 hB hz1 hk1 hS => ?_)
                obtain ⟨hP1, -, hD1⟩ := hB
                rw [ht] at hP1
                obtain ⟨hP, hD⟩ := va_join (wr := []) (w1 := [(aq, .inr (3, [.int zq_there, .int zq_allowed, .ref aq_shades])), (aq_shades, .inl (kq_shades, 10, .inl wq_shades_79)), (aw, .inr (1, [.ref aw_near])), (aw_near, .inl (kw_near, 11, .inl zw_near))]) hP hD [0, 1, 2, 3] [] rfl rfl (by decide) (by decide) hk1 hFc hP1 hD1
                obtain ⟨hp_79, hz_79⟩ := hp_79
                have hp_79 : (r_79, wq_shades_79) = p_79 := hp_79
                subst hp_79
                have hP : va_P (dC, dI) classes [(aq, .inr (3, [.int zq_there, .int zq_allowed, .ref aq_shades])), (aq_shades, .inl (kq_shades, 10, .inl wq_shades_79)), (aw, .inr (1, [.ref aw_near])), (aw_near, .inl (kw_near, 11, .inl zw_near))] H := hP
                have hD : va_D A [(aq, .inr (3, [.int zq_there, .int zq_allowed, .ref aq_shades])), (aq_shades, .inl (kq_shades, 10, .inl wq_shades_79)), (aw, .inr (1, [.ref aw_near])), (aw_near, .inl (kw_near, 11, .inl zw_near))] := hD
                refine lv_if_eq (tgt := 87) hx hb d_Pal_paintFrom_82 rfl (fun hc_82 => ?_) (fun hc_82 => ?_)
                · skip
                  have hI := hI.trans (if_pos hc_82)
                  refine lv_aload_n hx hb d_Pal_paintFrom_87 rfl (lv_at hl 1 rfl) ?_
                  refine lv_iload_n hx hb d_Pal_paintFrom_88 rfl (lv_at hl 2 rfl) ?_
                  obtain ⟨p_89, hg_89, hI⟩ := ob_bd hI
                  have hPc := hP.sub (ws' := [(aw, .inr (1, [.ref aw_near])), (aw_near, .inl (kw_near, 11, .inl zw_near))]) [2, 3] rfl
                  have hDc := hD.sub (ws' := [(aw, .inr (1, [.ref aw_near])), (aw_near, .inl (kw_near, 11, .inl zw_near))]) [2, 3] (by decide) rfl
                  have hKc := hK.sub (tys' := [(kw_near, .int)]) [1] rfl
                  have hFc := va_free (wc := [(aw, .inr (1, [.ref aw_near])), (aw_near, .inl (kw_near, 11, .inl zw_near))]) hD hS hA [2, 3] rfl
                  refine va_calli (va_runS (As := [.ref aw, .int v2]) (rest := []) ⟨hx, hb, hml, hown, hts⟩ (c_hasLaterG l dC dI H.size aw aw_near kw_near zw_near v2 p_89 hg_89) (cwS 2 hts (gi3 mw_2_47 mw_2_48 mw_1_4 mw_2_49) rfl rfl rfl (by decide +kernel) ⟨Nat.le_of_ble_eq_true rfl, Nat.le_of_ble_eq_true rfl⟩) ⟨fb_, pre_ hPc hKc hDc hN⟩ rfl rfl hl.1 rfl (lv_room (Nat.le_of_ble_eq_true rfl)) d_Pal_paintFrom_89 ⟨Nat.le_of_ble_eq_true rfl, Nat.le_of_ble_eq_true rfl⟩) hS (fun q _ h => hFc q h) hFc (fun r_89 u t H locs ht hvm hp_89 hB hz1 hk1 hS => ?_)
                  obtain ⟨hP1, -, hD1⟩ := hB
                  rw [ht] at hP1
                  obtain ⟨hP, hD⟩ := va_join (wr := [(aq, .inr (3, [.int zq_there, .int zq_allowed, .ref aq_shades])), (aq_shades, .inl (kq_shades, 10, .inl wq_shades_79))]) (w1 := [(aw, .inr (1, [.ref aw_near])), (aw_near, .inl (kw_near, 11, .inl zw_near))]) hP hD [2, 3] [0, 1] rfl rfl (by decide) (by decide) hk1 hFc hP1 hD1
                  obtain ⟨hp_89, hz_89⟩ := hp_89
                  have hp_89 : (r_89) = p_89 := hp_89
                  subst hp_89
                  have hP : va_P (dC, dI) classes [(aq, .inr (3, [.int zq_there, .int zq_allowed, .ref aq_shades])), (aq_shades, .inl (kq_shades, 10, .inl wq_shades_79)), (aw, .inr (1, [.ref aw_near])), (aw_near, .inl (kw_near, 11, .inl zw_near))] H := hP
                  have hD : va_D A [(aq, .inr (3, [.int zq_there, .int zq_allowed, .ref aq_shades])), (aq_shades, .inl (kq_shades, 10, .inl wq_shades_79)), (aw, .inr (1, [.ref aw_near])), (aw_near, .inl (kw_near, 11, .inl zw_near))] := hD
                  refine lv_if_ne (tgt := 97) hx hb d_Pal_paintFrom_92 rfl (fun hc_92 => ?_) (fun hc_92 => ?_)
                  · skip
                    have hI := hI.trans (if_neg hc_92)
                    refine lv_iinc (lv' := [(4, .int (v4_32 + 1)), (0, .ref aq), (1, .ref aw), (2, .int v2), (3, .int v3)]) (k := 4) hx hb d_Pal_paintFrom_97 hl rfl (z_inc1 _) (by decide) rfl (fun ls hl => ?_)
                    refine lv_goto (tgt := 32) hx hb d_Pal_paintFrom_100 rfl ?_
                    have hl := lv_sub hl [1, 2, 3, 4, 0] rfl
                    exact ih_32 0 _ _ _ _ _ hI hP hD hS hl
                  · skip
                    have hI := hI.trans (if_pos hc_92)
                    refine lv_iconst (v := 0) hx hb d_Pal_paintFrom_95 (by decide) ?_
                    exact W.zret (v := 0) (ty := .boolean) hx hb hr (nr01 (Or.inl rfl)) (fun t ht hW => ⟨⟨0, (wq_shades_79), rfl, ⟨(Option.some.inj hI).symm, (Or.inl rfl)⟩, by rw [ht]; exact hP, va_K.moved hW.alike hK, hD⟩, hS.F ht⟩) hS.2.2 d_Pal_paintFrom_96
                · skip
                  have hI := hI.trans (if_neg hc_82)
                  refine lv_iconst (v := 1) hx hb d_Pal_paintFrom_85 (by decide) ?_
                  exact W.zret (v := 1) (ty := .boolean) hx hb hr (nr01 (Or.inr rfl)) (fun t ht hW => ⟨⟨1, (wq_shades_79), rfl, ⟨(Option.some.inj hI).symm, (Or.inr rfl)⟩, by rw [ht]; exact hP, va_K.moved hW.alike hK, hD⟩, hS.F ht⟩) hS.2.2 d_Pal_paintFrom_86
      have hl : lv_has ls 5 [(0, .ref aq), (1, .ref aw), (2, .int v2), (3, .int v3), (4, .int 0)] := by first | exact lv_sub hl [1, 2, 3, 4, 0] rfl | (rw [nI_succ]; exact lv_sub hl [1, 2, 3, 4, 0] rfl)
      exact L_32 64 0 _ _ _ _ _ (by rw [hK_32]; exact hI) hP hD hS hl
    · skip
      have hI := hI.trans (if_pos hc_16)
      refine lv_aload_n hx hb d_Pal_paintFrom_19 rfl (lv_at hl 0 rfl) ?_
      refine lv_aload_n hx hb d_Pal_paintFrom_20 rfl (lv_at hl 1 rfl) ?_
      refine lv_iload_n hx hb d_Pal_paintFrom_21 rfl (lv_at hl 2 rfl) ?_
      refine lv_iconst (v := 1) hx hb d_Pal_paintFrom_22 (by decide) ?_
      refine lv_iadd hx hb d_Pal_paintFrom_23 ?_
      refine lv_iload_n hx hb d_Pal_paintFrom_24 rfl (lv_at hl 3 rfl) ?_
      obtain ⟨p_25, hg_25, hI⟩ := ob_bd hI
      have hPc := hP.sub (ws' := [(aq, .inr (3, [.int zq_there, .int zq_allowed, .ref aq_shades])), (aq_shades, .inl (kq_shades, 10, .inl zq_shades)), (aw, .inr (1, [.ref aw_near])), (aw_near, .inl (kw_near, 11, .inl zw_near))]) [0, 1, 2, 3] rfl
      have hDc := hD.sub (ws' := [(aq, .inr (3, [.int zq_there, .int zq_allowed, .ref aq_shades])), (aq_shades, .inl (kq_shades, 10, .inl zq_shades)), (aw, .inr (1, [.ref aw_near])), (aw_near, .inl (kw_near, 11, .inl zw_near))]) [0, 1, 2, 3] (by decide) rfl
      have hKc := hK.sub (tys' := [(kq_shades, .int), (kw_near, .int)]) [0, 1] rfl
      have hFc := va_free (wc := [(aq, .inr (3, [.int zq_there, .int zq_allowed, .ref aq_shades])), (aq_shades, .inl (kq_shades, 10, .inl zq_shades)), (aw, .inr (1, [.ref aw_near])), (aw_near, .inl (kw_near, 11, .inl zw_near))]) hD hS hA [0, 1, 2, 3] rfl
      refine va_calli (va_runV (As := [.ref aw, .int (v2 + 1), .int v3]) (rest := []) ⟨hx, hb, hml, hown, hts⟩ (c_paintFrom_5 l dC dI H.size aq aw aq_shades aw_near kq_shades kw_near zq_there zq_allowed zq_shades zw_near (v2 + 1) v3 p_25 hg_25) (cwV 3 hts (gi4 mw_2_34 mw_2_36 mw_p_18 mw_1_4 mw_2_37) rfl rfl rfl (by decide +kernel) ⟨Nat.le_of_ble_eq_true rfl, Nat.le_of_ble_eq_true rfl⟩) ⟨fb_, va_recv (q0 := 0) (ci := 3) hK hP rfl rfl, pre_ hPc hKc hDc hN⟩ rfl rfl hl.1 rfl (lv_room (Nat.le_of_ble_eq_true rfl)) d_Pal_paintFrom_25 ⟨Nat.le_of_ble_eq_true rfl, Nat.le_of_ble_eq_true rfl⟩) hS (fun q _ h => hFc q h) hFc (fun r_25 wq_shades_25 t H locs ht hvm hp_25 hB hz1 hk1 hS => ?_)
      obtain ⟨hP1, -, hD1⟩ := hB
      rw [ht] at hP1
      obtain ⟨hP, hD⟩ := va_join (wr := []) (w1 := [(aq, .inr (3, [.int zq_there, .int zq_allowed, .ref aq_shades])), (aq_shades, .inl (kq_shades, 10, .inl wq_shades_25)), (aw, .inr (1, [.ref aw_near])), (aw_near, .inl (kw_near, 11, .inl zw_near))]) hP hD [0, 1, 2, 3] [] rfl rfl (by decide) (by decide) hk1 hFc hP1 hD1
      obtain ⟨hp_25, hz_25⟩ := hp_25
      have hp_25 : (r_25, wq_shades_25) = p_25 := hp_25
      subst hp_25
      have hP : va_P (dC, dI) classes [(aq, .inr (3, [.int zq_there, .int zq_allowed, .ref aq_shades])), (aq_shades, .inl (kq_shades, 10, .inl wq_shades_25)), (aw, .inr (1, [.ref aw_near])), (aw_near, .inl (kw_near, 11, .inl zw_near))] H := hP
      have hD : va_D A [(aq, .inr (3, [.int zq_there, .int zq_allowed, .ref aq_shades])), (aq_shades, .inl (kq_shades, 10, .inl wq_shades_25)), (aw, .inr (1, [.ref aw_near])), (aw_near, .inl (kw_near, 11, .inl zw_near))] := hD
      exact W.zret (v := r_25) (ty := .boolean) hx hb hr (nr01 hz_25) (fun t ht hW => ⟨⟨r_25, (wq_shades_25), rfl, ⟨(Option.some.inj hI).symm, hz_25⟩, by rw [ht]; exact hP, va_K.moved hW.alike hK, hD⟩, hS.F ht⟩) hS.2.2 d_Pal_paintFrom_28
  · skip
    have hI := hI.trans (if_neg hc_3)
    refine lv_iconst (v := 1) hx hb d_Pal_paintFrom_6 (by decide) ?_
    exact W.zret (v := 1) (ty := .boolean) hx hb hr (nr01 (Or.inr rfl)) (fun t ht hW => ⟨⟨1, (zq_shades), rfl, ⟨(Option.some.inj hI).symm, (Or.inr rfl)⟩, by rw [ht]; exact hP, va_K.moved hW.alike hK, hD⟩, hS.F ht⟩) hS.2.2 d_Pal_paintFrom_7
set_option maxHeartbeats 4000000 in
set_option maxRecDepth 100000 in
theorem c_paintFrom_7 (l : Launch) (dC : Nat → ClassId) (dI : Nat → Nat → Nat) (sz : Nat) (aq aw aq_shades aw_near : Nat) (kq_shades kw_near : ClassId) (zq_there : Int32) (zq_allowed : Int32) (zq_shades : Nat → Int32) (zw_near : Nat → Int32) (v2 v3 : Int32) (R : Int32 × (Nat → Int32)) (hR : F_paintFromR 7 zq_there zq_allowed zq_shades zw_near v2 v3 = some R) : Met l y_Pal_paintFrom w_Pal_paintFrom ({ frames := 8, cells := 0, slots := 0, locals := 189 }) (Pre_ dC dI sz [.ref aq, .ref aw, .int v2, .int v3] [(aq, .inr (3, [.int zq_there, .int zq_allowed, .ref aq_shades])), (aq_shades, .inl (kq_shades, 10, .inl zq_shades)), (aw, .inr (1, [.ref aw_near])), (aw_near, .inl (kw_near, 11, .inl zw_near))] [(kq_shades, .int), (kw_near, .int)]) (va_Qi (fun (r : Int32) (u : (Nat → Int32)) => ((r, u) = R) ∧ z01 r) (fun u t => End_ dC dI (va_A [(aq, .inr (3, [.int zq_there, .int zq_allowed, .ref aq_shades])), (aq_shades, .inl (kq_shades, 10, .inl zq_shades)), (aw, .inr (1, [.ref aw_near])), (aw_near, .inl (kw_near, 11, .inl zw_near))] sz) [(kq_shades, .int), (kw_near, .int)] [(aq, .inr (3, [.int zq_there, .int zq_allowed, .ref aq_shades])), (aq_shades, .inl (kq_shades, 10, .inl u)), (aw, .inr (1, [.ref aw_near])), (aw_near, .inl (kw_near, 11, .inl zw_near))] t) (va_A [(aq, .inr (3, [.int zq_there, .int zq_allowed, .ref aq_shades])), (aq_shades, .inl (kq_shades, 10, .inl zq_shades)), (aw, .inr (1, [.ref aw_near])), (aw_near, .inl (kw_near, 11, .inl zw_near))] sz)) 0 0 (va_A [(aq, .inr (3, [.int zq_there, .int zq_allowed, .ref aq_shades])), (aq_shades, .inl (kq_shades, 10, .inl zq_shades)), (aw, .inr (1, [.ref aw_near])), (aw_near, .inl (kw_near, 11, .inl zw_near))] sz) := by
  refine Met.ofW (cc := b_Pal_paintFrom) (maxL := 5) (ret := (some .boolean)) (by decide) rfl ?_
  intro p e s m args below meth c s₁ B hml hv
  obtain ⟨hargs, hsz, hP, hK, hD0, hN⟩ := hv
  have hx := B.exec
  have hb := B.bytes
  have hr := B.returns
  have hts := atoms_spec (ws := w_Pal_paintFrom) B.pre
  have hown : s.vm.findClass R_Pal = some m.cls := findClass_of_methodNamed B.named
  have hlocks := B.notSynchronized
  subst hsz
  have hD := hD0.self (sz := s.heap.size)
  generalize hAe : va_A [(aq, .inr (3, [.int zq_there, .int zq_allowed, .ref aq_shades])), (aq_shades, .inl (kq_shades, 10, .inl zq_shades)), (aw, .inr (1, [.ref aw_near])), (aw_near, .inl (kw_near, 11, .inl zw_near))] s.heap.size = A at hD ⊢
  have hA : ∀ q : Nat, s.heap.size ≤ q → A q := fun q h => by rw [← hAe]; exact Or.inr h
  have hS : va_S A s.heap s.heap [] := va_S.rf
  have hl := lv_entry ([.ref aq, .ref aw, .int v2, .int v3]) (n := 5) (Nat.le_of_ble_eq_true rfl)
  refine W.eq (congrArg (fun a => entryFrame m a 5) hargs) ?_
  rw [lg_entry_eq]
  generalize (lg_sl ([.ref aq, .ref aw, .int v2, .int v3]) ++ List.replicate (5 - (lg_sl ([.ref aq, .ref aw, .int v2, .int v3])).length) Slot.unset).toArray = ls at hl ⊢
  have hl : lv_has ls 5 [(0, .ref aq), (1, .ref aw), (2, .int v2), (3, .int v3)] := hl
  generalize hH0 : ([] : List Loc) = locs at hS ⊢
  have hI := hR.symm
  rw [F_paintFromR] at hI
  refine lv_iload_n hx hb d_Pal_paintFrom_0 rfl (lv_at hl 2 rfl) ?_
  refine lv_bipush (v := 10) hx hb d_Pal_paintFrom_1 (by decide) ?_
  refine lv_icmp_lt (tgt := 8) hx hb d_Pal_paintFrom_3 rfl (fun hc_3 => ?_) (fun hc_3 => ?_)
  · skip
    have hI := hI.trans (if_pos hc_3)
    refine lv_aload_n hx hb d_Pal_paintFrom_8 rfl (lv_at hl 0 rfl) ?_
    refine va_get (D := (dC, dI)) (ci := 3) (v := .int zq_there) (C := R_Pal) (T := F_Pal) (N := 3) hx hb hts (fun w h => List.mem_cons_of_mem _ (in_Pal w h)) hown hK hP 0 rfl rfl 0 (by decide) (hts _ (List.mem_cons_of_mem _ mw_1_73)) (fun _ h9 => h9) rfl d_Pal_paintFrom_9 ?_
    refine lv_iload_n hx hb d_Pal_paintFrom_12 rfl (lv_at hl 2 rfl) ?_
    have hPc := hP.sub (ws' := []) [] rfl
    have hDc := hD.sub (ws' := []) [] (by decide) rfl
    have hKc := hK.sub (tys' := []) [] rfl
    have hFc := va_free (wc := []) hD hS hA [] rfl
    refine va_calli (va_runSN (As := [.int zq_there, .int v2]) (rest := []) ⟨hx, hb, hml, hown, hts⟩ (c_has l dC dI s.heap.size zq_there v2) (⟨va_cnB 2 hts (gi0 mw_1_150) rfl rfl rfl (hN (R_Pal, 26, y_PS_has, R_PS) (by decide +kernel)) (hts _ (List.mem_cons_of_mem _ mw_1_1)) (by decide +kernel) ⟨Nat.le_of_ble_eq_true rfl, Nat.le_of_ble_eq_true rfl⟩, hts _ (List.mem_cons_of_mem _ mw_1_149), trivial⟩) ⟨fb_, pre_ hPc hKc hDc hN⟩ rfl rfl hl.1 rfl (lv_room (Nat.le_of_ble_eq_true rfl)) d_Pal_paintFrom_13 ⟨Nat.le_of_ble_eq_true rfl, Nat.le_of_ble_eq_true rfl⟩) hS (fun q _ h => hFc q h) hFc (fun r_13 u t H locs ht hvm hp_13 hB hz1 hk1 hS => ?_)
    obtain ⟨hP1, -, hD1⟩ := hB
    rw [ht] at hP1
    obtain ⟨hP, hD⟩ := va_join (wr := [(aq, .inr (3, [.int zq_there, .int zq_allowed, .ref aq_shades])), (aq_shades, .inl (kq_shades, 10, .inl zq_shades)), (aw, .inr (1, [.ref aw_near])), (aw_near, .inl (kw_near, 11, .inl zw_near))]) (w1 := []) hP hD [] [0, 1, 2, 3] rfl rfl (by decide) (by decide) hk1 hFc hP1 hD1
    have hp_13 : r_13 = f_has zq_there v2 := hp_13
    subst hp_13
    have hP : va_P (dC, dI) classes [(aq, .inr (3, [.int zq_there, .int zq_allowed, .ref aq_shades])), (aq_shades, .inl (kq_shades, 10, .inl zq_shades)), (aw, .inr (1, [.ref aw_near])), (aw_near, .inl (kw_near, 11, .inl zw_near))] H := hP
    have hD : va_D A [(aq, .inr (3, [.int zq_there, .int zq_allowed, .ref aq_shades])), (aq_shades, .inl (kq_shades, 10, .inl zq_shades)), (aw, .inr (1, [.ref aw_near])), (aw_near, .inl (kw_near, 11, .inl zw_near))] := hD
    refine lv_if_ne (tgt := 29) hx hb d_Pal_paintFrom_16 rfl (fun hc_16 => ?_) (fun hc_16 => ?_)
    · skip
      have hI := hI.trans (if_neg hc_16)
      refine lv_iconst (v := 0) hx hb d_Pal_paintFrom_29 (by decide) ?_
      refine lv_istore (lv' := [(4, .int 0), (0, .ref aq), (1, .ref aw), (2, .int v2), (3, .int v3)]) hx hb d_Pal_paintFrom_30 hl (by decide) rfl (fun ls hl => ?_)
      obtain ⟨K_32, hK_32⟩ : ∃ K : Int32 → (Nat → Int32) → Option (Int32 × (Nat → Int32)), K = (fun v4_32 wq_shades_32 => some ((0 : Int32), wq_shades_32)) := ⟨_, rfl⟩
      have X_32 : ∀ (k_32 : Nat) (v4_32 : Int32) (wq_shades_32 : Nat → Int32) (H : Heap) (locs : List Loc) (ls : Array Slot), some R = K_32 v4_32 wq_shades_32 → va_P (dC, dI) classes [(aq, .inr (3, [.int zq_there, .int zq_allowed, .ref aq_shades])), (aq_shades, .inl (kq_shades, 10, .inl wq_shades_32)), (aw, .inr (1, [.ref aw_near])), (aw_near, .inl (kw_near, 11, .inl zw_near))] H → va_D A [(aq, .inr (3, [.int zq_there, .int zq_allowed, .ref aq_shades])), (aq_shades, .inl (kq_shades, 10, .inl wq_shades_32)), (aw, .inr (1, [.ref aw_near])), (aw_near, .inl (kw_near, 11, .inl zw_near))] → va_S A s.heap H locs → lv_has ls 5 [(0, .ref aq), (1, .ref aw), (2, .int v2), (3, .int v3), (4, .int v4_32)] → W p l e (headSpec w_Pal_paintFrom ({ frames := 8, cells := 0, slots := 0, locals := 189 })).room s m args below meth c H locs 0 0 (MQ below (va_Qi (fun (r : Int32) (u : (Nat → Int32)) => ((r, u) = R) ∧ z01 r) (fun u t => End_ dC dI A [(kq_shades, .int), (kw_near, .int)] [(aq, .inr (3, [.int zq_there, .int zq_allowed, .ref aq_shades])), (aq_shades, .inl (kq_shades, 10, .inl u)), (aw, .inr (1, [.ref aw_near])), (aw_near, .inl (kw_near, 11, .inl zw_near))] t) A) args s 0 0 A) (F0 m 103 ls []) := by
        intro k_32 v4_32 wq_shades_32 H locs ls hI hP hD hS hl
        rw [hK_32] at hI
        refine lv_iconst (v := 0) hx hb d_Pal_paintFrom_103 (by decide) ?_
        exact W.zret (v := 0) (ty := .boolean) hx hb hr (nr01 (Or.inl rfl)) (fun t ht hW => ⟨⟨0, (wq_shades_32), rfl, ⟨(Option.some.inj hI).symm, (Or.inl rfl)⟩, by rw [ht]; exact hP, va_K.moved hW.alike hK, hD⟩, hS.F ht⟩) hS.2.2 d_Pal_paintFrom_104
      have L_32 : ∀ (n_32 k_32 : Nat) (v4_32 : Int32) (wq_shades_32 : Nat → Int32) (H : Heap) (locs : List Loc) (ls : Array Slot), some R = F_paintFromR_L32 K_32 zq_there zq_allowed zw_near v2 v3 (F_paintFromR 6) n_32 v4_32 wq_shades_32 → va_P (dC, dI) classes [(aq, .inr (3, [.int zq_there, .int zq_allowed, .ref aq_shades])), (aq_shades, .inl (kq_shades, 10, .inl wq_shades_32)), (aw, .inr (1, [.ref aw_near])), (aw_near, .inl (kw_near, 11, .inl zw_near))] H → va_D A [(aq, .inr (3, [.int zq_there, .int zq_allowed, .ref aq_shades])), (aq_shades, .inl (kq_shades, 10, .inl wq_shades_32)), (aw, .inr (1, [.ref aw_near])), (aw_near, .inl (kw_near, 11, .inl zw_near))] → va_S A s.heap H locs → lv_has ls 5 [(0, .ref aq), (1, .ref aw), (2, .int v2), (3, .int v3), (4, .int v4_32)] → W p l e (headSpec w_Pal_paintFrom ({ frames := 8, cells := 0, slots := 0, locals := 189 })).room s m args below meth c H locs 0 0 (MQ below (va_Qi (fun (r : Int32) (u : (Nat → Int32)) => ((r, u) = R) ∧ z01 r) (fun u t => End_ dC dI A [(kq_shades, .int), (kw_near, .int)] [(aq, .inr (3, [.int zq_there, .int zq_allowed, .ref aq_shades])), (aq_shades, .inl (kq_shades, 10, .inl u)), (aw, .inr (1, [.ref aw_near])), (aw_near, .inl (kw_near, 11, .inl zw_near))] t) A) args s 0 0 A) (F0 m 32 ls []) := by
        intro n_32
        induction n_32 with
        | zero =>
          intro k_32 v4_32 wq_shades_32 H locs ls hI hP hD hS hl
          rw [F_paintFromR_L32] at hI
          exact absurd hI (ob_no _)
        | succ n_32 ih_32 =>
          intro k_32 v4_32 wq_shades_32 H locs ls hI hP hD hS hl
          rw [F_paintFromR_L32] at hI
          refine lv_iload hx hb d_Pal_paintFrom_32 (lv_at hl 4 rfl) ?_
          refine lv_iload_n hx hb d_Pal_paintFrom_34 rfl (lv_at hl 3 rfl) ?_
          refine lv_icmp_gt (tgt := 103) hx hb d_Pal_paintFrom_35 rfl (fun hc_35 => ?_) (fun hc_35 => ?_)
          · skip
            have hI := hI.trans (if_pos hc_35)
            have hl := lv_sub hl [0, 1, 2, 3, 4] rfl
            exact X_32 0 _ _ _ _ _ hI hP hD hS hl
          · skip
            have hI := hI.trans (if_neg hc_35)
            refine lv_iload hx hb d_Pal_paintFrom_38 (lv_at hl 4 rfl) ?_
            refine lv_aload_n hx hb d_Pal_paintFrom_40 rfl (lv_at hl 0 rfl) ?_
            refine va_get (D := (dC, dI)) (ci := 3) (v := .int zq_allowed) (C := R_Pal) (T := F_Pal) (N := 3) hx hb hts (fun w h => List.mem_cons_of_mem _ (in_Pal w h)) hown hK hP 0 rfl rfl 1 (by decide) (hts _ (List.mem_cons_of_mem _ mw_1_74)) (fun _ h9 => h9) rfl d_Pal_paintFrom_41 ?_
            refine lv_icmp_ge (tgt := 103) hx hb d_Pal_paintFrom_44 rfl (fun hc_44 => ?_) (fun hc_44 => ?_)
            · skip
              have hI := hI.trans (if_pos hc_44)
              have hl := lv_sub hl [0, 1, 2, 3, 4] rfl
              exact X_32 0 _ _ _ _ _ hI hP hD hS hl
            · skip
              have hI := hI.trans (if_neg hc_44)
              refine lv_aload_n hx hb d_Pal_paintFrom_47 rfl (lv_at hl 0 rfl) ?_
              refine lv_aload_n hx hb d_Pal_paintFrom_48 rfl (lv_at hl 1 rfl) ?_
              refine lv_iload hx hb d_Pal_paintFrom_49 (lv_at hl 4 rfl) ?_
              refine lv_iload_n hx hb d_Pal_paintFrom_51 rfl (lv_at hl 2 rfl) ?_
              obtain ⟨p_52, hg_52, hI⟩ := ob_bd hI
              have hPc := hP.sub (ws' := [(aq, .inr (3, [.int zq_there, .int zq_allowed, .ref aq_shades])), (aq_shades, .inl (kq_shades, 10, .inl wq_shades_32)), (aw, .inr (1, [.ref aw_near])), (aw_near, .inl (kw_near, 11, .inl zw_near))]) [0, 1, 2, 3] rfl
              have hDc := hD.sub (ws' := [(aq, .inr (3, [.int zq_there, .int zq_allowed, .ref aq_shades])), (aq_shades, .inl (kq_shades, 10, .inl wq_shades_32)), (aw, .inr (1, [.ref aw_near])), (aw_near, .inl (kw_near, 11, .inl zw_near))]) [0, 1, 2, 3] (by decide) rfl
              have hKc := hK.sub (tys' := [(kq_shades, .int), (kw_near, .int)]) [0, 1] rfl
              have hFc := va_free (wc := [(aq, .inr (3, [.int zq_there, .int zq_allowed, .ref aq_shades])), (aq_shades, .inl (kq_shades, 10, .inl wq_shades_32)), (aw, .inr (1, [.ref aw_near])), (aw_near, .inl (kw_near, 11, .inl zw_near))]) hD hS hA [0, 1, 2, 3] rfl
              refine va_calli (va_runV (As := [.ref aw, .int v4_32, .int v2]) (rest := []) ⟨hx, hb, hml, hown, hts⟩ (c_isFreeG l dC dI H.size aq aw aq_shades aw_near kq_shades kw_near zq_there zq_allowed wq_shades_32 zw_near v4_32 v2 p_52 hg_52) (cwV 3 hts (gi4 mw_2_39 mw_2_41 mw_p_19 mw_1_4 mw_2_42) rfl rfl rfl (by decide +kernel) ⟨Nat.le_of_ble_eq_true rfl, Nat.le_of_ble_eq_true rfl⟩) ⟨fb_, va_recv (q0 := 0) (ci := 3) hK hP rfl rfl, pre_ hPc hKc hDc hN⟩ rfl rfl hl.1 rfl (lv_room (Nat.le_of_ble_eq_true rfl)) d_Pal_paintFrom_52 ⟨Nat.le_of_ble_eq_true rfl, Nat.le_of_ble_eq_true rfl⟩) hS (fun q _ h => hFc q h) hFc (fun r_52 u t H locs ht hvm hp_52 hB hz1 hk1 hS => ?_)
              obtain ⟨hP1, -, hD1⟩ := hB
              rw [ht] at hP1
              obtain ⟨hP, hD⟩ := va_join (wr := []) (w1 := [(aq, .inr (3, [.int zq_there, .int zq_allowed, .ref aq_shades])), (aq_shades, .inl (kq_shades, 10, .inl wq_shades_32)), (aw, .inr (1, [.ref aw_near])), (aw_near, .inl (kw_near, 11, .inl zw_near))]) hP hD [0, 1, 2, 3] [] rfl rfl (by decide) (by decide) hk1 hFc hP1 hD1
              obtain ⟨hp_52, hz_52⟩ := hp_52
              have hp_52 : (r_52) = p_52 := hp_52
              subst hp_52
              have hP : va_P (dC, dI) classes [(aq, .inr (3, [.int zq_there, .int zq_allowed, .ref aq_shades])), (aq_shades, .inl (kq_shades, 10, .inl wq_shades_32)), (aw, .inr (1, [.ref aw_near])), (aw_near, .inl (kw_near, 11, .inl zw_near))] H := hP
              have hD : va_D A [(aq, .inr (3, [.int zq_there, .int zq_allowed, .ref aq_shades])), (aq_shades, .inl (kq_shades, 10, .inl wq_shades_32)), (aw, .inr (1, [.ref aw_near])), (aw_near, .inl (kw_near, 11, .inl zw_near))] := hD
              refine lv_if_eq (tgt := 97) hx hb d_Pal_paintFrom_55 rfl (fun hc_55 => ?_) (fun hc_55 => ?_)
              · skip
                have hI := hI.trans (if_pos hc_55)
                refine lv_iinc (lv' := [(4, .int (v4_32 + 1)), (0, .ref aq), (1, .ref aw), (2, .int v2), (3, .int v3)]) (k := 4) hx hb d_Pal_paintFrom_97 hl rfl (z_inc1 _) (by decide) rfl (fun ls hl => ?_)
                refine lv_goto (tgt := 32) hx hb d_Pal_paintFrom_100 rfl ?_
                have hl := lv_sub hl [1, 2, 3, 4, 0] rfl
                exact ih_32 0 _ _ _ _ _ hI hP hD hS hl
              · skip
                have hI := hI.trans (if_neg hc_55)
                refine lv_aload_n hx hb d_Pal_paintFrom_58 rfl (lv_at hl 0 rfl) ?_
                refine va_get (D := (dC, dI)) (ci := 3) (v := .ref aq_shades) (C := R_Pal) (T := F_Pal) (N := 3) hx hb hts (fun w h => List.mem_cons_of_mem _ (in_Pal w h)) hown hK hP 0 rfl rfl 2 (by decide) (hts _ (List.mem_cons_of_mem _ mw_1_75)) (fun _ h9 => h9) rfl d_Pal_paintFrom_59 ?_
                refine lv_iload_n hx hb d_Pal_paintFrom_62 rfl (lv_at hl 2 rfl) ?_
                refine lv_iload hx hb d_Pal_paintFrom_63 (lv_at hl 4 rfl) ?_
                have hi_65 := ob_in hI
                have hI := ob_th hI
                refine va_iast (D := (dC, dI)) hx hb hK hP hD hS 1 0 rfl rfl hi_65 d_Pal_paintFrom_65 (fun H locs hP hD hS => ?_)
                have hP : va_P (dC, dI) classes [(aq, .inr (3, [.int zq_there, .int zq_allowed, .ref aq_shades])), (aq_shades, .inl (kq_shades, 10, .inl (upd wq_shades_32 (Int32.toNatClampNeg v2) v4_32))), (aw, .inr (1, [.ref aw_near])), (aw_near, .inl (kw_near, 11, .inl zw_near))] H := hP
                have hD : va_D A [(aq, .inr (3, [.int zq_there, .int zq_allowed, .ref aq_shades])), (aq_shades, .inl (kq_shades, 10, .inl (upd wq_shades_32 (Int32.toNatClampNeg v2) v4_32))), (aw, .inr (1, [.ref aw_near])), (aw_near, .inl (kw_near, 11, .inl zw_near))] := hD
                refine lv_aload_n hx hb d_Pal_paintFrom_66 rfl (lv_at hl 0 rfl) ?_
                refine lv_aload_n hx hb d_Pal_paintFrom_67 rfl (lv_at hl 1 rfl) ?_
                refine lv_iload_n hx hb d_Pal_paintFrom_68 rfl (lv_at hl 2 rfl) ?_
                refine lv_iconst (v := 1) hx hb d_Pal_paintFrom_69 (by decide) ?_
                refine lv_iadd hx hb d_Pal_paintFrom_70 ?_
                refine lv_iload_n hx hb d_Pal_paintFrom_71 rfl (lv_at hl 3 rfl) ?_
                refine lv_iload hx hb d_Pal_paintFrom_72 (lv_at hl 4 rfl) ?_
                refine lv_iconst (v := 1) hx hb d_Pal_paintFrom_74 (by decide) ?_
                refine lv_iadd hx hb d_Pal_paintFrom_75 ?_
                refine va_mmax hx hb (hml.trans hl.1.symm) hown (hts _ (List.mem_cons_of_mem _ mw_2_44)) (hts _ (List.mem_cons_of_mem _ mw_2_45)) (hts _ (List.mem_cons_of_mem _ mw_1_15)) (hts _ (List.mem_cons_of_mem _ mw_2_46)) (Nat.le_of_ble_eq_true rfl) (Nat.le_of_ble_eq_true rfl) (Nat.le_of_ble_eq_true rfl) (Nat.le_of_ble_eq_true rfl) d_Pal_paintFrom_76 ?_
                obtain ⟨p_79, hg_79, hI⟩ := ob_bd hI
                have hPc := hP.sub (ws' := [(aq, .inr (3, [.int zq_there, .int zq_allowed, .ref aq_shades])), (aq_shades, .inl (kq_shades, 10, .inl (upd wq_shades_32 (Int32.toNatClampNeg v2) v4_32))), (aw, .inr (1, [.ref aw_near])), (aw_near, .inl (kw_near, 11, .inl zw_near))]) [0, 1, 2, 3] rfl
                have hDc := hD.sub (ws' := [(aq, .inr (3, [.int zq_there, .int zq_allowed, .ref aq_shades])), (aq_shades, .inl (kq_shades, 10, .inl (upd wq_shades_32 (Int32.toNatClampNeg v2) v4_32))), (aw, .inr (1, [.ref aw_near])), (aw_near, .inl (kw_near, 11, .inl zw_near))]) [0, 1, 2, 3] (by decide) rfl
                have hKc := hK.sub (tys' := [(kq_shades, .int), (kw_near, .int)]) [0, 1] rfl
                have hFc := va_free (wc := [(aq, .inr (3, [.int zq_there, .int zq_allowed, .ref aq_shades])), (aq_shades, .inl (kq_shades, 10, .inl (upd wq_shades_32 (Int32.toNatClampNeg v2) v4_32))), (aw, .inr (1, [.ref aw_near])), (aw_near, .inl (kw_near, 11, .inl zw_near))]) hD hS hA [0, 1, 2, 3] rfl
                refine va_calli (va_runV (As := [.ref aw, .int (v2 + 1), .int (if v3 < (v4_32 + 1) then (v4_32 + 1) else v3)]) (rest := []) ⟨hx, hb, hml, hown, hts⟩ (c_paintFrom_6 l dC dI H.size aq aw aq_shades aw_near kq_shades kw_near zq_there zq_allowed (upd wq_shades_32 (Int32.toNatClampNeg v2) v4_32) zw_near (v2 + 1) (if v3 < (v4_32 + 1) then (v4_32 + 1) else v3) p_79 hg_79) (cwV 3 hts (gi4 mw_2_34 mw_2_36 mw_p_18 mw_1_4 mw_2_37) rfl rfl rfl (by decide +kernel) ⟨Nat.le_of_ble_eq_true rfl, Nat.le_of_ble_eq_true rfl⟩) ⟨fb_, va_recv (q0 := 0) (ci := 3) hK hP rfl rfl, pre_ hPc hKc hDc hN⟩ rfl rfl hl.1 rfl (lv_room (Nat.le_of_ble_eq_true rfl)) d_Pal_paintFrom_79 ⟨Nat.le_of_ble_eq_true rfl, Nat.le_of_ble_eq_true rfl⟩) hS (fun q _ h => hFc q h) hFc (fun r_79 wq_shades_79 t H locs ht hvm hp_79 hB hz1 hk1 hS => ?_)
                obtain ⟨hP1, -, hD1⟩ := hB
                rw [ht] at hP1
                obtain ⟨hP, hD⟩ := va_join (wr := []) (w1 := [(aq, .inr (3, [.int zq_there, .int zq_allowed, .ref aq_shades])), (aq_shades, .inl (kq_shades, 10, .inl wq_shades_79)), (aw, .inr (1, [.ref aw_near])), (aw_near, .inl (kw_near, 11, .inl zw_near))]) hP hD [0, 1, 2, 3] [] rfl rfl (by decide) (by decide) hk1 hFc hP1 hD1
                obtain ⟨hp_79, hz_79⟩ := hp_79
                have hp_79 : (r_79, wq_shades_79) = p_79 := hp_79
                subst hp_79
                have hP : va_P (dC, dI) classes [(aq, .inr (3, [.int zq_there, .int zq_allowed, .ref aq_shades])), (aq_shades, .inl (kq_shades, 10, .inl wq_shades_79)), (aw, .inr (1, [.ref aw_near])), (aw_near, .inl (kw_near, 11, .inl zw_near))] H := hP
                have hD : va_D A [(aq, .inr (3, [.int zq_there, .int zq_allowed, .ref aq_shades])), (aq_shades, .inl (kq_shades, 10, .inl wq_shades_79)), (aw, .inr (1, [.ref aw_near])), (aw_near, .inl (kw_near, 11, .inl zw_near))] := hD
                refine lv_if_eq (tgt := 87) hx hb d_Pal_paintFrom_82 rfl (fun hc_82 => ?_) (fun hc_82 => ?_)
                · skip
                  have hI := hI.trans (if_pos hc_82)
                  refine lv_aload_n hx hb d_Pal_paintFrom_87 rfl (lv_at hl 1 rfl) ?_
                  refine lv_iload_n hx hb d_Pal_paintFrom_88 rfl (lv_at hl 2 rfl) ?_
                  obtain ⟨p_89, hg_89, hI⟩ := ob_bd hI
                  have hPc := hP.sub (ws' := [(aw, .inr (1, [.ref aw_near])), (aw_near, .inl (kw_near, 11, .inl zw_near))]) [2, 3] rfl
                  have hDc := hD.sub (ws' := [(aw, .inr (1, [.ref aw_near])), (aw_near, .inl (kw_near, 11, .inl zw_near))]) [2, 3] (by decide) rfl
                  have hKc := hK.sub (tys' := [(kw_near, .int)]) [1] rfl
                  have hFc := va_free (wc := [(aw, .inr (1, [.ref aw_near])), (aw_near, .inl (kw_near, 11, .inl zw_near))]) hD hS hA [2, 3] rfl
                  refine va_calli (va_runS (As := [.ref aw, .int v2]) (rest := []) ⟨hx, hb, hml, hown, hts⟩ (c_hasLaterG l dC dI H.size aw aw_near kw_near zw_near v2 p_89 hg_89) (cwS 2 hts (gi3 mw_2_47 mw_2_48 mw_1_4 mw_2_49) rfl rfl rfl (by decide +kernel) ⟨Nat.le_of_ble_eq_true rfl, Nat.le_of_ble_eq_true rfl⟩) ⟨fb_, pre_ hPc hKc hDc hN⟩ rfl rfl hl.1 rfl (lv_room (Nat.le_of_ble_eq_true rfl)) d_Pal_paintFrom_89 ⟨Nat.le_of_ble_eq_true rfl, Nat.le_of_ble_eq_true rfl⟩) hS (fun q _ h => hFc q h) hFc (fun r_89 u t H locs ht hvm hp_89 hB hz1 hk1 hS => ?_)
                  obtain ⟨hP1, -, hD1⟩ := hB
                  rw [ht] at hP1
                  obtain ⟨hP, hD⟩ := va_join (wr := [(aq, .inr (3, [.int zq_there, .int zq_allowed, .ref aq_shades])), (aq_shades, .inl (kq_shades, 10, .inl wq_shades_79))]) (w1 := [(aw, .inr (1, [.ref aw_near])), (aw_near, .inl (kw_near, 11, .inl zw_near))]) hP hD [2, 3] [0, 1] rfl rfl (by decide) (by decide) hk1 hFc hP1 hD1
                  obtain ⟨hp_89, hz_89⟩ := hp_89
                  have hp_89 : (r_89) = p_89 := hp_89
                  subst hp_89
                  have hP : va_P (dC, dI) classes [(aq, .inr (3, [.int zq_there, .int zq_allowed, .ref aq_shades])), (aq_shades, .inl (kq_shades, 10, .inl wq_shades_79)), (aw, .inr (1, [.ref aw_near])), (aw_near, .inl (kw_near, 11, .inl zw_near))] H := hP
                  have hD : va_D A [(aq, .inr (3, [.int zq_there, .int zq_allowed, .ref aq_shades])), (aq_shades, .inl (kq_shades, 10, .inl wq_shades_79)), (aw, .inr (1, [.ref aw_near])), (aw_near, .inl (kw_near, 11, .inl zw_near))] := hD
                  refine lv_if_ne (tgt := 97) hx hb d_Pal_paintFrom_92 rfl (fun hc_92 => ?_) (fun hc_92 => ?_)
                  · skip
                    have hI := hI.trans (if_neg hc_92)
                    refine lv_iinc (lv' := [(4, .int (v4_32 + 1)), (0, .ref aq), (1, .ref aw), (2, .int v2), (3, .int v3)]) (k := 4) hx hb d_Pal_paintFrom_97 hl rfl (z_inc1 _) (by decide) rfl (fun ls hl => ?_)
                    refine lv_goto (tgt := 32) hx hb d_Pal_paintFrom_100 rfl ?_
                    have hl := lv_sub hl [1, 2, 3, 4, 0] rfl
                    exact ih_32 0 _ _ _ _ _ hI hP hD hS hl
                  · skip
                    have hI := hI.trans (if_pos hc_92)
                    refine lv_iconst (v := 0) hx hb d_Pal_paintFrom_95 (by decide) ?_
                    exact W.zret (v := 0) (ty := .boolean) hx hb hr (nr01 (Or.inl rfl)) (fun t ht hW => ⟨⟨0, (wq_shades_79), rfl, ⟨(Option.some.inj hI).symm, (Or.inl rfl)⟩, by rw [ht]; exact hP, va_K.moved hW.alike hK, hD⟩, hS.F ht⟩) hS.2.2 d_Pal_paintFrom_96
                · skip
                  have hI := hI.trans (if_neg hc_82)
                  refine lv_iconst (v := 1) hx hb d_Pal_paintFrom_85 (by decide) ?_
                  exact W.zret (v := 1) (ty := .boolean) hx hb hr (nr01 (Or.inr rfl)) (fun t ht hW => ⟨⟨1, (wq_shades_79), rfl, ⟨(Option.some.inj hI).symm, (Or.inr rfl)⟩, by rw [ht]; exact hP, va_K.moved hW.alike hK, hD⟩, hS.F ht⟩) hS.2.2 d_Pal_paintFrom_86
      have hl : lv_has ls 5 [(0, .ref aq), (1, .ref aw), (2, .int v2), (3, .int v3), (4, .int 0)] := by first | exact lv_sub hl [1, 2, 3, 4, 0] rfl | (rw [nI_succ]; exact lv_sub hl [1, 2, 3, 4, 0] rfl)
      exact L_32 64 0 _ _ _ _ _ (by rw [hK_32]; exact hI) hP hD hS hl
    · skip
      have hI := hI.trans (if_pos hc_16)
      refine lv_aload_n hx hb d_Pal_paintFrom_19 rfl (lv_at hl 0 rfl) ?_
      refine lv_aload_n hx hb d_Pal_paintFrom_20 rfl (lv_at hl 1 rfl) ?_
      refine lv_iload_n hx hb d_Pal_paintFrom_21 rfl (lv_at hl 2 rfl) ?_
      refine lv_iconst (v := 1) hx hb d_Pal_paintFrom_22 (by decide) ?_
      refine lv_iadd hx hb d_Pal_paintFrom_23 ?_
      refine lv_iload_n hx hb d_Pal_paintFrom_24 rfl (lv_at hl 3 rfl) ?_
      obtain ⟨p_25, hg_25, hI⟩ := ob_bd hI
      have hPc := hP.sub (ws' := [(aq, .inr (3, [.int zq_there, .int zq_allowed, .ref aq_shades])), (aq_shades, .inl (kq_shades, 10, .inl zq_shades)), (aw, .inr (1, [.ref aw_near])), (aw_near, .inl (kw_near, 11, .inl zw_near))]) [0, 1, 2, 3] rfl
      have hDc := hD.sub (ws' := [(aq, .inr (3, [.int zq_there, .int zq_allowed, .ref aq_shades])), (aq_shades, .inl (kq_shades, 10, .inl zq_shades)), (aw, .inr (1, [.ref aw_near])), (aw_near, .inl (kw_near, 11, .inl zw_near))]) [0, 1, 2, 3] (by decide) rfl
      have hKc := hK.sub (tys' := [(kq_shades, .int), (kw_near, .int)]) [0, 1] rfl
      have hFc := va_free (wc := [(aq, .inr (3, [.int zq_there, .int zq_allowed, .ref aq_shades])), (aq_shades, .inl (kq_shades, 10, .inl zq_shades)), (aw, .inr (1, [.ref aw_near])), (aw_near, .inl (kw_near, 11, .inl zw_near))]) hD hS hA [0, 1, 2, 3] rfl
      refine va_calli (va_runV (As := [.ref aw, .int (v2 + 1), .int v3]) (rest := []) ⟨hx, hb, hml, hown, hts⟩ (c_paintFrom_6 l dC dI H.size aq aw aq_shades aw_near kq_shades kw_near zq_there zq_allowed zq_shades zw_near (v2 + 1) v3 p_25 hg_25) (cwV 3 hts (gi4 mw_2_34 mw_2_36 mw_p_18 mw_1_4 mw_2_37) rfl rfl rfl (by decide +kernel) ⟨Nat.le_of_ble_eq_true rfl, Nat.le_of_ble_eq_true rfl⟩) ⟨fb_, va_recv (q0 := 0) (ci := 3) hK hP rfl rfl, pre_ hPc hKc hDc hN⟩ rfl rfl hl.1 rfl (lv_room (Nat.le_of_ble_eq_true rfl)) d_Pal_paintFrom_25 ⟨Nat.le_of_ble_eq_true rfl, Nat.le_of_ble_eq_true rfl⟩) hS (fun q _ h => hFc q h) hFc (fun r_25 wq_shades_25 t H locs ht hvm hp_25 hB hz1 hk1 hS => ?_)
      obtain ⟨hP1, -, hD1⟩ := hB
      rw [ht] at hP1
      obtain ⟨hP, hD⟩ := va_join (wr := []) (w1 := [(aq, .inr (3, [.int zq_there, .int zq_allowed, .ref aq_shades])), (aq_shades, .inl (kq_shades, 10, .inl wq_shades_25)), (aw, .inr (1, [.ref aw_near])), (aw_near, .inl (kw_near, 11, .inl zw_near))]) hP hD [0, 1, 2, 3] [] rfl rfl (by decide) (by decide) hk1 hFc hP1 hD1
      obtain ⟨hp_25, hz_25⟩ := hp_25
      have hp_25 : (r_25, wq_shades_25) = p_25 := hp_25
      subst hp_25
      have hP : va_P (dC, dI) classes [(aq, .inr (3, [.int zq_there, .int zq_allowed, .ref aq_shades])), (aq_shades, .inl (kq_shades, 10, .inl wq_shades_25)), (aw, .inr (1, [.ref aw_near])), (aw_near, .inl (kw_near, 11, .inl zw_near))] H := hP
      have hD : va_D A [(aq, .inr (3, [.int zq_there, .int zq_allowed, .ref aq_shades])), (aq_shades, .inl (kq_shades, 10, .inl wq_shades_25)), (aw, .inr (1, [.ref aw_near])), (aw_near, .inl (kw_near, 11, .inl zw_near))] := hD
      exact W.zret (v := r_25) (ty := .boolean) hx hb hr (nr01 hz_25) (fun t ht hW => ⟨⟨r_25, (wq_shades_25), rfl, ⟨(Option.some.inj hI).symm, hz_25⟩, by rw [ht]; exact hP, va_K.moved hW.alike hK, hD⟩, hS.F ht⟩) hS.2.2 d_Pal_paintFrom_28
  · skip
    have hI := hI.trans (if_neg hc_3)
    refine lv_iconst (v := 1) hx hb d_Pal_paintFrom_6 (by decide) ?_
    exact W.zret (v := 1) (ty := .boolean) hx hb hr (nr01 (Or.inr rfl)) (fun t ht hW => ⟨⟨1, (zq_shades), rfl, ⟨(Option.some.inj hI).symm, (Or.inr rfl)⟩, by rw [ht]; exact hP, va_K.moved hW.alike hK, hD⟩, hS.F ht⟩) hS.2.2 d_Pal_paintFrom_7
set_option maxHeartbeats 4000000 in
set_option maxRecDepth 100000 in
theorem c_paintFrom_8 (l : Launch) (dC : Nat → ClassId) (dI : Nat → Nat → Nat) (sz : Nat) (aq aw aq_shades aw_near : Nat) (kq_shades kw_near : ClassId) (zq_there : Int32) (zq_allowed : Int32) (zq_shades : Nat → Int32) (zw_near : Nat → Int32) (v2 v3 : Int32) (R : Int32 × (Nat → Int32)) (hR : F_paintFromR 8 zq_there zq_allowed zq_shades zw_near v2 v3 = some R) : Met l y_Pal_paintFrom w_Pal_paintFrom ({ frames := 9, cells := 0, slots := 0, locals := 213 }) (Pre_ dC dI sz [.ref aq, .ref aw, .int v2, .int v3] [(aq, .inr (3, [.int zq_there, .int zq_allowed, .ref aq_shades])), (aq_shades, .inl (kq_shades, 10, .inl zq_shades)), (aw, .inr (1, [.ref aw_near])), (aw_near, .inl (kw_near, 11, .inl zw_near))] [(kq_shades, .int), (kw_near, .int)]) (va_Qi (fun (r : Int32) (u : (Nat → Int32)) => ((r, u) = R) ∧ z01 r) (fun u t => End_ dC dI (va_A [(aq, .inr (3, [.int zq_there, .int zq_allowed, .ref aq_shades])), (aq_shades, .inl (kq_shades, 10, .inl zq_shades)), (aw, .inr (1, [.ref aw_near])), (aw_near, .inl (kw_near, 11, .inl zw_near))] sz) [(kq_shades, .int), (kw_near, .int)] [(aq, .inr (3, [.int zq_there, .int zq_allowed, .ref aq_shades])), (aq_shades, .inl (kq_shades, 10, .inl u)), (aw, .inr (1, [.ref aw_near])), (aw_near, .inl (kw_near, 11, .inl zw_near))] t) (va_A [(aq, .inr (3, [.int zq_there, .int zq_allowed, .ref aq_shades])), (aq_shades, .inl (kq_shades, 10, .inl zq_shades)), (aw, .inr (1, [.ref aw_near])), (aw_near, .inl (kw_near, 11, .inl zw_near))] sz)) 0 0 (va_A [(aq, .inr (3, [.int zq_there, .int zq_allowed, .ref aq_shades])), (aq_shades, .inl (kq_shades, 10, .inl zq_shades)), (aw, .inr (1, [.ref aw_near])), (aw_near, .inl (kw_near, 11, .inl zw_near))] sz) := by
  refine Met.ofW (cc := b_Pal_paintFrom) (maxL := 5) (ret := (some .boolean)) (by decide) rfl ?_
  intro p e s m args below meth c s₁ B hml hv
  obtain ⟨hargs, hsz, hP, hK, hD0, hN⟩ := hv
  have hx := B.exec
  have hb := B.bytes
  have hr := B.returns
  have hts := atoms_spec (ws := w_Pal_paintFrom) B.pre
  have hown : s.vm.findClass R_Pal = some m.cls := findClass_of_methodNamed B.named
  have hlocks := B.notSynchronized
  subst hsz
  have hD := hD0.self (sz := s.heap.size)
  generalize hAe : va_A [(aq, .inr (3, [.int zq_there, .int zq_allowed, .ref aq_shades])), (aq_shades, .inl (kq_shades, 10, .inl zq_shades)), (aw, .inr (1, [.ref aw_near])), (aw_near, .inl (kw_near, 11, .inl zw_near))] s.heap.size = A at hD ⊢
  have hA : ∀ q : Nat, s.heap.size ≤ q → A q := fun q h => by rw [← hAe]; exact Or.inr h
  have hS : va_S A s.heap s.heap [] := va_S.rf
  have hl := lv_entry ([.ref aq, .ref aw, .int v2, .int v3]) (n := 5) (Nat.le_of_ble_eq_true rfl)
  refine W.eq (congrArg (fun a => entryFrame m a 5) hargs) ?_
  rw [lg_entry_eq]
  generalize (lg_sl ([.ref aq, .ref aw, .int v2, .int v3]) ++ List.replicate (5 - (lg_sl ([.ref aq, .ref aw, .int v2, .int v3])).length) Slot.unset).toArray = ls at hl ⊢
  have hl : lv_has ls 5 [(0, .ref aq), (1, .ref aw), (2, .int v2), (3, .int v3)] := hl
  generalize hH0 : ([] : List Loc) = locs at hS ⊢
  have hI := hR.symm
  rw [F_paintFromR] at hI
  refine lv_iload_n hx hb d_Pal_paintFrom_0 rfl (lv_at hl 2 rfl) ?_
  refine lv_bipush (v := 10) hx hb d_Pal_paintFrom_1 (by decide) ?_
  refine lv_icmp_lt (tgt := 8) hx hb d_Pal_paintFrom_3 rfl (fun hc_3 => ?_) (fun hc_3 => ?_)
  · skip
    have hI := hI.trans (if_pos hc_3)
    refine lv_aload_n hx hb d_Pal_paintFrom_8 rfl (lv_at hl 0 rfl) ?_
    refine va_get (D := (dC, dI)) (ci := 3) (v := .int zq_there) (C := R_Pal) (T := F_Pal) (N := 3) hx hb hts (fun w h => List.mem_cons_of_mem _ (in_Pal w h)) hown hK hP 0 rfl rfl 0 (by decide) (hts _ (List.mem_cons_of_mem _ mw_1_73)) (fun _ h9 => h9) rfl d_Pal_paintFrom_9 ?_
    refine lv_iload_n hx hb d_Pal_paintFrom_12 rfl (lv_at hl 2 rfl) ?_
    have hPc := hP.sub (ws' := []) [] rfl
    have hDc := hD.sub (ws' := []) [] (by decide) rfl
    have hKc := hK.sub (tys' := []) [] rfl
    have hFc := va_free (wc := []) hD hS hA [] rfl
    refine va_calli (va_runSN (As := [.int zq_there, .int v2]) (rest := []) ⟨hx, hb, hml, hown, hts⟩ (c_has l dC dI s.heap.size zq_there v2) (⟨va_cnB 2 hts (gi0 mw_1_150) rfl rfl rfl (hN (R_Pal, 26, y_PS_has, R_PS) (by decide +kernel)) (hts _ (List.mem_cons_of_mem _ mw_1_1)) (by decide +kernel) ⟨Nat.le_of_ble_eq_true rfl, Nat.le_of_ble_eq_true rfl⟩, hts _ (List.mem_cons_of_mem _ mw_1_149), trivial⟩) ⟨fb_, pre_ hPc hKc hDc hN⟩ rfl rfl hl.1 rfl (lv_room (Nat.le_of_ble_eq_true rfl)) d_Pal_paintFrom_13 ⟨Nat.le_of_ble_eq_true rfl, Nat.le_of_ble_eq_true rfl⟩) hS (fun q _ h => hFc q h) hFc (fun r_13 u t H locs ht hvm hp_13 hB hz1 hk1 hS => ?_)
    obtain ⟨hP1, -, hD1⟩ := hB
    rw [ht] at hP1
    obtain ⟨hP, hD⟩ := va_join (wr := [(aq, .inr (3, [.int zq_there, .int zq_allowed, .ref aq_shades])), (aq_shades, .inl (kq_shades, 10, .inl zq_shades)), (aw, .inr (1, [.ref aw_near])), (aw_near, .inl (kw_near, 11, .inl zw_near))]) (w1 := []) hP hD [] [0, 1, 2, 3] rfl rfl (by decide) (by decide) hk1 hFc hP1 hD1
    have hp_13 : r_13 = f_has zq_there v2 := hp_13
    subst hp_13
    have hP : va_P (dC, dI) classes [(aq, .inr (3, [.int zq_there, .int zq_allowed, .ref aq_shades])), (aq_shades, .inl (kq_shades, 10, .inl zq_shades)), (aw, .inr (1, [.ref aw_near])), (aw_near, .inl (kw_near, 11, .inl zw_near))] H := hP
    have hD : va_D A [(aq, .inr (3, [.int zq_there, .int zq_allowed, .ref aq_shades])), (aq_shades, .inl (kq_shades, 10, .inl zq_shades)), (aw, .inr (1, [.ref aw_near])), (aw_near, .inl (kw_near, 11, .inl zw_near))] := hD
    refine lv_if_ne (tgt := 29) hx hb d_Pal_paintFrom_16 rfl (fun hc_16 => ?_) (fun hc_16 => ?_)
    · skip
      have hI := hI.trans (if_neg hc_16)
      refine lv_iconst (v := 0) hx hb d_Pal_paintFrom_29 (by decide) ?_
      refine lv_istore (lv' := [(4, .int 0), (0, .ref aq), (1, .ref aw), (2, .int v2), (3, .int v3)]) hx hb d_Pal_paintFrom_30 hl (by decide) rfl (fun ls hl => ?_)
      obtain ⟨K_32, hK_32⟩ : ∃ K : Int32 → (Nat → Int32) → Option (Int32 × (Nat → Int32)), K = (fun v4_32 wq_shades_32 => some ((0 : Int32), wq_shades_32)) := ⟨_, rfl⟩
      have X_32 : ∀ (k_32 : Nat) (v4_32 : Int32) (wq_shades_32 : Nat → Int32) (H : Heap) (locs : List Loc) (ls : Array Slot), some R = K_32 v4_32 wq_shades_32 → va_P (dC, dI) classes [(aq, .inr (3, [.int zq_there, .int zq_allowed, .ref aq_shades])), (aq_shades, .inl (kq_shades, 10, .inl wq_shades_32)), (aw, .inr (1, [.ref aw_near])), (aw_near, .inl (kw_near, 11, .inl zw_near))] H → va_D A [(aq, .inr (3, [.int zq_there, .int zq_allowed, .ref aq_shades])), (aq_shades, .inl (kq_shades, 10, .inl wq_shades_32)), (aw, .inr (1, [.ref aw_near])), (aw_near, .inl (kw_near, 11, .inl zw_near))] → va_S A s.heap H locs → lv_has ls 5 [(0, .ref aq), (1, .ref aw), (2, .int v2), (3, .int v3), (4, .int v4_32)] → W p l e (headSpec w_Pal_paintFrom ({ frames := 9, cells := 0, slots := 0, locals := 213 })).room s m args below meth c H locs 0 0 (MQ below (va_Qi (fun (r : Int32) (u : (Nat → Int32)) => ((r, u) = R) ∧ z01 r) (fun u t => End_ dC dI A [(kq_shades, .int), (kw_near, .int)] [(aq, .inr (3, [.int zq_there, .int zq_allowed, .ref aq_shades])), (aq_shades, .inl (kq_shades, 10, .inl u)), (aw, .inr (1, [.ref aw_near])), (aw_near, .inl (kw_near, 11, .inl zw_near))] t) A) args s 0 0 A) (F0 m 103 ls []) := by
        intro k_32 v4_32 wq_shades_32 H locs ls hI hP hD hS hl
        rw [hK_32] at hI
        refine lv_iconst (v := 0) hx hb d_Pal_paintFrom_103 (by decide) ?_
        exact W.zret (v := 0) (ty := .boolean) hx hb hr (nr01 (Or.inl rfl)) (fun t ht hW => ⟨⟨0, (wq_shades_32), rfl, ⟨(Option.some.inj hI).symm, (Or.inl rfl)⟩, by rw [ht]; exact hP, va_K.moved hW.alike hK, hD⟩, hS.F ht⟩) hS.2.2 d_Pal_paintFrom_104
      have L_32 : ∀ (n_32 k_32 : Nat) (v4_32 : Int32) (wq_shades_32 : Nat → Int32) (H : Heap) (locs : List Loc) (ls : Array Slot), some R = F_paintFromR_L32 K_32 zq_there zq_allowed zw_near v2 v3 (F_paintFromR 7) n_32 v4_32 wq_shades_32 → va_P (dC, dI) classes [(aq, .inr (3, [.int zq_there, .int zq_allowed, .ref aq_shades])), (aq_shades, .inl (kq_shades, 10, .inl wq_shades_32)), (aw, .inr (1, [.ref aw_near])), (aw_near, .inl (kw_near, 11, .inl zw_near))] H → va_D A [(aq, .inr (3, [.int zq_there, .int zq_allowed, .ref aq_shades])), (aq_shades, .inl (kq_shades, 10, .inl wq_shades_32)), (aw, .inr (1, [.ref aw_near])), (aw_near, .inl (kw_near, 11, .inl zw_near))] → va_S A s.heap H locs → lv_has ls 5 [(0, .ref aq), (1, .ref aw), (2, .int v2), (3, .int v3), (4, .int v4_32)] → W p l e (headSpec w_Pal_paintFrom ({ frames := 9, cells := 0, slots := 0, locals := 213 })).room s m args below meth c H locs 0 0 (MQ below (va_Qi (fun (r : Int32) (u : (Nat → Int32)) => ((r, u) = R) ∧ z01 r) (fun u t => End_ dC dI A [(kq_shades, .int), (kw_near, .int)] [(aq, .inr (3, [.int zq_there, .int zq_allowed, .ref aq_shades])), (aq_shades, .inl (kq_shades, 10, .inl u)), (aw, .inr (1, [.ref aw_near])), (aw_near, .inl (kw_near, 11, .inl zw_near))] t) A) args s 0 0 A) (F0 m 32 ls []) := by
        intro n_32
        induction n_32 with
        | zero =>
          intro k_32 v4_32 wq_shades_32 H locs ls hI hP hD hS hl
          rw [F_paintFromR_L32] at hI
          exact absurd hI (ob_no _)
        | succ n_32 ih_32 =>
          intro k_32 v4_32 wq_shades_32 H locs ls hI hP hD hS hl
          rw [F_paintFromR_L32] at hI
          refine lv_iload hx hb d_Pal_paintFrom_32 (lv_at hl 4 rfl) ?_
          refine lv_iload_n hx hb d_Pal_paintFrom_34 rfl (lv_at hl 3 rfl) ?_
          refine lv_icmp_gt (tgt := 103) hx hb d_Pal_paintFrom_35 rfl (fun hc_35 => ?_) (fun hc_35 => ?_)
          · skip
            have hI := hI.trans (if_pos hc_35)
            have hl := lv_sub hl [0, 1, 2, 3, 4] rfl
            exact X_32 0 _ _ _ _ _ hI hP hD hS hl
          · skip
            have hI := hI.trans (if_neg hc_35)
            refine lv_iload hx hb d_Pal_paintFrom_38 (lv_at hl 4 rfl) ?_
            refine lv_aload_n hx hb d_Pal_paintFrom_40 rfl (lv_at hl 0 rfl) ?_
            refine va_get (D := (dC, dI)) (ci := 3) (v := .int zq_allowed) (C := R_Pal) (T := F_Pal) (N := 3) hx hb hts (fun w h => List.mem_cons_of_mem _ (in_Pal w h)) hown hK hP 0 rfl rfl 1 (by decide) (hts _ (List.mem_cons_of_mem _ mw_1_74)) (fun _ h9 => h9) rfl d_Pal_paintFrom_41 ?_
            refine lv_icmp_ge (tgt := 103) hx hb d_Pal_paintFrom_44 rfl (fun hc_44 => ?_) (fun hc_44 => ?_)
            · skip
              have hI := hI.trans (if_pos hc_44)
              have hl := lv_sub hl [0, 1, 2, 3, 4] rfl
              exact X_32 0 _ _ _ _ _ hI hP hD hS hl
            · skip
              have hI := hI.trans (if_neg hc_44)
              refine lv_aload_n hx hb d_Pal_paintFrom_47 rfl (lv_at hl 0 rfl) ?_
              refine lv_aload_n hx hb d_Pal_paintFrom_48 rfl (lv_at hl 1 rfl) ?_
              refine lv_iload hx hb d_Pal_paintFrom_49 (lv_at hl 4 rfl) ?_
              refine lv_iload_n hx hb d_Pal_paintFrom_51 rfl (lv_at hl 2 rfl) ?_
              obtain ⟨p_52, hg_52, hI⟩ := ob_bd hI
              have hPc := hP.sub (ws' := [(aq, .inr (3, [.int zq_there, .int zq_allowed, .ref aq_shades])), (aq_shades, .inl (kq_shades, 10, .inl wq_shades_32)), (aw, .inr (1, [.ref aw_near])), (aw_near, .inl (kw_near, 11, .inl zw_near))]) [0, 1, 2, 3] rfl
              have hDc := hD.sub (ws' := [(aq, .inr (3, [.int zq_there, .int zq_allowed, .ref aq_shades])), (aq_shades, .inl (kq_shades, 10, .inl wq_shades_32)), (aw, .inr (1, [.ref aw_near])), (aw_near, .inl (kw_near, 11, .inl zw_near))]) [0, 1, 2, 3] (by decide) rfl
              have hKc := hK.sub (tys' := [(kq_shades, .int), (kw_near, .int)]) [0, 1] rfl
              have hFc := va_free (wc := [(aq, .inr (3, [.int zq_there, .int zq_allowed, .ref aq_shades])), (aq_shades, .inl (kq_shades, 10, .inl wq_shades_32)), (aw, .inr (1, [.ref aw_near])), (aw_near, .inl (kw_near, 11, .inl zw_near))]) hD hS hA [0, 1, 2, 3] rfl
              refine va_calli (va_runV (As := [.ref aw, .int v4_32, .int v2]) (rest := []) ⟨hx, hb, hml, hown, hts⟩ (c_isFreeG l dC dI H.size aq aw aq_shades aw_near kq_shades kw_near zq_there zq_allowed wq_shades_32 zw_near v4_32 v2 p_52 hg_52) (cwV 3 hts (gi4 mw_2_39 mw_2_41 mw_p_19 mw_1_4 mw_2_42) rfl rfl rfl (by decide +kernel) ⟨Nat.le_of_ble_eq_true rfl, Nat.le_of_ble_eq_true rfl⟩) ⟨fb_, va_recv (q0 := 0) (ci := 3) hK hP rfl rfl, pre_ hPc hKc hDc hN⟩ rfl rfl hl.1 rfl (lv_room (Nat.le_of_ble_eq_true rfl)) d_Pal_paintFrom_52 ⟨Nat.le_of_ble_eq_true rfl, Nat.le_of_ble_eq_true rfl⟩) hS (fun q _ h => hFc q h) hFc (fun r_52 u t H locs ht hvm hp_52 hB hz1 hk1 hS => ?_)
              obtain ⟨hP1, -, hD1⟩ := hB
              rw [ht] at hP1
              obtain ⟨hP, hD⟩ := va_join (wr := []) (w1 := [(aq, .inr (3, [.int zq_there, .int zq_allowed, .ref aq_shades])), (aq_shades, .inl (kq_shades, 10, .inl wq_shades_32)), (aw, .inr (1, [.ref aw_near])), (aw_near, .inl (kw_near, 11, .inl zw_near))]) hP hD [0, 1, 2, 3] [] rfl rfl (by decide) (by decide) hk1 hFc hP1 hD1
              obtain ⟨hp_52, hz_52⟩ := hp_52
              have hp_52 : (r_52) = p_52 := hp_52
              subst hp_52
              have hP : va_P (dC, dI) classes [(aq, .inr (3, [.int zq_there, .int zq_allowed, .ref aq_shades])), (aq_shades, .inl (kq_shades, 10, .inl wq_shades_32)), (aw, .inr (1, [.ref aw_near])), (aw_near, .inl (kw_near, 11, .inl zw_near))] H := hP
              have hD : va_D A [(aq, .inr (3, [.int zq_there, .int zq_allowed, .ref aq_shades])), (aq_shades, .inl (kq_shades, 10, .inl wq_shades_32)), (aw, .inr (1, [.ref aw_near])), (aw_near, .inl (kw_near, 11, .inl zw_near))] := hD
              refine lv_if_eq (tgt := 97) hx hb d_Pal_paintFrom_55 rfl (fun hc_55 => ?_) (fun hc_55 => ?_)
              · skip
                have hI := hI.trans (if_pos hc_55)
                refine lv_iinc (lv' := [(4, .int (v4_32 + 1)), (0, .ref aq), (1, .ref aw), (2, .int v2), (3, .int v3)]) (k := 4) hx hb d_Pal_paintFrom_97 hl rfl (z_inc1 _) (by decide) rfl (fun ls hl => ?_)
                refine lv_goto (tgt := 32) hx hb d_Pal_paintFrom_100 rfl ?_
                have hl := lv_sub hl [1, 2, 3, 4, 0] rfl
                exact ih_32 0 _ _ _ _ _ hI hP hD hS hl
              · skip
                have hI := hI.trans (if_neg hc_55)
                refine lv_aload_n hx hb d_Pal_paintFrom_58 rfl (lv_at hl 0 rfl) ?_
                refine va_get (D := (dC, dI)) (ci := 3) (v := .ref aq_shades) (C := R_Pal) (T := F_Pal) (N := 3) hx hb hts (fun w h => List.mem_cons_of_mem _ (in_Pal w h)) hown hK hP 0 rfl rfl 2 (by decide) (hts _ (List.mem_cons_of_mem _ mw_1_75)) (fun _ h9 => h9) rfl d_Pal_paintFrom_59 ?_
                refine lv_iload_n hx hb d_Pal_paintFrom_62 rfl (lv_at hl 2 rfl) ?_
                refine lv_iload hx hb d_Pal_paintFrom_63 (lv_at hl 4 rfl) ?_
                have hi_65 := ob_in hI
                have hI := ob_th hI
                refine va_iast (D := (dC, dI)) hx hb hK hP hD hS 1 0 rfl rfl hi_65 d_Pal_paintFrom_65 (fun H locs hP hD hS => ?_)
                have hP : va_P (dC, dI) classes [(aq, .inr (3, [.int zq_there, .int zq_allowed, .ref aq_shades])), (aq_shades, .inl (kq_shades, 10, .inl (upd wq_shades_32 (Int32.toNatClampNeg v2) v4_32))), (aw, .inr (1, [.ref aw_near])), (aw_near, .inl (kw_near, 11, .inl zw_near))] H := hP
                have hD : va_D A [(aq, .inr (3, [.int zq_there, .int zq_allowed, .ref aq_shades])), (aq_shades, .inl (kq_shades, 10, .inl (upd wq_shades_32 (Int32.toNatClampNeg v2) v4_32))), (aw, .inr (1, [.ref aw_near])), (aw_near, .inl (kw_near, 11, .inl zw_near))] := hD
                refine lv_aload_n hx hb d_Pal_paintFrom_66 rfl (lv_at hl 0 rfl) ?_
                refine lv_aload_n hx hb d_Pal_paintFrom_67 rfl (lv_at hl 1 rfl) ?_
                refine lv_iload_n hx hb d_Pal_paintFrom_68 rfl (lv_at hl 2 rfl) ?_
                refine lv_iconst (v := 1) hx hb d_Pal_paintFrom_69 (by decide) ?_
                refine lv_iadd hx hb d_Pal_paintFrom_70 ?_
                refine lv_iload_n hx hb d_Pal_paintFrom_71 rfl (lv_at hl 3 rfl) ?_
                refine lv_iload hx hb d_Pal_paintFrom_72 (lv_at hl 4 rfl) ?_
                refine lv_iconst (v := 1) hx hb d_Pal_paintFrom_74 (by decide) ?_
                refine lv_iadd hx hb d_Pal_paintFrom_75 ?_
                refine va_mmax hx hb (hml.trans hl.1.symm) hown (hts _ (List.mem_cons_of_mem _ mw_2_44)) (hts _ (List.mem_cons_of_mem _ mw_2_45)) (hts _ (List.mem_cons_of_mem _ mw_1_15)) (hts _ (List.mem_cons_of_mem _ mw_2_46)) (Nat.le_of_ble_eq_true rfl) (Nat.le_of_ble_eq_true rfl) (Nat.le_of_ble_eq_true rfl) (Nat.le_of_ble_eq_true rfl) d_Pal_paintFrom_76 ?_
                obtain ⟨p_79, hg_79, hI⟩ := ob_bd hI
                have hPc := hP.sub (ws' := [(aq, .inr (3, [.int zq_there, .int zq_allowed, .ref aq_shades])), (aq_shades, .inl (kq_shades, 10, .inl (upd wq_shades_32 (Int32.toNatClampNeg v2) v4_32))), (aw, .inr (1, [.ref aw_near])), (aw_near, .inl (kw_near, 11, .inl zw_near))]) [0, 1, 2, 3] rfl
                have hDc := hD.sub (ws' := [(aq, .inr (3, [.int zq_there, .int zq_allowed, .ref aq_shades])), (aq_shades, .inl (kq_shades, 10, .inl (upd wq_shades_32 (Int32.toNatClampNeg v2) v4_32))), (aw, .inr (1, [.ref aw_near])), (aw_near, .inl (kw_near, 11, .inl zw_near))]) [0, 1, 2, 3] (by decide) rfl
                have hKc := hK.sub (tys' := [(kq_shades, .int), (kw_near, .int)]) [0, 1] rfl
                have hFc := va_free (wc := [(aq, .inr (3, [.int zq_there, .int zq_allowed, .ref aq_shades])), (aq_shades, .inl (kq_shades, 10, .inl (upd wq_shades_32 (Int32.toNatClampNeg v2) v4_32))), (aw, .inr (1, [.ref aw_near])), (aw_near, .inl (kw_near, 11, .inl zw_near))]) hD hS hA [0, 1, 2, 3] rfl
                refine va_calli (va_runV (As := [.ref aw, .int (v2 + 1), .int (if v3 < (v4_32 + 1) then (v4_32 + 1) else v3)]) (rest := []) ⟨hx, hb, hml, hown, hts⟩ (c_paintFrom_7 l dC dI H.size aq aw aq_shades aw_near kq_shades kw_near zq_there zq_allowed (upd wq_shades_32 (Int32.toNatClampNeg v2) v4_32) zw_near (v2 + 1) (if v3 < (v4_32 + 1) then (v4_32 + 1) else v3) p_79 hg_79) (cwV 3 hts (gi4 mw_2_34 mw_2_36 mw_p_18 mw_1_4 mw_2_37) rfl rfl rfl (by decide +kernel) ⟨Nat.le_of_ble_eq_true rfl, Nat.le_of_ble_eq_true rfl⟩) ⟨fb_, va_recv (q0 := 0) (ci := 3) hK hP rfl rfl, pre_ hPc hKc hDc hN⟩ rfl rfl hl.1 rfl (lv_room (Nat.le_of_ble_eq_true rfl)) d_Pal_paintFrom_79 ⟨Nat.le_of_ble_eq_true rfl, Nat.le_of_ble_eq_true rfl⟩) hS (fun q _ h => hFc q h) hFc (fun r_79 wq_shades_79 t H locs ht hvm hp_79 hB hz1 hk1 hS => ?_)
                obtain ⟨hP1, -, hD1⟩ := hB
                rw [ht] at hP1
                obtain ⟨hP, hD⟩ := va_join (wr := []) (w1 := [(aq, .inr (3, [.int zq_there, .int zq_allowed, .ref aq_shades])), (aq_shades, .inl (kq_shades, 10, .inl wq_shades_79)), (aw, .inr (1, [.ref aw_near])), (aw_near, .inl (kw_near, 11, .inl zw_near))]) hP hD [0, 1, 2, 3] [] rfl rfl (by decide) (by decide) hk1 hFc hP1 hD1
                obtain ⟨hp_79, hz_79⟩ := hp_79
                have hp_79 : (r_79, wq_shades_79) = p_79 := hp_79
                subst hp_79
                have hP : va_P (dC, dI) classes [(aq, .inr (3, [.int zq_there, .int zq_allowed, .ref aq_shades])), (aq_shades, .inl (kq_shades, 10, .inl wq_shades_79)), (aw, .inr (1, [.ref aw_near])), (aw_near, .inl (kw_near, 11, .inl zw_near))] H := hP
                have hD : va_D A [(aq, .inr (3, [.int zq_there, .int zq_allowed, .ref aq_shades])), (aq_shades, .inl (kq_shades, 10, .inl wq_shades_79)), (aw, .inr (1, [.ref aw_near])), (aw_near, .inl (kw_near, 11, .inl zw_near))] := hD
                refine lv_if_eq (tgt := 87) hx hb d_Pal_paintFrom_82 rfl (fun hc_82 => ?_) (fun hc_82 => ?_)
                · skip
                  have hI := hI.trans (if_pos hc_82)
                  refine lv_aload_n hx hb d_Pal_paintFrom_87 rfl (lv_at hl 1 rfl) ?_
                  refine lv_iload_n hx hb d_Pal_paintFrom_88 rfl (lv_at hl 2 rfl) ?_
                  obtain ⟨p_89, hg_89, hI⟩ := ob_bd hI
                  have hPc := hP.sub (ws' := [(aw, .inr (1, [.ref aw_near])), (aw_near, .inl (kw_near, 11, .inl zw_near))]) [2, 3] rfl
                  have hDc := hD.sub (ws' := [(aw, .inr (1, [.ref aw_near])), (aw_near, .inl (kw_near, 11, .inl zw_near))]) [2, 3] (by decide) rfl
                  have hKc := hK.sub (tys' := [(kw_near, .int)]) [1] rfl
                  have hFc := va_free (wc := [(aw, .inr (1, [.ref aw_near])), (aw_near, .inl (kw_near, 11, .inl zw_near))]) hD hS hA [2, 3] rfl
                  refine va_calli (va_runS (As := [.ref aw, .int v2]) (rest := []) ⟨hx, hb, hml, hown, hts⟩ (c_hasLaterG l dC dI H.size aw aw_near kw_near zw_near v2 p_89 hg_89) (cwS 2 hts (gi3 mw_2_47 mw_2_48 mw_1_4 mw_2_49) rfl rfl rfl (by decide +kernel) ⟨Nat.le_of_ble_eq_true rfl, Nat.le_of_ble_eq_true rfl⟩) ⟨fb_, pre_ hPc hKc hDc hN⟩ rfl rfl hl.1 rfl (lv_room (Nat.le_of_ble_eq_true rfl)) d_Pal_paintFrom_89 ⟨Nat.le_of_ble_eq_true rfl, Nat.le_of_ble_eq_true rfl⟩) hS (fun q _ h => hFc q h) hFc (fun r_89 u t H locs ht hvm hp_89 hB hz1 hk1 hS => ?_)
                  obtain ⟨hP1, -, hD1⟩ := hB
                  rw [ht] at hP1
                  obtain ⟨hP, hD⟩ := va_join (wr := [(aq, .inr (3, [.int zq_there, .int zq_allowed, .ref aq_shades])), (aq_shades, .inl (kq_shades, 10, .inl wq_shades_79))]) (w1 := [(aw, .inr (1, [.ref aw_near])), (aw_near, .inl (kw_near, 11, .inl zw_near))]) hP hD [2, 3] [0, 1] rfl rfl (by decide) (by decide) hk1 hFc hP1 hD1
                  obtain ⟨hp_89, hz_89⟩ := hp_89
                  have hp_89 : (r_89) = p_89 := hp_89
                  subst hp_89
                  have hP : va_P (dC, dI) classes [(aq, .inr (3, [.int zq_there, .int zq_allowed, .ref aq_shades])), (aq_shades, .inl (kq_shades, 10, .inl wq_shades_79)), (aw, .inr (1, [.ref aw_near])), (aw_near, .inl (kw_near, 11, .inl zw_near))] H := hP
                  have hD : va_D A [(aq, .inr (3, [.int zq_there, .int zq_allowed, .ref aq_shades])), (aq_shades, .inl (kq_shades, 10, .inl wq_shades_79)), (aw, .inr (1, [.ref aw_near])), (aw_near, .inl (kw_near, 11, .inl zw_near))] := hD
                  refine lv_if_ne (tgt := 97) hx hb d_Pal_paintFrom_92 rfl (fun hc_92 => ?_) (fun hc_92 => ?_)
                  · skip
                    have hI := hI.trans (if_neg hc_92)
                    refine lv_iinc (lv' := [(4, .int (v4_32 + 1)), (0, .ref aq), (1, .ref aw), (2, .int v2), (3, .int v3)]) (k := 4) hx hb d_Pal_paintFrom_97 hl rfl (z_inc1 _) (by decide) rfl (fun ls hl => ?_)
                    refine lv_goto (tgt := 32) hx hb d_Pal_paintFrom_100 rfl ?_
                    have hl := lv_sub hl [1, 2, 3, 4, 0] rfl
                    exact ih_32 0 _ _ _ _ _ hI hP hD hS hl
                  · skip
                    have hI := hI.trans (if_pos hc_92)
                    refine lv_iconst (v := 0) hx hb d_Pal_paintFrom_95 (by decide) ?_
                    exact W.zret (v := 0) (ty := .boolean) hx hb hr (nr01 (Or.inl rfl)) (fun t ht hW => ⟨⟨0, (wq_shades_79), rfl, ⟨(Option.some.inj hI).symm, (Or.inl rfl)⟩, by rw [ht]; exact hP, va_K.moved hW.alike hK, hD⟩, hS.F ht⟩) hS.2.2 d_Pal_paintFrom_96
                · skip
                  have hI := hI.trans (if_neg hc_82)
                  refine lv_iconst (v := 1) hx hb d_Pal_paintFrom_85 (by decide) ?_
                  exact W.zret (v := 1) (ty := .boolean) hx hb hr (nr01 (Or.inr rfl)) (fun t ht hW => ⟨⟨1, (wq_shades_79), rfl, ⟨(Option.some.inj hI).symm, (Or.inr rfl)⟩, by rw [ht]; exact hP, va_K.moved hW.alike hK, hD⟩, hS.F ht⟩) hS.2.2 d_Pal_paintFrom_86
      have hl : lv_has ls 5 [(0, .ref aq), (1, .ref aw), (2, .int v2), (3, .int v3), (4, .int 0)] := by first | exact lv_sub hl [1, 2, 3, 4, 0] rfl | (rw [nI_succ]; exact lv_sub hl [1, 2, 3, 4, 0] rfl)
      exact L_32 64 0 _ _ _ _ _ (by rw [hK_32]; exact hI) hP hD hS hl
    · skip
      have hI := hI.trans (if_pos hc_16)
      refine lv_aload_n hx hb d_Pal_paintFrom_19 rfl (lv_at hl 0 rfl) ?_
      refine lv_aload_n hx hb d_Pal_paintFrom_20 rfl (lv_at hl 1 rfl) ?_
      refine lv_iload_n hx hb d_Pal_paintFrom_21 rfl (lv_at hl 2 rfl) ?_
      refine lv_iconst (v := 1) hx hb d_Pal_paintFrom_22 (by decide) ?_
      refine lv_iadd hx hb d_Pal_paintFrom_23 ?_
      refine lv_iload_n hx hb d_Pal_paintFrom_24 rfl (lv_at hl 3 rfl) ?_
      obtain ⟨p_25, hg_25, hI⟩ := ob_bd hI
      have hPc := hP.sub (ws' := [(aq, .inr (3, [.int zq_there, .int zq_allowed, .ref aq_shades])), (aq_shades, .inl (kq_shades, 10, .inl zq_shades)), (aw, .inr (1, [.ref aw_near])), (aw_near, .inl (kw_near, 11, .inl zw_near))]) [0, 1, 2, 3] rfl
      have hDc := hD.sub (ws' := [(aq, .inr (3, [.int zq_there, .int zq_allowed, .ref aq_shades])), (aq_shades, .inl (kq_shades, 10, .inl zq_shades)), (aw, .inr (1, [.ref aw_near])), (aw_near, .inl (kw_near, 11, .inl zw_near))]) [0, 1, 2, 3] (by decide) rfl
      have hKc := hK.sub (tys' := [(kq_shades, .int), (kw_near, .int)]) [0, 1] rfl
      have hFc := va_free (wc := [(aq, .inr (3, [.int zq_there, .int zq_allowed, .ref aq_shades])), (aq_shades, .inl (kq_shades, 10, .inl zq_shades)), (aw, .inr (1, [.ref aw_near])), (aw_near, .inl (kw_near, 11, .inl zw_near))]) hD hS hA [0, 1, 2, 3] rfl
      refine va_calli (va_runV (As := [.ref aw, .int (v2 + 1), .int v3]) (rest := []) ⟨hx, hb, hml, hown, hts⟩ (c_paintFrom_7 l dC dI H.size aq aw aq_shades aw_near kq_shades kw_near zq_there zq_allowed zq_shades zw_near (v2 + 1) v3 p_25 hg_25) (cwV 3 hts (gi4 mw_2_34 mw_2_36 mw_p_18 mw_1_4 mw_2_37) rfl rfl rfl (by decide +kernel) ⟨Nat.le_of_ble_eq_true rfl, Nat.le_of_ble_eq_true rfl⟩) ⟨fb_, va_recv (q0 := 0) (ci := 3) hK hP rfl rfl, pre_ hPc hKc hDc hN⟩ rfl rfl hl.1 rfl (lv_room (Nat.le_of_ble_eq_true rfl)) d_Pal_paintFrom_25 ⟨Nat.le_of_ble_eq_true rfl, Nat.le_of_ble_eq_true rfl⟩) hS (fun q _ h => hFc q h) hFc (fun r_25 wq_shades_25 t H locs ht hvm hp_25 hB hz1 hk1 hS => ?_)
      obtain ⟨hP1, -, hD1⟩ := hB
      rw [ht] at hP1
      obtain ⟨hP, hD⟩ := va_join (wr := []) (w1 := [(aq, .inr (3, [.int zq_there, .int zq_allowed, .ref aq_shades])), (aq_shades, .inl (kq_shades, 10, .inl wq_shades_25)), (aw, .inr (1, [.ref aw_near])), (aw_near, .inl (kw_near, 11, .inl zw_near))]) hP hD [0, 1, 2, 3] [] rfl rfl (by decide) (by decide) hk1 hFc hP1 hD1
      obtain ⟨hp_25, hz_25⟩ := hp_25
      have hp_25 : (r_25, wq_shades_25) = p_25 := hp_25
      subst hp_25
      have hP : va_P (dC, dI) classes [(aq, .inr (3, [.int zq_there, .int zq_allowed, .ref aq_shades])), (aq_shades, .inl (kq_shades, 10, .inl wq_shades_25)), (aw, .inr (1, [.ref aw_near])), (aw_near, .inl (kw_near, 11, .inl zw_near))] H := hP
      have hD : va_D A [(aq, .inr (3, [.int zq_there, .int zq_allowed, .ref aq_shades])), (aq_shades, .inl (kq_shades, 10, .inl wq_shades_25)), (aw, .inr (1, [.ref aw_near])), (aw_near, .inl (kw_near, 11, .inl zw_near))] := hD
      exact W.zret (v := r_25) (ty := .boolean) hx hb hr (nr01 hz_25) (fun t ht hW => ⟨⟨r_25, (wq_shades_25), rfl, ⟨(Option.some.inj hI).symm, hz_25⟩, by rw [ht]; exact hP, va_K.moved hW.alike hK, hD⟩, hS.F ht⟩) hS.2.2 d_Pal_paintFrom_28
  · skip
    have hI := hI.trans (if_neg hc_3)
    refine lv_iconst (v := 1) hx hb d_Pal_paintFrom_6 (by decide) ?_
    exact W.zret (v := 1) (ty := .boolean) hx hb hr (nr01 (Or.inr rfl)) (fun t ht hW => ⟨⟨1, (zq_shades), rfl, ⟨(Option.some.inj hI).symm, (Or.inr rfl)⟩, by rw [ht]; exact hP, va_K.moved hW.alike hK, hD⟩, hS.F ht⟩) hS.2.2 d_Pal_paintFrom_7
set_option maxHeartbeats 4000000 in
set_option maxRecDepth 100000 in
theorem c_paintFrom_9 (l : Launch) (dC : Nat → ClassId) (dI : Nat → Nat → Nat) (sz : Nat) (aq aw aq_shades aw_near : Nat) (kq_shades kw_near : ClassId) (zq_there : Int32) (zq_allowed : Int32) (zq_shades : Nat → Int32) (zw_near : Nat → Int32) (v2 v3 : Int32) (R : Int32 × (Nat → Int32)) (hR : F_paintFromR 9 zq_there zq_allowed zq_shades zw_near v2 v3 = some R) : Met l y_Pal_paintFrom w_Pal_paintFrom ({ frames := 10, cells := 0, slots := 0, locals := 237 }) (Pre_ dC dI sz [.ref aq, .ref aw, .int v2, .int v3] [(aq, .inr (3, [.int zq_there, .int zq_allowed, .ref aq_shades])), (aq_shades, .inl (kq_shades, 10, .inl zq_shades)), (aw, .inr (1, [.ref aw_near])), (aw_near, .inl (kw_near, 11, .inl zw_near))] [(kq_shades, .int), (kw_near, .int)]) (va_Qi (fun (r : Int32) (u : (Nat → Int32)) => ((r, u) = R) ∧ z01 r) (fun u t => End_ dC dI (va_A [(aq, .inr (3, [.int zq_there, .int zq_allowed, .ref aq_shades])), (aq_shades, .inl (kq_shades, 10, .inl zq_shades)), (aw, .inr (1, [.ref aw_near])), (aw_near, .inl (kw_near, 11, .inl zw_near))] sz) [(kq_shades, .int), (kw_near, .int)] [(aq, .inr (3, [.int zq_there, .int zq_allowed, .ref aq_shades])), (aq_shades, .inl (kq_shades, 10, .inl u)), (aw, .inr (1, [.ref aw_near])), (aw_near, .inl (kw_near, 11, .inl zw_near))] t) (va_A [(aq, .inr (3, [.int zq_there, .int zq_allowed, .ref aq_shades])), (aq_shades, .inl (kq_shades, 10, .inl zq_shades)), (aw, .inr (1, [.ref aw_near])), (aw_near, .inl (kw_near, 11, .inl zw_near))] sz)) 0 0 (va_A [(aq, .inr (3, [.int zq_there, .int zq_allowed, .ref aq_shades])), (aq_shades, .inl (kq_shades, 10, .inl zq_shades)), (aw, .inr (1, [.ref aw_near])), (aw_near, .inl (kw_near, 11, .inl zw_near))] sz) := by
  refine Met.ofW (cc := b_Pal_paintFrom) (maxL := 5) (ret := (some .boolean)) (by decide) rfl ?_
  intro p e s m args below meth c s₁ B hml hv
  obtain ⟨hargs, hsz, hP, hK, hD0, hN⟩ := hv
  have hx := B.exec
  have hb := B.bytes
  have hr := B.returns
  have hts := atoms_spec (ws := w_Pal_paintFrom) B.pre
  have hown : s.vm.findClass R_Pal = some m.cls := findClass_of_methodNamed B.named
  have hlocks := B.notSynchronized
  subst hsz
  have hD := hD0.self (sz := s.heap.size)
  generalize hAe : va_A [(aq, .inr (3, [.int zq_there, .int zq_allowed, .ref aq_shades])), (aq_shades, .inl (kq_shades, 10, .inl zq_shades)), (aw, .inr (1, [.ref aw_near])), (aw_near, .inl (kw_near, 11, .inl zw_near))] s.heap.size = A at hD ⊢
  have hA : ∀ q : Nat, s.heap.size ≤ q → A q := fun q h => by rw [← hAe]; exact Or.inr h
  have hS : va_S A s.heap s.heap [] := va_S.rf
  have hl := lv_entry ([.ref aq, .ref aw, .int v2, .int v3]) (n := 5) (Nat.le_of_ble_eq_true rfl)
  refine W.eq (congrArg (fun a => entryFrame m a 5) hargs) ?_
  rw [lg_entry_eq]
  generalize (lg_sl ([.ref aq, .ref aw, .int v2, .int v3]) ++ List.replicate (5 - (lg_sl ([.ref aq, .ref aw, .int v2, .int v3])).length) Slot.unset).toArray = ls at hl ⊢
  have hl : lv_has ls 5 [(0, .ref aq), (1, .ref aw), (2, .int v2), (3, .int v3)] := hl
  generalize hH0 : ([] : List Loc) = locs at hS ⊢
  have hI := hR.symm
  rw [F_paintFromR] at hI
  refine lv_iload_n hx hb d_Pal_paintFrom_0 rfl (lv_at hl 2 rfl) ?_
  refine lv_bipush (v := 10) hx hb d_Pal_paintFrom_1 (by decide) ?_
  refine lv_icmp_lt (tgt := 8) hx hb d_Pal_paintFrom_3 rfl (fun hc_3 => ?_) (fun hc_3 => ?_)
  · skip
    have hI := hI.trans (if_pos hc_3)
    refine lv_aload_n hx hb d_Pal_paintFrom_8 rfl (lv_at hl 0 rfl) ?_
    refine va_get (D := (dC, dI)) (ci := 3) (v := .int zq_there) (C := R_Pal) (T := F_Pal) (N := 3) hx hb hts (fun w h => List.mem_cons_of_mem _ (in_Pal w h)) hown hK hP 0 rfl rfl 0 (by decide) (hts _ (List.mem_cons_of_mem _ mw_1_73)) (fun _ h9 => h9) rfl d_Pal_paintFrom_9 ?_
    refine lv_iload_n hx hb d_Pal_paintFrom_12 rfl (lv_at hl 2 rfl) ?_
    have hPc := hP.sub (ws' := []) [] rfl
    have hDc := hD.sub (ws' := []) [] (by decide) rfl
    have hKc := hK.sub (tys' := []) [] rfl
    have hFc := va_free (wc := []) hD hS hA [] rfl
    refine va_calli (va_runSN (As := [.int zq_there, .int v2]) (rest := []) ⟨hx, hb, hml, hown, hts⟩ (c_has l dC dI s.heap.size zq_there v2) (⟨va_cnB 2 hts (gi0 mw_1_150) rfl rfl rfl (hN (R_Pal, 26, y_PS_has, R_PS) (by decide +kernel)) (hts _ (List.mem_cons_of_mem _ mw_1_1)) (by decide +kernel) ⟨Nat.le_of_ble_eq_true rfl, Nat.le_of_ble_eq_true rfl⟩, hts _ (List.mem_cons_of_mem _ mw_1_149), trivial⟩) ⟨fb_, pre_ hPc hKc hDc hN⟩ rfl rfl hl.1 rfl (lv_room (Nat.le_of_ble_eq_true rfl)) d_Pal_paintFrom_13 ⟨Nat.le_of_ble_eq_true rfl, Nat.le_of_ble_eq_true rfl⟩) hS (fun q _ h => hFc q h) hFc (fun r_13 u t H locs ht hvm hp_13 hB hz1 hk1 hS => ?_)
    obtain ⟨hP1, -, hD1⟩ := hB
    rw [ht] at hP1
    obtain ⟨hP, hD⟩ := va_join (wr := [(aq, .inr (3, [.int zq_there, .int zq_allowed, .ref aq_shades])), (aq_shades, .inl (kq_shades, 10, .inl zq_shades)), (aw, .inr (1, [.ref aw_near])), (aw_near, .inl (kw_near, 11, .inl zw_near))]) (w1 := []) hP hD [] [0, 1, 2, 3] rfl rfl (by decide) (by decide) hk1 hFc hP1 hD1
    have hp_13 : r_13 = f_has zq_there v2 := hp_13
    subst hp_13
    have hP : va_P (dC, dI) classes [(aq, .inr (3, [.int zq_there, .int zq_allowed, .ref aq_shades])), (aq_shades, .inl (kq_shades, 10, .inl zq_shades)), (aw, .inr (1, [.ref aw_near])), (aw_near, .inl (kw_near, 11, .inl zw_near))] H := hP
    have hD : va_D A [(aq, .inr (3, [.int zq_there, .int zq_allowed, .ref aq_shades])), (aq_shades, .inl (kq_shades, 10, .inl zq_shades)), (aw, .inr (1, [.ref aw_near])), (aw_near, .inl (kw_near, 11, .inl zw_near))] := hD
    refine lv_if_ne (tgt := 29) hx hb d_Pal_paintFrom_16 rfl (fun hc_16 => ?_) (fun hc_16 => ?_)
    · skip
      have hI := hI.trans (if_neg hc_16)
      refine lv_iconst (v := 0) hx hb d_Pal_paintFrom_29 (by decide) ?_
      refine lv_istore (lv' := [(4, .int 0), (0, .ref aq), (1, .ref aw), (2, .int v2), (3, .int v3)]) hx hb d_Pal_paintFrom_30 hl (by decide) rfl (fun ls hl => ?_)
      obtain ⟨K_32, hK_32⟩ : ∃ K : Int32 → (Nat → Int32) → Option (Int32 × (Nat → Int32)), K = (fun v4_32 wq_shades_32 => some ((0 : Int32), wq_shades_32)) := ⟨_, rfl⟩
      have X_32 : ∀ (k_32 : Nat) (v4_32 : Int32) (wq_shades_32 : Nat → Int32) (H : Heap) (locs : List Loc) (ls : Array Slot), some R = K_32 v4_32 wq_shades_32 → va_P (dC, dI) classes [(aq, .inr (3, [.int zq_there, .int zq_allowed, .ref aq_shades])), (aq_shades, .inl (kq_shades, 10, .inl wq_shades_32)), (aw, .inr (1, [.ref aw_near])), (aw_near, .inl (kw_near, 11, .inl zw_near))] H → va_D A [(aq, .inr (3, [.int zq_there, .int zq_allowed, .ref aq_shades])), (aq_shades, .inl (kq_shades, 10, .inl wq_shades_32)), (aw, .inr (1, [.ref aw_near])), (aw_near, .inl (kw_near, 11, .inl zw_near))] → va_S A s.heap H locs → lv_has ls 5 [(0, .ref aq), (1, .ref aw), (2, .int v2), (3, .int v3), (4, .int v4_32)] → W p l e (headSpec w_Pal_paintFrom ({ frames := 10, cells := 0, slots := 0, locals := 237 })).room s m args below meth c H locs 0 0 (MQ below (va_Qi (fun (r : Int32) (u : (Nat → Int32)) => ((r, u) = R) ∧ z01 r) (fun u t => End_ dC dI A [(kq_shades, .int), (kw_near, .int)] [(aq, .inr (3, [.int zq_there, .int zq_allowed, .ref aq_shades])), (aq_shades, .inl (kq_shades, 10, .inl u)), (aw, .inr (1, [.ref aw_near])), (aw_near, .inl (kw_near, 11, .inl zw_near))] t) A) args s 0 0 A) (F0 m 103 ls []) := by
        intro k_32 v4_32 wq_shades_32 H locs ls hI hP hD hS hl
        rw [hK_32] at hI
        refine lv_iconst (v := 0) hx hb d_Pal_paintFrom_103 (by decide) ?_
        exact W.zret (v := 0) (ty := .boolean) hx hb hr (nr01 (Or.inl rfl)) (fun t ht hW => ⟨⟨0, (wq_shades_32), rfl, ⟨(Option.some.inj hI).symm, (Or.inl rfl)⟩, by rw [ht]; exact hP, va_K.moved hW.alike hK, hD⟩, hS.F ht⟩) hS.2.2 d_Pal_paintFrom_104
      have L_32 : ∀ (n_32 k_32 : Nat) (v4_32 : Int32) (wq_shades_32 : Nat → Int32) (H : Heap) (locs : List Loc) (ls : Array Slot), some R = F_paintFromR_L32 K_32 zq_there zq_allowed zw_near v2 v3 (F_paintFromR 8) n_32 v4_32 wq_shades_32 → va_P (dC, dI) classes [(aq, .inr (3, [.int zq_there, .int zq_allowed, .ref aq_shades])), (aq_shades, .inl (kq_shades, 10, .inl wq_shades_32)), (aw, .inr (1, [.ref aw_near])), (aw_near, .inl (kw_near, 11, .inl zw_near))] H → va_D A [(aq, .inr (3, [.int zq_there, .int zq_allowed, .ref aq_shades])), (aq_shades, .inl (kq_shades, 10, .inl wq_shades_32)), (aw, .inr (1, [.ref aw_near])), (aw_near, .inl (kw_near, 11, .inl zw_near))] → va_S A s.heap H locs → lv_has ls 5 [(0, .ref aq), (1, .ref aw), (2, .int v2), (3, .int v3), (4, .int v4_32)] → W p l e (headSpec w_Pal_paintFrom ({ frames := 10, cells := 0, slots := 0, locals := 237 })).room s m args below meth c H locs 0 0 (MQ below (va_Qi (fun (r : Int32) (u : (Nat → Int32)) => ((r, u) = R) ∧ z01 r) (fun u t => End_ dC dI A [(kq_shades, .int), (kw_near, .int)] [(aq, .inr (3, [.int zq_there, .int zq_allowed, .ref aq_shades])), (aq_shades, .inl (kq_shades, 10, .inl u)), (aw, .inr (1, [.ref aw_near])), (aw_near, .inl (kw_near, 11, .inl zw_near))] t) A) args s 0 0 A) (F0 m 32 ls []) := by
        intro n_32
        induction n_32 with
        | zero =>
          intro k_32 v4_32 wq_shades_32 H locs ls hI hP hD hS hl
          rw [F_paintFromR_L32] at hI
          exact absurd hI (ob_no _)
        | succ n_32 ih_32 =>
          intro k_32 v4_32 wq_shades_32 H locs ls hI hP hD hS hl
          rw [F_paintFromR_L32] at hI
          refine lv_iload hx hb d_Pal_paintFrom_32 (lv_at hl 4 rfl) ?_
          refine lv_iload_n hx hb d_Pal_paintFrom_34 rfl (lv_at hl 3 rfl) ?_
          refine lv_icmp_gt (tgt := 103) hx hb d_Pal_paintFrom_35 rfl (fun hc_35 => ?_) (fun hc_35 => ?_)
          · skip
            have hI := hI.trans (if_pos hc_35)
            have hl := lv_sub hl [0, 1, 2, 3, 4] rfl
            exact X_32 0 _ _ _ _ _ hI hP hD hS hl
          · skip
            have hI := hI.trans (if_neg hc_35)
            refine lv_iload hx hb d_Pal_paintFrom_38 (lv_at hl 4 rfl) ?_
            refine lv_aload_n hx hb d_Pal_paintFrom_40 rfl (lv_at hl 0 rfl) ?_
            refine va_get (D := (dC, dI)) (ci := 3) (v := .int zq_allowed) (C := R_Pal) (T := F_Pal) (N := 3) hx hb hts (fun w h => List.mem_cons_of_mem _ (in_Pal w h)) hown hK hP 0 rfl rfl 1 (by decide) (hts _ (List.mem_cons_of_mem _ mw_1_74)) (fun _ h9 => h9) rfl d_Pal_paintFrom_41 ?_
            refine lv_icmp_ge (tgt := 103) hx hb d_Pal_paintFrom_44 rfl (fun hc_44 => ?_) (fun hc_44 => ?_)
            · skip
              have hI := hI.trans (if_pos hc_44)
              have hl := lv_sub hl [0, 1, 2, 3, 4] rfl
              exact X_32 0 _ _ _ _ _ hI hP hD hS hl
            · skip
              have hI := hI.trans (if_neg hc_44)
              refine lv_aload_n hx hb d_Pal_paintFrom_47 rfl (lv_at hl 0 rfl) ?_
              refine lv_aload_n hx hb d_Pal_paintFrom_48 rfl (lv_at hl 1 rfl) ?_
              refine lv_iload hx hb d_Pal_paintFrom_49 (lv_at hl 4 rfl) ?_
              refine lv_iload_n hx hb d_Pal_paintFrom_51 rfl (lv_at hl 2 rfl) ?_
              obtain ⟨p_52, hg_52, hI⟩ := ob_bd hI
              have hPc := hP.sub (ws' := [(aq, .inr (3, [.int zq_there, .int zq_allowed, .ref aq_shades])), (aq_shades, .inl (kq_shades, 10, .inl wq_shades_32)), (aw, .inr (1, [.ref aw_near])), (aw_near, .inl (kw_near, 11, .inl zw_near))]) [0, 1, 2, 3] rfl
              have hDc := hD.sub (ws' := [(aq, .inr (3, [.int zq_there, .int zq_allowed, .ref aq_shades])), (aq_shades, .inl (kq_shades, 10, .inl wq_shades_32)), (aw, .inr (1, [.ref aw_near])), (aw_near, .inl (kw_near, 11, .inl zw_near))]) [0, 1, 2, 3] (by decide) rfl
              have hKc := hK.sub (tys' := [(kq_shades, .int), (kw_near, .int)]) [0, 1] rfl
              have hFc := va_free (wc := [(aq, .inr (3, [.int zq_there, .int zq_allowed, .ref aq_shades])), (aq_shades, .inl (kq_shades, 10, .inl wq_shades_32)), (aw, .inr (1, [.ref aw_near])), (aw_near, .inl (kw_near, 11, .inl zw_near))]) hD hS hA [0, 1, 2, 3] rfl
              refine va_calli (va_runV (As := [.ref aw, .int v4_32, .int v2]) (rest := []) ⟨hx, hb, hml, hown, hts⟩ (c_isFreeG l dC dI H.size aq aw aq_shades aw_near kq_shades kw_near zq_there zq_allowed wq_shades_32 zw_near v4_32 v2 p_52 hg_52) (cwV 3 hts (gi4 mw_2_39 mw_2_41 mw_p_19 mw_1_4 mw_2_42) rfl rfl rfl (by decide +kernel) ⟨Nat.le_of_ble_eq_true rfl, Nat.le_of_ble_eq_true rfl⟩) ⟨fb_, va_recv (q0 := 0) (ci := 3) hK hP rfl rfl, pre_ hPc hKc hDc hN⟩ rfl rfl hl.1 rfl (lv_room (Nat.le_of_ble_eq_true rfl)) d_Pal_paintFrom_52 ⟨Nat.le_of_ble_eq_true rfl, Nat.le_of_ble_eq_true rfl⟩) hS (fun q _ h => hFc q h) hFc (fun r_52 u t H locs ht hvm hp_52 hB hz1 hk1 hS => ?_)
              obtain ⟨hP1, -, hD1⟩ := hB
              rw [ht] at hP1
              obtain ⟨hP, hD⟩ := va_join (wr := []) (w1 := [(aq, .inr (3, [.int zq_there, .int zq_allowed, .ref aq_shades])), (aq_shades, .inl (kq_shades, 10, .inl wq_shades_32)), (aw, .inr (1, [.ref aw_near])), (aw_near, .inl (kw_near, 11, .inl zw_near))]) hP hD [0, 1, 2, 3] [] rfl rfl (by decide) (by decide) hk1 hFc hP1 hD1
              obtain ⟨hp_52, hz_52⟩ := hp_52
              have hp_52 : (r_52) = p_52 := hp_52
              subst hp_52
              have hP : va_P (dC, dI) classes [(aq, .inr (3, [.int zq_there, .int zq_allowed, .ref aq_shades])), (aq_shades, .inl (kq_shades, 10, .inl wq_shades_32)), (aw, .inr (1, [.ref aw_near])), (aw_near, .inl (kw_near, 11, .inl zw_near))] H := hP
              have hD : va_D A [(aq, .inr (3, [.int zq_there, .int zq_allowed, .ref aq_shades])), (aq_shades, .inl (kq_shades, 10, .inl wq_shades_32)), (aw, .inr (1, [.ref aw_near])), (aw_near, .inl (kw_near, 11, .inl zw_near))] := hD
              refine lv_if_eq (tgt := 97) hx hb d_Pal_paintFrom_55 rfl (fun hc_55 => ?_) (fun hc_55 => ?_)
              · skip
                have hI := hI.trans (if_pos hc_55)
                refine lv_iinc (lv' := [(4, .int (v4_32 + 1)), (0, .ref aq), (1, .ref aw), (2, .int v2), (3, .int v3)]) (k := 4) hx hb d_Pal_paintFrom_97 hl rfl (z_inc1 _) (by decide) rfl (fun ls hl => ?_)
                refine lv_goto (tgt := 32) hx hb d_Pal_paintFrom_100 rfl ?_
                have hl := lv_sub hl [1, 2, 3, 4, 0] rfl
                exact ih_32 0 _ _ _ _ _ hI hP hD hS hl
              · skip
                have hI := hI.trans (if_neg hc_55)
                refine lv_aload_n hx hb d_Pal_paintFrom_58 rfl (lv_at hl 0 rfl) ?_
                refine va_get (D := (dC, dI)) (ci := 3) (v := .ref aq_shades) (C := R_Pal) (T := F_Pal) (N := 3) hx hb hts (fun w h => List.mem_cons_of_mem _ (in_Pal w h)) hown hK hP 0 rfl rfl 2 (by decide) (hts _ (List.mem_cons_of_mem _ mw_1_75)) (fun _ h9 => h9) rfl d_Pal_paintFrom_59 ?_
                refine lv_iload_n hx hb d_Pal_paintFrom_62 rfl (lv_at hl 2 rfl) ?_
                refine lv_iload hx hb d_Pal_paintFrom_63 (lv_at hl 4 rfl) ?_
                have hi_65 := ob_in hI
                have hI := ob_th hI
                refine va_iast (D := (dC, dI)) hx hb hK hP hD hS 1 0 rfl rfl hi_65 d_Pal_paintFrom_65 (fun H locs hP hD hS => ?_)
                have hP : va_P (dC, dI) classes [(aq, .inr (3, [.int zq_there, .int zq_allowed, .ref aq_shades])), (aq_shades, .inl (kq_shades, 10, .inl (upd wq_shades_32 (Int32.toNatClampNeg v2) v4_32))), (aw, .inr (1, [.ref aw_near])), (aw_near, .inl (kw_near, 11, .inl zw_near))] H := hP
                have hD : va_D A [(aq, .inr (3, [.int zq_there, .int zq_allowed, .ref aq_shades])), (aq_shades, .inl (kq_shades, 10, .inl (upd wq_shades_32 (Int32.toNatClampNeg v2) v4_32))), (aw, .inr (1, [.ref aw_near])), (aw_near, .inl (kw_near, 11, .inl zw_near))] := hD
                refine lv_aload_n hx hb d_Pal_paintFrom_66 rfl (lv_at hl 0 rfl) ?_
                refine lv_aload_n hx hb d_Pal_paintFrom_67 rfl (lv_at hl 1 rfl) ?_
                refine lv_iload_n hx hb d_Pal_paintFrom_68 rfl (lv_at hl 2 rfl) ?_
                refine lv_iconst (v := 1) hx hb d_Pal_paintFrom_69 (by decide) ?_
                refine lv_iadd hx hb d_Pal_paintFrom_70 ?_
                refine lv_iload_n hx hb d_Pal_paintFrom_71 rfl (lv_at hl 3 rfl) ?_
                refine lv_iload hx hb d_Pal_paintFrom_72 (lv_at hl 4 rfl) ?_
                refine lv_iconst (v := 1) hx hb d_Pal_paintFrom_74 (by decide) ?_
                refine lv_iadd hx hb d_Pal_paintFrom_75 ?_
                refine va_mmax hx hb (hml.trans hl.1.symm) hown (hts _ (List.mem_cons_of_mem _ mw_2_44)) (hts _ (List.mem_cons_of_mem _ mw_2_45)) (hts _ (List.mem_cons_of_mem _ mw_1_15)) (hts _ (List.mem_cons_of_mem _ mw_2_46)) (Nat.le_of_ble_eq_true rfl) (Nat.le_of_ble_eq_true rfl) (Nat.le_of_ble_eq_true rfl) (Nat.le_of_ble_eq_true rfl) d_Pal_paintFrom_76 ?_
                obtain ⟨p_79, hg_79, hI⟩ := ob_bd hI
                have hPc := hP.sub (ws' := [(aq, .inr (3, [.int zq_there, .int zq_allowed, .ref aq_shades])), (aq_shades, .inl (kq_shades, 10, .inl (upd wq_shades_32 (Int32.toNatClampNeg v2) v4_32))), (aw, .inr (1, [.ref aw_near])), (aw_near, .inl (kw_near, 11, .inl zw_near))]) [0, 1, 2, 3] rfl
                have hDc := hD.sub (ws' := [(aq, .inr (3, [.int zq_there, .int zq_allowed, .ref aq_shades])), (aq_shades, .inl (kq_shades, 10, .inl (upd wq_shades_32 (Int32.toNatClampNeg v2) v4_32))), (aw, .inr (1, [.ref aw_near])), (aw_near, .inl (kw_near, 11, .inl zw_near))]) [0, 1, 2, 3] (by decide) rfl
                have hKc := hK.sub (tys' := [(kq_shades, .int), (kw_near, .int)]) [0, 1] rfl
                have hFc := va_free (wc := [(aq, .inr (3, [.int zq_there, .int zq_allowed, .ref aq_shades])), (aq_shades, .inl (kq_shades, 10, .inl (upd wq_shades_32 (Int32.toNatClampNeg v2) v4_32))), (aw, .inr (1, [.ref aw_near])), (aw_near, .inl (kw_near, 11, .inl zw_near))]) hD hS hA [0, 1, 2, 3] rfl
                refine va_calli (va_runV (As := [.ref aw, .int (v2 + 1), .int (if v3 < (v4_32 + 1) then (v4_32 + 1) else v3)]) (rest := []) ⟨hx, hb, hml, hown, hts⟩ (c_paintFrom_8 l dC dI H.size aq aw aq_shades aw_near kq_shades kw_near zq_there zq_allowed (upd wq_shades_32 (Int32.toNatClampNeg v2) v4_32) zw_near (v2 + 1) (if v3 < (v4_32 + 1) then (v4_32 + 1) else v3) p_79 hg_79) (cwV 3 hts (gi4 mw_2_34 mw_2_36 mw_p_18 mw_1_4 mw_2_37) rfl rfl rfl (by decide +kernel) ⟨Nat.le_of_ble_eq_true rfl, Nat.le_of_ble_eq_true rfl⟩) ⟨fb_, va_recv (q0 := 0) (ci := 3) hK hP rfl rfl, pre_ hPc hKc hDc hN⟩ rfl rfl hl.1 rfl (lv_room (Nat.le_of_ble_eq_true rfl)) d_Pal_paintFrom_79 ⟨Nat.le_of_ble_eq_true rfl, Nat.le_of_ble_eq_true rfl⟩) hS (fun q _ h => hFc q h) hFc (fun r_79 wq_shades_79 t H locs ht hvm hp_79 hB hz1 hk1 hS => ?_)
                obtain ⟨hP1, -, hD1⟩ := hB
                rw [ht] at hP1
                obtain ⟨hP, hD⟩ := va_join (wr := []) (w1 := [(aq, .inr (3, [.int zq_there, .int zq_allowed, .ref aq_shades])), (aq_shades, .inl (kq_shades, 10, .inl wq_shades_79)), (aw, .inr (1, [.ref aw_near])), (aw_near, .inl (kw_near, 11, .inl zw_near))]) hP hD [0, 1, 2, 3] [] rfl rfl (by decide) (by decide) hk1 hFc hP1 hD1
                obtain ⟨hp_79, hz_79⟩ := hp_79
                have hp_79 : (r_79, wq_shades_79) = p_79 := hp_79
                subst hp_79
                have hP : va_P (dC, dI) classes [(aq, .inr (3, [.int zq_there, .int zq_allowed, .ref aq_shades])), (aq_shades, .inl (kq_shades, 10, .inl wq_shades_79)), (aw, .inr (1, [.ref aw_near])), (aw_near, .inl (kw_near, 11, .inl zw_near))] H := hP
                have hD : va_D A [(aq, .inr (3, [.int zq_there, .int zq_allowed, .ref aq_shades])), (aq_shades, .inl (kq_shades, 10, .inl wq_shades_79)), (aw, .inr (1, [.ref aw_near])), (aw_near, .inl (kw_near, 11, .inl zw_near))] := hD
                refine lv_if_eq (tgt := 87) hx hb d_Pal_paintFrom_82 rfl (fun hc_82 => ?_) (fun hc_82 => ?_)
                · skip
                  have hI := hI.trans (if_pos hc_82)
                  refine lv_aload_n hx hb d_Pal_paintFrom_87 rfl (lv_at hl 1 rfl) ?_
                  refine lv_iload_n hx hb d_Pal_paintFrom_88 rfl (lv_at hl 2 rfl) ?_
                  obtain ⟨p_89, hg_89, hI⟩ := ob_bd hI
                  have hPc := hP.sub (ws' := [(aw, .inr (1, [.ref aw_near])), (aw_near, .inl (kw_near, 11, .inl zw_near))]) [2, 3] rfl
                  have hDc := hD.sub (ws' := [(aw, .inr (1, [.ref aw_near])), (aw_near, .inl (kw_near, 11, .inl zw_near))]) [2, 3] (by decide) rfl
                  have hKc := hK.sub (tys' := [(kw_near, .int)]) [1] rfl
                  have hFc := va_free (wc := [(aw, .inr (1, [.ref aw_near])), (aw_near, .inl (kw_near, 11, .inl zw_near))]) hD hS hA [2, 3] rfl
                  refine va_calli (va_runS (As := [.ref aw, .int v2]) (rest := []) ⟨hx, hb, hml, hown, hts⟩ (c_hasLaterG l dC dI H.size aw aw_near kw_near zw_near v2 p_89 hg_89) (cwS 2 hts (gi3 mw_2_47 mw_2_48 mw_1_4 mw_2_49) rfl rfl rfl (by decide +kernel) ⟨Nat.le_of_ble_eq_true rfl, Nat.le_of_ble_eq_true rfl⟩) ⟨fb_, pre_ hPc hKc hDc hN⟩ rfl rfl hl.1 rfl (lv_room (Nat.le_of_ble_eq_true rfl)) d_Pal_paintFrom_89 ⟨Nat.le_of_ble_eq_true rfl, Nat.le_of_ble_eq_true rfl⟩) hS (fun q _ h => hFc q h) hFc (fun r_89 u t H locs ht hvm hp_89 hB hz1 hk1 hS => ?_)
                  obtain ⟨hP1, -, hD1⟩ := hB
                  rw [ht] at hP1
                  obtain ⟨hP, hD⟩ := va_join (wr := [(aq, .inr (3, [.int zq_there, .int zq_allowed, .ref aq_shades])), (aq_shades, .inl (kq_shades, 10, .inl wq_shades_79))]) (w1 := [(aw, .inr (1, [.ref aw_near])), (aw_near, .inl (kw_near, 11, .inl zw_near))]) hP hD [2, 3] [0, 1] rfl rfl (by decide) (by decide) hk1 hFc hP1 hD1
                  obtain ⟨hp_89, hz_89⟩ := hp_89
                  have hp_89 : (r_89) = p_89 := hp_89
                  subst hp_89
                  have hP : va_P (dC, dI) classes [(aq, .inr (3, [.int zq_there, .int zq_allowed, .ref aq_shades])), (aq_shades, .inl (kq_shades, 10, .inl wq_shades_79)), (aw, .inr (1, [.ref aw_near])), (aw_near, .inl (kw_near, 11, .inl zw_near))] H := hP
                  have hD : va_D A [(aq, .inr (3, [.int zq_there, .int zq_allowed, .ref aq_shades])), (aq_shades, .inl (kq_shades, 10, .inl wq_shades_79)), (aw, .inr (1, [.ref aw_near])), (aw_near, .inl (kw_near, 11, .inl zw_near))] := hD
                  refine lv_if_ne (tgt := 97) hx hb d_Pal_paintFrom_92 rfl (fun hc_92 => ?_) (fun hc_92 => ?_)
                  · skip
                    have hI := hI.trans (if_neg hc_92)
                    refine lv_iinc (lv' := [(4, .int (v4_32 + 1)), (0, .ref aq), (1, .ref aw), (2, .int v2), (3, .int v3)]) (k := 4) hx hb d_Pal_paintFrom_97 hl rfl (z_inc1 _) (by decide) rfl (fun ls hl => ?_)
                    refine lv_goto (tgt := 32) hx hb d_Pal_paintFrom_100 rfl ?_
                    have hl := lv_sub hl [1, 2, 3, 4, 0] rfl
                    exact ih_32 0 _ _ _ _ _ hI hP hD hS hl
                  · skip
                    have hI := hI.trans (if_pos hc_92)
                    refine lv_iconst (v := 0) hx hb d_Pal_paintFrom_95 (by decide) ?_
                    exact W.zret (v := 0) (ty := .boolean) hx hb hr (nr01 (Or.inl rfl)) (fun t ht hW => ⟨⟨0, (wq_shades_79), rfl, ⟨(Option.some.inj hI).symm, (Or.inl rfl)⟩, by rw [ht]; exact hP, va_K.moved hW.alike hK, hD⟩, hS.F ht⟩) hS.2.2 d_Pal_paintFrom_96
                · skip
                  have hI := hI.trans (if_neg hc_82)
                  refine lv_iconst (v := 1) hx hb d_Pal_paintFrom_85 (by decide) ?_
                  exact W.zret (v := 1) (ty := .boolean) hx hb hr (nr01 (Or.inr rfl)) (fun t ht hW => ⟨⟨1, (wq_shades_79), rfl, ⟨(Option.some.inj hI).symm, (Or.inr rfl)⟩, by rw [ht]; exact hP, va_K.moved hW.alike hK, hD⟩, hS.F ht⟩) hS.2.2 d_Pal_paintFrom_86
      have hl : lv_has ls 5 [(0, .ref aq), (1, .ref aw), (2, .int v2), (3, .int v3), (4, .int 0)] := by first | exact lv_sub hl [1, 2, 3, 4, 0] rfl | (rw [nI_succ]; exact lv_sub hl [1, 2, 3, 4, 0] rfl)
      exact L_32 64 0 _ _ _ _ _ (by rw [hK_32]; exact hI) hP hD hS hl
    · skip
      have hI := hI.trans (if_pos hc_16)
      refine lv_aload_n hx hb d_Pal_paintFrom_19 rfl (lv_at hl 0 rfl) ?_
      refine lv_aload_n hx hb d_Pal_paintFrom_20 rfl (lv_at hl 1 rfl) ?_
      refine lv_iload_n hx hb d_Pal_paintFrom_21 rfl (lv_at hl 2 rfl) ?_
      refine lv_iconst (v := 1) hx hb d_Pal_paintFrom_22 (by decide) ?_
      refine lv_iadd hx hb d_Pal_paintFrom_23 ?_
      refine lv_iload_n hx hb d_Pal_paintFrom_24 rfl (lv_at hl 3 rfl) ?_
      obtain ⟨p_25, hg_25, hI⟩ := ob_bd hI
      have hPc := hP.sub (ws' := [(aq, .inr (3, [.int zq_there, .int zq_allowed, .ref aq_shades])), (aq_shades, .inl (kq_shades, 10, .inl zq_shades)), (aw, .inr (1, [.ref aw_near])), (aw_near, .inl (kw_near, 11, .inl zw_near))]) [0, 1, 2, 3] rfl
      have hDc := hD.sub (ws' := [(aq, .inr (3, [.int zq_there, .int zq_allowed, .ref aq_shades])), (aq_shades, .inl (kq_shades, 10, .inl zq_shades)), (aw, .inr (1, [.ref aw_near])), (aw_near, .inl (kw_near, 11, .inl zw_near))]) [0, 1, 2, 3] (by decide) rfl
      have hKc := hK.sub (tys' := [(kq_shades, .int), (kw_near, .int)]) [0, 1] rfl
      have hFc := va_free (wc := [(aq, .inr (3, [.int zq_there, .int zq_allowed, .ref aq_shades])), (aq_shades, .inl (kq_shades, 10, .inl zq_shades)), (aw, .inr (1, [.ref aw_near])), (aw_near, .inl (kw_near, 11, .inl zw_near))]) hD hS hA [0, 1, 2, 3] rfl
      refine va_calli (va_runV (As := [.ref aw, .int (v2 + 1), .int v3]) (rest := []) ⟨hx, hb, hml, hown, hts⟩ (c_paintFrom_8 l dC dI H.size aq aw aq_shades aw_near kq_shades kw_near zq_there zq_allowed zq_shades zw_near (v2 + 1) v3 p_25 hg_25) (cwV 3 hts (gi4 mw_2_34 mw_2_36 mw_p_18 mw_1_4 mw_2_37) rfl rfl rfl (by decide +kernel) ⟨Nat.le_of_ble_eq_true rfl, Nat.le_of_ble_eq_true rfl⟩) ⟨fb_, va_recv (q0 := 0) (ci := 3) hK hP rfl rfl, pre_ hPc hKc hDc hN⟩ rfl rfl hl.1 rfl (lv_room (Nat.le_of_ble_eq_true rfl)) d_Pal_paintFrom_25 ⟨Nat.le_of_ble_eq_true rfl, Nat.le_of_ble_eq_true rfl⟩) hS (fun q _ h => hFc q h) hFc (fun r_25 wq_shades_25 t H locs ht hvm hp_25 hB hz1 hk1 hS => ?_)
      obtain ⟨hP1, -, hD1⟩ := hB
      rw [ht] at hP1
      obtain ⟨hP, hD⟩ := va_join (wr := []) (w1 := [(aq, .inr (3, [.int zq_there, .int zq_allowed, .ref aq_shades])), (aq_shades, .inl (kq_shades, 10, .inl wq_shades_25)), (aw, .inr (1, [.ref aw_near])), (aw_near, .inl (kw_near, 11, .inl zw_near))]) hP hD [0, 1, 2, 3] [] rfl rfl (by decide) (by decide) hk1 hFc hP1 hD1
      obtain ⟨hp_25, hz_25⟩ := hp_25
      have hp_25 : (r_25, wq_shades_25) = p_25 := hp_25
      subst hp_25
      have hP : va_P (dC, dI) classes [(aq, .inr (3, [.int zq_there, .int zq_allowed, .ref aq_shades])), (aq_shades, .inl (kq_shades, 10, .inl wq_shades_25)), (aw, .inr (1, [.ref aw_near])), (aw_near, .inl (kw_near, 11, .inl zw_near))] H := hP
      have hD : va_D A [(aq, .inr (3, [.int zq_there, .int zq_allowed, .ref aq_shades])), (aq_shades, .inl (kq_shades, 10, .inl wq_shades_25)), (aw, .inr (1, [.ref aw_near])), (aw_near, .inl (kw_near, 11, .inl zw_near))] := hD
      exact W.zret (v := r_25) (ty := .boolean) hx hb hr (nr01 hz_25) (fun t ht hW => ⟨⟨r_25, (wq_shades_25), rfl, ⟨(Option.some.inj hI).symm, hz_25⟩, by rw [ht]; exact hP, va_K.moved hW.alike hK, hD⟩, hS.F ht⟩) hS.2.2 d_Pal_paintFrom_28
  · skip
    have hI := hI.trans (if_neg hc_3)
    refine lv_iconst (v := 1) hx hb d_Pal_paintFrom_6 (by decide) ?_
    exact W.zret (v := 1) (ty := .boolean) hx hb hr (nr01 (Or.inr rfl)) (fun t ht hW => ⟨⟨1, (zq_shades), rfl, ⟨(Option.some.inj hI).symm, (Or.inr rfl)⟩, by rw [ht]; exact hP, va_K.moved hW.alike hK, hD⟩, hS.F ht⟩) hS.2.2 d_Pal_paintFrom_7
set_option maxHeartbeats 4000000 in
set_option maxRecDepth 100000 in
theorem c_paintFrom_10 (l : Launch) (dC : Nat → ClassId) (dI : Nat → Nat → Nat) (sz : Nat) (aq aw aq_shades aw_near : Nat) (kq_shades kw_near : ClassId) (zq_there : Int32) (zq_allowed : Int32) (zq_shades : Nat → Int32) (zw_near : Nat → Int32) (v2 v3 : Int32) (R : Int32 × (Nat → Int32)) (hR : F_paintFromR 10 zq_there zq_allowed zq_shades zw_near v2 v3 = some R) : Met l y_Pal_paintFrom w_Pal_paintFrom ({ frames := 11, cells := 0, slots := 0, locals := 261 }) (Pre_ dC dI sz [.ref aq, .ref aw, .int v2, .int v3] [(aq, .inr (3, [.int zq_there, .int zq_allowed, .ref aq_shades])), (aq_shades, .inl (kq_shades, 10, .inl zq_shades)), (aw, .inr (1, [.ref aw_near])), (aw_near, .inl (kw_near, 11, .inl zw_near))] [(kq_shades, .int), (kw_near, .int)]) (va_Qi (fun (r : Int32) (u : (Nat → Int32)) => ((r, u) = R) ∧ z01 r) (fun u t => End_ dC dI (va_A [(aq, .inr (3, [.int zq_there, .int zq_allowed, .ref aq_shades])), (aq_shades, .inl (kq_shades, 10, .inl zq_shades)), (aw, .inr (1, [.ref aw_near])), (aw_near, .inl (kw_near, 11, .inl zw_near))] sz) [(kq_shades, .int), (kw_near, .int)] [(aq, .inr (3, [.int zq_there, .int zq_allowed, .ref aq_shades])), (aq_shades, .inl (kq_shades, 10, .inl u)), (aw, .inr (1, [.ref aw_near])), (aw_near, .inl (kw_near, 11, .inl zw_near))] t) (va_A [(aq, .inr (3, [.int zq_there, .int zq_allowed, .ref aq_shades])), (aq_shades, .inl (kq_shades, 10, .inl zq_shades)), (aw, .inr (1, [.ref aw_near])), (aw_near, .inl (kw_near, 11, .inl zw_near))] sz)) 0 0 (va_A [(aq, .inr (3, [.int zq_there, .int zq_allowed, .ref aq_shades])), (aq_shades, .inl (kq_shades, 10, .inl zq_shades)), (aw, .inr (1, [.ref aw_near])), (aw_near, .inl (kw_near, 11, .inl zw_near))] sz) := by
  refine Met.ofW (cc := b_Pal_paintFrom) (maxL := 5) (ret := (some .boolean)) (by decide) rfl ?_
  intro p e s m args below meth c s₁ B hml hv
  obtain ⟨hargs, hsz, hP, hK, hD0, hN⟩ := hv
  have hx := B.exec
  have hb := B.bytes
  have hr := B.returns
  have hts := atoms_spec (ws := w_Pal_paintFrom) B.pre
  have hown : s.vm.findClass R_Pal = some m.cls := findClass_of_methodNamed B.named
  have hlocks := B.notSynchronized
  subst hsz
  have hD := hD0.self (sz := s.heap.size)
  generalize hAe : va_A [(aq, .inr (3, [.int zq_there, .int zq_allowed, .ref aq_shades])), (aq_shades, .inl (kq_shades, 10, .inl zq_shades)), (aw, .inr (1, [.ref aw_near])), (aw_near, .inl (kw_near, 11, .inl zw_near))] s.heap.size = A at hD ⊢
  have hA : ∀ q : Nat, s.heap.size ≤ q → A q := fun q h => by rw [← hAe]; exact Or.inr h
  have hS : va_S A s.heap s.heap [] := va_S.rf
  have hl := lv_entry ([.ref aq, .ref aw, .int v2, .int v3]) (n := 5) (Nat.le_of_ble_eq_true rfl)
  refine W.eq (congrArg (fun a => entryFrame m a 5) hargs) ?_
  rw [lg_entry_eq]
  generalize (lg_sl ([.ref aq, .ref aw, .int v2, .int v3]) ++ List.replicate (5 - (lg_sl ([.ref aq, .ref aw, .int v2, .int v3])).length) Slot.unset).toArray = ls at hl ⊢
  have hl : lv_has ls 5 [(0, .ref aq), (1, .ref aw), (2, .int v2), (3, .int v3)] := hl
  generalize hH0 : ([] : List Loc) = locs at hS ⊢
  have hI := hR.symm
  rw [F_paintFromR] at hI
  refine lv_iload_n hx hb d_Pal_paintFrom_0 rfl (lv_at hl 2 rfl) ?_
  refine lv_bipush (v := 10) hx hb d_Pal_paintFrom_1 (by decide) ?_
  refine lv_icmp_lt (tgt := 8) hx hb d_Pal_paintFrom_3 rfl (fun hc_3 => ?_) (fun hc_3 => ?_)
  · skip
    have hI := hI.trans (if_pos hc_3)
    refine lv_aload_n hx hb d_Pal_paintFrom_8 rfl (lv_at hl 0 rfl) ?_
    refine va_get (D := (dC, dI)) (ci := 3) (v := .int zq_there) (C := R_Pal) (T := F_Pal) (N := 3) hx hb hts (fun w h => List.mem_cons_of_mem _ (in_Pal w h)) hown hK hP 0 rfl rfl 0 (by decide) (hts _ (List.mem_cons_of_mem _ mw_1_73)) (fun _ h9 => h9) rfl d_Pal_paintFrom_9 ?_
    refine lv_iload_n hx hb d_Pal_paintFrom_12 rfl (lv_at hl 2 rfl) ?_
    have hPc := hP.sub (ws' := []) [] rfl
    have hDc := hD.sub (ws' := []) [] (by decide) rfl
    have hKc := hK.sub (tys' := []) [] rfl
    have hFc := va_free (wc := []) hD hS hA [] rfl
    refine va_calli (va_runSN (As := [.int zq_there, .int v2]) (rest := []) ⟨hx, hb, hml, hown, hts⟩ (c_has l dC dI s.heap.size zq_there v2) (⟨va_cnB 2 hts (gi0 mw_1_150) rfl rfl rfl (hN (R_Pal, 26, y_PS_has, R_PS) (by decide +kernel)) (hts _ (List.mem_cons_of_mem _ mw_1_1)) (by decide +kernel) ⟨Nat.le_of_ble_eq_true rfl, Nat.le_of_ble_eq_true rfl⟩, hts _ (List.mem_cons_of_mem _ mw_1_149), trivial⟩) ⟨fb_, pre_ hPc hKc hDc hN⟩ rfl rfl hl.1 rfl (lv_room (Nat.le_of_ble_eq_true rfl)) d_Pal_paintFrom_13 ⟨Nat.le_of_ble_eq_true rfl, Nat.le_of_ble_eq_true rfl⟩) hS (fun q _ h => hFc q h) hFc (fun r_13 u t H locs ht hvm hp_13 hB hz1 hk1 hS => ?_)
    obtain ⟨hP1, -, hD1⟩ := hB
    rw [ht] at hP1
    obtain ⟨hP, hD⟩ := va_join (wr := [(aq, .inr (3, [.int zq_there, .int zq_allowed, .ref aq_shades])), (aq_shades, .inl (kq_shades, 10, .inl zq_shades)), (aw, .inr (1, [.ref aw_near])), (aw_near, .inl (kw_near, 11, .inl zw_near))]) (w1 := []) hP hD [] [0, 1, 2, 3] rfl rfl (by decide) (by decide) hk1 hFc hP1 hD1
    have hp_13 : r_13 = f_has zq_there v2 := hp_13
    subst hp_13
    have hP : va_P (dC, dI) classes [(aq, .inr (3, [.int zq_there, .int zq_allowed, .ref aq_shades])), (aq_shades, .inl (kq_shades, 10, .inl zq_shades)), (aw, .inr (1, [.ref aw_near])), (aw_near, .inl (kw_near, 11, .inl zw_near))] H := hP
    have hD : va_D A [(aq, .inr (3, [.int zq_there, .int zq_allowed, .ref aq_shades])), (aq_shades, .inl (kq_shades, 10, .inl zq_shades)), (aw, .inr (1, [.ref aw_near])), (aw_near, .inl (kw_near, 11, .inl zw_near))] := hD
    refine lv_if_ne (tgt := 29) hx hb d_Pal_paintFrom_16 rfl (fun hc_16 => ?_) (fun hc_16 => ?_)
    · skip
      have hI := hI.trans (if_neg hc_16)
      refine lv_iconst (v := 0) hx hb d_Pal_paintFrom_29 (by decide) ?_
      refine lv_istore (lv' := [(4, .int 0), (0, .ref aq), (1, .ref aw), (2, .int v2), (3, .int v3)]) hx hb d_Pal_paintFrom_30 hl (by decide) rfl (fun ls hl => ?_)
      obtain ⟨K_32, hK_32⟩ : ∃ K : Int32 → (Nat → Int32) → Option (Int32 × (Nat → Int32)), K = (fun v4_32 wq_shades_32 => some ((0 : Int32), wq_shades_32)) := ⟨_, rfl⟩
      have X_32 : ∀ (k_32 : Nat) (v4_32 : Int32) (wq_shades_32 : Nat → Int32) (H : Heap) (locs : List Loc) (ls : Array Slot), some R = K_32 v4_32 wq_shades_32 → va_P (dC, dI) classes [(aq, .inr (3, [.int zq_there, .int zq_allowed, .ref aq_shades])), (aq_shades, .inl (kq_shades, 10, .inl wq_shades_32)), (aw, .inr (1, [.ref aw_near])), (aw_near, .inl (kw_near, 11, .inl zw_near))] H → va_D A [(aq, .inr (3, [.int zq_there, .int zq_allowed, .ref aq_shades])), (aq_shades, .inl (kq_shades, 10, .inl wq_shades_32)), (aw, .inr (1, [.ref aw_near])), (aw_near, .inl (kw_near, 11, .inl zw_near))] → va_S A s.heap H locs → lv_has ls 5 [(0, .ref aq), (1, .ref aw), (2, .int v2), (3, .int v3), (4, .int v4_32)] → W p l e (headSpec w_Pal_paintFrom ({ frames := 11, cells := 0, slots := 0, locals := 261 })).room s m args below meth c H locs 0 0 (MQ below (va_Qi (fun (r : Int32) (u : (Nat → Int32)) => ((r, u) = R) ∧ z01 r) (fun u t => End_ dC dI A [(kq_shades, .int), (kw_near, .int)] [(aq, .inr (3, [.int zq_there, .int zq_allowed, .ref aq_shades])), (aq_shades, .inl (kq_shades, 10, .inl u)), (aw, .inr (1, [.ref aw_near])), (aw_near, .inl (kw_near, 11, .inl zw_near))] t) A) args s 0 0 A) (F0 m 103 ls []) := by
        intro k_32 v4_32 wq_shades_32 H locs ls hI hP hD hS hl
        rw [hK_32] at hI
        refine lv_iconst (v := 0) hx hb d_Pal_paintFrom_103 (by decide) ?_
        exact W.zret (v := 0) (ty := .boolean) hx hb hr (nr01 (Or.inl rfl)) (fun t ht hW => ⟨⟨0, (wq_shades_32), rfl, ⟨(Option.some.inj hI).symm, (Or.inl rfl)⟩, by rw [ht]; exact hP, va_K.moved hW.alike hK, hD⟩, hS.F ht⟩) hS.2.2 d_Pal_paintFrom_104
      have L_32 : ∀ (n_32 k_32 : Nat) (v4_32 : Int32) (wq_shades_32 : Nat → Int32) (H : Heap) (locs : List Loc) (ls : Array Slot), some R = F_paintFromR_L32 K_32 zq_there zq_allowed zw_near v2 v3 (F_paintFromR 9) n_32 v4_32 wq_shades_32 → va_P (dC, dI) classes [(aq, .inr (3, [.int zq_there, .int zq_allowed, .ref aq_shades])), (aq_shades, .inl (kq_shades, 10, .inl wq_shades_32)), (aw, .inr (1, [.ref aw_near])), (aw_near, .inl (kw_near, 11, .inl zw_near))] H → va_D A [(aq, .inr (3, [.int zq_there, .int zq_allowed, .ref aq_shades])), (aq_shades, .inl (kq_shades, 10, .inl wq_shades_32)), (aw, .inr (1, [.ref aw_near])), (aw_near, .inl (kw_near, 11, .inl zw_near))] → va_S A s.heap H locs → lv_has ls 5 [(0, .ref aq), (1, .ref aw), (2, .int v2), (3, .int v3), (4, .int v4_32)] → W p l e (headSpec w_Pal_paintFrom ({ frames := 11, cells := 0, slots := 0, locals := 261 })).room s m args below meth c H locs 0 0 (MQ below (va_Qi (fun (r : Int32) (u : (Nat → Int32)) => ((r, u) = R) ∧ z01 r) (fun u t => End_ dC dI A [(kq_shades, .int), (kw_near, .int)] [(aq, .inr (3, [.int zq_there, .int zq_allowed, .ref aq_shades])), (aq_shades, .inl (kq_shades, 10, .inl u)), (aw, .inr (1, [.ref aw_near])), (aw_near, .inl (kw_near, 11, .inl zw_near))] t) A) args s 0 0 A) (F0 m 32 ls []) := by
        intro n_32
        induction n_32 with
        | zero =>
          intro k_32 v4_32 wq_shades_32 H locs ls hI hP hD hS hl
          rw [F_paintFromR_L32] at hI
          exact absurd hI (ob_no _)
        | succ n_32 ih_32 =>
          intro k_32 v4_32 wq_shades_32 H locs ls hI hP hD hS hl
          rw [F_paintFromR_L32] at hI
          refine lv_iload hx hb d_Pal_paintFrom_32 (lv_at hl 4 rfl) ?_
          refine lv_iload_n hx hb d_Pal_paintFrom_34 rfl (lv_at hl 3 rfl) ?_
          refine lv_icmp_gt (tgt := 103) hx hb d_Pal_paintFrom_35 rfl (fun hc_35 => ?_) (fun hc_35 => ?_)
          · skip
            have hI := hI.trans (if_pos hc_35)
            have hl := lv_sub hl [0, 1, 2, 3, 4] rfl
            exact X_32 0 _ _ _ _ _ hI hP hD hS hl
          · skip
            have hI := hI.trans (if_neg hc_35)
            refine lv_iload hx hb d_Pal_paintFrom_38 (lv_at hl 4 rfl) ?_
            refine lv_aload_n hx hb d_Pal_paintFrom_40 rfl (lv_at hl 0 rfl) ?_
            refine va_get (D := (dC, dI)) (ci := 3) (v := .int zq_allowed) (C := R_Pal) (T := F_Pal) (N := 3) hx hb hts (fun w h => List.mem_cons_of_mem _ (in_Pal w h)) hown hK hP 0 rfl rfl 1 (by decide) (hts _ (List.mem_cons_of_mem _ mw_1_74)) (fun _ h9 => h9) rfl d_Pal_paintFrom_41 ?_
            refine lv_icmp_ge (tgt := 103) hx hb d_Pal_paintFrom_44 rfl (fun hc_44 => ?_) (fun hc_44 => ?_)
            · skip
              have hI := hI.trans (if_pos hc_44)
              have hl := lv_sub hl [0, 1, 2, 3, 4] rfl
              exact X_32 0 _ _ _ _ _ hI hP hD hS hl
            · skip
              have hI := hI.trans (if_neg hc_44)
              refine lv_aload_n hx hb d_Pal_paintFrom_47 rfl (lv_at hl 0 rfl) ?_
              refine lv_aload_n hx hb d_Pal_paintFrom_48 rfl (lv_at hl 1 rfl) ?_
              refine lv_iload hx hb d_Pal_paintFrom_49 (lv_at hl 4 rfl) ?_
              refine lv_iload_n hx hb d_Pal_paintFrom_51 rfl (lv_at hl 2 rfl) ?_
              obtain ⟨p_52, hg_52, hI⟩ := ob_bd hI
              have hPc := hP.sub (ws' := [(aq, .inr (3, [.int zq_there, .int zq_allowed, .ref aq_shades])), (aq_shades, .inl (kq_shades, 10, .inl wq_shades_32)), (aw, .inr (1, [.ref aw_near])), (aw_near, .inl (kw_near, 11, .inl zw_near))]) [0, 1, 2, 3] rfl
              have hDc := hD.sub (ws' := [(aq, .inr (3, [.int zq_there, .int zq_allowed, .ref aq_shades])), (aq_shades, .inl (kq_shades, 10, .inl wq_shades_32)), (aw, .inr (1, [.ref aw_near])), (aw_near, .inl (kw_near, 11, .inl zw_near))]) [0, 1, 2, 3] (by decide) rfl
              have hKc := hK.sub (tys' := [(kq_shades, .int), (kw_near, .int)]) [0, 1] rfl
              have hFc := va_free (wc := [(aq, .inr (3, [.int zq_there, .int zq_allowed, .ref aq_shades])), (aq_shades, .inl (kq_shades, 10, .inl wq_shades_32)), (aw, .inr (1, [.ref aw_near])), (aw_near, .inl (kw_near, 11, .inl zw_near))]) hD hS hA [0, 1, 2, 3] rfl
              refine va_calli (va_runV (As := [.ref aw, .int v4_32, .int v2]) (rest := []) ⟨hx, hb, hml, hown, hts⟩ (c_isFreeG l dC dI H.size aq aw aq_shades aw_near kq_shades kw_near zq_there zq_allowed wq_shades_32 zw_near v4_32 v2 p_52 hg_52) (cwV 3 hts (gi4 mw_2_39 mw_2_41 mw_p_19 mw_1_4 mw_2_42) rfl rfl rfl (by decide +kernel) ⟨Nat.le_of_ble_eq_true rfl, Nat.le_of_ble_eq_true rfl⟩) ⟨fb_, va_recv (q0 := 0) (ci := 3) hK hP rfl rfl, pre_ hPc hKc hDc hN⟩ rfl rfl hl.1 rfl (lv_room (Nat.le_of_ble_eq_true rfl)) d_Pal_paintFrom_52 ⟨Nat.le_of_ble_eq_true rfl, Nat.le_of_ble_eq_true rfl⟩) hS (fun q _ h => hFc q h) hFc (fun r_52 u t H locs ht hvm hp_52 hB hz1 hk1 hS => ?_)
              obtain ⟨hP1, -, hD1⟩ := hB
              rw [ht] at hP1
              obtain ⟨hP, hD⟩ := va_join (wr := []) (w1 := [(aq, .inr (3, [.int zq_there, .int zq_allowed, .ref aq_shades])), (aq_shades, .inl (kq_shades, 10, .inl wq_shades_32)), (aw, .inr (1, [.ref aw_near])), (aw_near, .inl (kw_near, 11, .inl zw_near))]) hP hD [0, 1, 2, 3] [] rfl rfl (by decide) (by decide) hk1 hFc hP1 hD1
              obtain ⟨hp_52, hz_52⟩ := hp_52
              have hp_52 : (r_52) = p_52 := hp_52
              subst hp_52
              have hP : va_P (dC, dI) classes [(aq, .inr (3, [.int zq_there, .int zq_allowed, .ref aq_shades])), (aq_shades, .inl (kq_shades, 10, .inl wq_shades_32)), (aw, .inr (1, [.ref aw_near])), (aw_near, .inl (kw_near, 11, .inl zw_near))] H := hP
              have hD : va_D A [(aq, .inr (3, [.int zq_there, .int zq_allowed, .ref aq_shades])), (aq_shades, .inl (kq_shades, 10, .inl wq_shades_32)), (aw, .inr (1, [.ref aw_near])), (aw_near, .inl (kw_near, 11, .inl zw_near))] := hD
              refine lv_if_eq (tgt := 97) hx hb d_Pal_paintFrom_55 rfl (fun hc_55 => ?_) (fun hc_55 => ?_)
              · skip
                have hI := hI.trans (if_pos hc_55)
                refine lv_iinc (lv' := [(4, .int (v4_32 + 1)), (0, .ref aq), (1, .ref aw), (2, .int v2), (3, .int v3)]) (k := 4) hx hb d_Pal_paintFrom_97 hl rfl (z_inc1 _) (by decide) rfl (fun ls hl => ?_)
                refine lv_goto (tgt := 32) hx hb d_Pal_paintFrom_100 rfl ?_
                have hl := lv_sub hl [1, 2, 3, 4, 0] rfl
                exact ih_32 0 _ _ _ _ _ hI hP hD hS hl
              · skip
                have hI := hI.trans (if_neg hc_55)
                refine lv_aload_n hx hb d_Pal_paintFrom_58 rfl (lv_at hl 0 rfl) ?_
                refine va_get (D := (dC, dI)) (ci := 3) (v := .ref aq_shades) (C := R_Pal) (T := F_Pal) (N := 3) hx hb hts (fun w h => List.mem_cons_of_mem _ (in_Pal w h)) hown hK hP 0 rfl rfl 2 (by decide) (hts _ (List.mem_cons_of_mem _ mw_1_75)) (fun _ h9 => h9) rfl d_Pal_paintFrom_59 ?_
                refine lv_iload_n hx hb d_Pal_paintFrom_62 rfl (lv_at hl 2 rfl) ?_
                refine lv_iload hx hb d_Pal_paintFrom_63 (lv_at hl 4 rfl) ?_
                have hi_65 := ob_in hI
                have hI := ob_th hI
                refine va_iast (D := (dC, dI)) hx hb hK hP hD hS 1 0 rfl rfl hi_65 d_Pal_paintFrom_65 (fun H locs hP hD hS => ?_)
                have hP : va_P (dC, dI) classes [(aq, .inr (3, [.int zq_there, .int zq_allowed, .ref aq_shades])), (aq_shades, .inl (kq_shades, 10, .inl (upd wq_shades_32 (Int32.toNatClampNeg v2) v4_32))), (aw, .inr (1, [.ref aw_near])), (aw_near, .inl (kw_near, 11, .inl zw_near))] H := hP
                have hD : va_D A [(aq, .inr (3, [.int zq_there, .int zq_allowed, .ref aq_shades])), (aq_shades, .inl (kq_shades, 10, .inl (upd wq_shades_32 (Int32.toNatClampNeg v2) v4_32))), (aw, .inr (1, [.ref aw_near])), (aw_near, .inl (kw_near, 11, .inl zw_near))] := hD
                refine lv_aload_n hx hb d_Pal_paintFrom_66 rfl (lv_at hl 0 rfl) ?_
                refine lv_aload_n hx hb d_Pal_paintFrom_67 rfl (lv_at hl 1 rfl) ?_
                refine lv_iload_n hx hb d_Pal_paintFrom_68 rfl (lv_at hl 2 rfl) ?_
                refine lv_iconst (v := 1) hx hb d_Pal_paintFrom_69 (by decide) ?_
                refine lv_iadd hx hb d_Pal_paintFrom_70 ?_
                refine lv_iload_n hx hb d_Pal_paintFrom_71 rfl (lv_at hl 3 rfl) ?_
                refine lv_iload hx hb d_Pal_paintFrom_72 (lv_at hl 4 rfl) ?_
                refine lv_iconst (v := 1) hx hb d_Pal_paintFrom_74 (by decide) ?_
                refine lv_iadd hx hb d_Pal_paintFrom_75 ?_
                refine va_mmax hx hb (hml.trans hl.1.symm) hown (hts _ (List.mem_cons_of_mem _ mw_2_44)) (hts _ (List.mem_cons_of_mem _ mw_2_45)) (hts _ (List.mem_cons_of_mem _ mw_1_15)) (hts _ (List.mem_cons_of_mem _ mw_2_46)) (Nat.le_of_ble_eq_true rfl) (Nat.le_of_ble_eq_true rfl) (Nat.le_of_ble_eq_true rfl) (Nat.le_of_ble_eq_true rfl) d_Pal_paintFrom_76 ?_
                obtain ⟨p_79, hg_79, hI⟩ := ob_bd hI
                have hPc := hP.sub (ws' := [(aq, .inr (3, [.int zq_there, .int zq_allowed, .ref aq_shades])), (aq_shades, .inl (kq_shades, 10, .inl (upd wq_shades_32 (Int32.toNatClampNeg v2) v4_32))), (aw, .inr (1, [.ref aw_near])), (aw_near, .inl (kw_near, 11, .inl zw_near))]) [0, 1, 2, 3] rfl
                have hDc := hD.sub (ws' := [(aq, .inr (3, [.int zq_there, .int zq_allowed, .ref aq_shades])), (aq_shades, .inl (kq_shades, 10, .inl (upd wq_shades_32 (Int32.toNatClampNeg v2) v4_32))), (aw, .inr (1, [.ref aw_near])), (aw_near, .inl (kw_near, 11, .inl zw_near))]) [0, 1, 2, 3] (by decide) rfl
                have hKc := hK.sub (tys' := [(kq_shades, .int), (kw_near, .int)]) [0, 1] rfl
                have hFc := va_free (wc := [(aq, .inr (3, [.int zq_there, .int zq_allowed, .ref aq_shades])), (aq_shades, .inl (kq_shades, 10, .inl (upd wq_shades_32 (Int32.toNatClampNeg v2) v4_32))), (aw, .inr (1, [.ref aw_near])), (aw_near, .inl (kw_near, 11, .inl zw_near))]) hD hS hA [0, 1, 2, 3] rfl
                refine va_calli (va_runV (As := [.ref aw, .int (v2 + 1), .int (if v3 < (v4_32 + 1) then (v4_32 + 1) else v3)]) (rest := []) ⟨hx, hb, hml, hown, hts⟩ (c_paintFrom_9 l dC dI H.size aq aw aq_shades aw_near kq_shades kw_near zq_there zq_allowed (upd wq_shades_32 (Int32.toNatClampNeg v2) v4_32) zw_near (v2 + 1) (if v3 < (v4_32 + 1) then (v4_32 + 1) else v3) p_79 hg_79) (cwV 3 hts (gi4 mw_2_34 mw_2_36 mw_p_18 mw_1_4 mw_2_37) rfl rfl rfl (by decide +kernel) ⟨Nat.le_of_ble_eq_true rfl, Nat.le_of_ble_eq_true rfl⟩) ⟨fb_, va_recv (q0 := 0) (ci := 3) hK hP rfl rfl, pre_ hPc hKc hDc hN⟩ rfl rfl hl.1 rfl (lv_room (Nat.le_of_ble_eq_true rfl)) d_Pal_paintFrom_79 ⟨Nat.le_of_ble_eq_true rfl, Nat.le_of_ble_eq_true rfl⟩) hS (fun q _ h => hFc q h) hFc (fun r_79 wq_shades_79 t H locs ht hvm hp_79 hB hz1 hk1 hS => ?_)
                obtain ⟨hP1, -, hD1⟩ := hB
                rw [ht] at hP1
                obtain ⟨hP, hD⟩ := va_join (wr := []) (w1 := [(aq, .inr (3, [.int zq_there, .int zq_allowed, .ref aq_shades])), (aq_shades, .inl (kq_shades, 10, .inl wq_shades_79)), (aw, .inr (1, [.ref aw_near])), (aw_near, .inl (kw_near, 11, .inl zw_near))]) hP hD [0, 1, 2, 3] [] rfl rfl (by decide) (by decide) hk1 hFc hP1 hD1
                obtain ⟨hp_79, hz_79⟩ := hp_79
                have hp_79 : (r_79, wq_shades_79) = p_79 := hp_79
                subst hp_79
                have hP : va_P (dC, dI) classes [(aq, .inr (3, [.int zq_there, .int zq_allowed, .ref aq_shades])), (aq_shades, .inl (kq_shades, 10, .inl wq_shades_79)), (aw, .inr (1, [.ref aw_near])), (aw_near, .inl (kw_near, 11, .inl zw_near))] H := hP
                have hD : va_D A [(aq, .inr (3, [.int zq_there, .int zq_allowed, .ref aq_shades])), (aq_shades, .inl (kq_shades, 10, .inl wq_shades_79)), (aw, .inr (1, [.ref aw_near])), (aw_near, .inl (kw_near, 11, .inl zw_near))] := hD
                refine lv_if_eq (tgt := 87) hx hb d_Pal_paintFrom_82 rfl (fun hc_82 => ?_) (fun hc_82 => ?_)
                · skip
                  have hI := hI.trans (if_pos hc_82)
                  refine lv_aload_n hx hb d_Pal_paintFrom_87 rfl (lv_at hl 1 rfl) ?_
                  refine lv_iload_n hx hb d_Pal_paintFrom_88 rfl (lv_at hl 2 rfl) ?_
                  obtain ⟨p_89, hg_89, hI⟩ := ob_bd hI
                  have hPc := hP.sub (ws' := [(aw, .inr (1, [.ref aw_near])), (aw_near, .inl (kw_near, 11, .inl zw_near))]) [2, 3] rfl
                  have hDc := hD.sub (ws' := [(aw, .inr (1, [.ref aw_near])), (aw_near, .inl (kw_near, 11, .inl zw_near))]) [2, 3] (by decide) rfl
                  have hKc := hK.sub (tys' := [(kw_near, .int)]) [1] rfl
                  have hFc := va_free (wc := [(aw, .inr (1, [.ref aw_near])), (aw_near, .inl (kw_near, 11, .inl zw_near))]) hD hS hA [2, 3] rfl
                  refine va_calli (va_runS (As := [.ref aw, .int v2]) (rest := []) ⟨hx, hb, hml, hown, hts⟩ (c_hasLaterG l dC dI H.size aw aw_near kw_near zw_near v2 p_89 hg_89) (cwS 2 hts (gi3 mw_2_47 mw_2_48 mw_1_4 mw_2_49) rfl rfl rfl (by decide +kernel) ⟨Nat.le_of_ble_eq_true rfl, Nat.le_of_ble_eq_true rfl⟩) ⟨fb_, pre_ hPc hKc hDc hN⟩ rfl rfl hl.1 rfl (lv_room (Nat.le_of_ble_eq_true rfl)) d_Pal_paintFrom_89 ⟨Nat.le_of_ble_eq_true rfl, Nat.le_of_ble_eq_true rfl⟩) hS (fun q _ h => hFc q h) hFc (fun r_89 u t H locs ht hvm hp_89 hB hz1 hk1 hS => ?_)
                  obtain ⟨hP1, -, hD1⟩ := hB
                  rw [ht] at hP1
                  obtain ⟨hP, hD⟩ := va_join (wr := [(aq, .inr (3, [.int zq_there, .int zq_allowed, .ref aq_shades])), (aq_shades, .inl (kq_shades, 10, .inl wq_shades_79))]) (w1 := [(aw, .inr (1, [.ref aw_near])), (aw_near, .inl (kw_near, 11, .inl zw_near))]) hP hD [2, 3] [0, 1] rfl rfl (by decide) (by decide) hk1 hFc hP1 hD1
                  obtain ⟨hp_89, hz_89⟩ := hp_89
                  have hp_89 : (r_89) = p_89 := hp_89
                  subst hp_89
                  have hP : va_P (dC, dI) classes [(aq, .inr (3, [.int zq_there, .int zq_allowed, .ref aq_shades])), (aq_shades, .inl (kq_shades, 10, .inl wq_shades_79)), (aw, .inr (1, [.ref aw_near])), (aw_near, .inl (kw_near, 11, .inl zw_near))] H := hP
                  have hD : va_D A [(aq, .inr (3, [.int zq_there, .int zq_allowed, .ref aq_shades])), (aq_shades, .inl (kq_shades, 10, .inl wq_shades_79)), (aw, .inr (1, [.ref aw_near])), (aw_near, .inl (kw_near, 11, .inl zw_near))] := hD
                  refine lv_if_ne (tgt := 97) hx hb d_Pal_paintFrom_92 rfl (fun hc_92 => ?_) (fun hc_92 => ?_)
                  · skip
                    have hI := hI.trans (if_neg hc_92)
                    refine lv_iinc (lv' := [(4, .int (v4_32 + 1)), (0, .ref aq), (1, .ref aw), (2, .int v2), (3, .int v3)]) (k := 4) hx hb d_Pal_paintFrom_97 hl rfl (z_inc1 _) (by decide) rfl (fun ls hl => ?_)
                    refine lv_goto (tgt := 32) hx hb d_Pal_paintFrom_100 rfl ?_
                    have hl := lv_sub hl [1, 2, 3, 4, 0] rfl
                    exact ih_32 0 _ _ _ _ _ hI hP hD hS hl
                  · skip
                    have hI := hI.trans (if_pos hc_92)
                    refine lv_iconst (v := 0) hx hb d_Pal_paintFrom_95 (by decide) ?_
                    exact W.zret (v := 0) (ty := .boolean) hx hb hr (nr01 (Or.inl rfl)) (fun t ht hW => ⟨⟨0, (wq_shades_79), rfl, ⟨(Option.some.inj hI).symm, (Or.inl rfl)⟩, by rw [ht]; exact hP, va_K.moved hW.alike hK, hD⟩, hS.F ht⟩) hS.2.2 d_Pal_paintFrom_96
                · skip
                  have hI := hI.trans (if_neg hc_82)
                  refine lv_iconst (v := 1) hx hb d_Pal_paintFrom_85 (by decide) ?_
                  exact W.zret (v := 1) (ty := .boolean) hx hb hr (nr01 (Or.inr rfl)) (fun t ht hW => ⟨⟨1, (wq_shades_79), rfl, ⟨(Option.some.inj hI).symm, (Or.inr rfl)⟩, by rw [ht]; exact hP, va_K.moved hW.alike hK, hD⟩, hS.F ht⟩) hS.2.2 d_Pal_paintFrom_86
      have hl : lv_has ls 5 [(0, .ref aq), (1, .ref aw), (2, .int v2), (3, .int v3), (4, .int 0)] := by first | exact lv_sub hl [1, 2, 3, 4, 0] rfl | (rw [nI_succ]; exact lv_sub hl [1, 2, 3, 4, 0] rfl)
      exact L_32 64 0 _ _ _ _ _ (by rw [hK_32]; exact hI) hP hD hS hl
    · skip
      have hI := hI.trans (if_pos hc_16)
      refine lv_aload_n hx hb d_Pal_paintFrom_19 rfl (lv_at hl 0 rfl) ?_
      refine lv_aload_n hx hb d_Pal_paintFrom_20 rfl (lv_at hl 1 rfl) ?_
      refine lv_iload_n hx hb d_Pal_paintFrom_21 rfl (lv_at hl 2 rfl) ?_
      refine lv_iconst (v := 1) hx hb d_Pal_paintFrom_22 (by decide) ?_
      refine lv_iadd hx hb d_Pal_paintFrom_23 ?_
      refine lv_iload_n hx hb d_Pal_paintFrom_24 rfl (lv_at hl 3 rfl) ?_
      obtain ⟨p_25, hg_25, hI⟩ := ob_bd hI
      have hPc := hP.sub (ws' := [(aq, .inr (3, [.int zq_there, .int zq_allowed, .ref aq_shades])), (aq_shades, .inl (kq_shades, 10, .inl zq_shades)), (aw, .inr (1, [.ref aw_near])), (aw_near, .inl (kw_near, 11, .inl zw_near))]) [0, 1, 2, 3] rfl
      have hDc := hD.sub (ws' := [(aq, .inr (3, [.int zq_there, .int zq_allowed, .ref aq_shades])), (aq_shades, .inl (kq_shades, 10, .inl zq_shades)), (aw, .inr (1, [.ref aw_near])), (aw_near, .inl (kw_near, 11, .inl zw_near))]) [0, 1, 2, 3] (by decide) rfl
      have hKc := hK.sub (tys' := [(kq_shades, .int), (kw_near, .int)]) [0, 1] rfl
      have hFc := va_free (wc := [(aq, .inr (3, [.int zq_there, .int zq_allowed, .ref aq_shades])), (aq_shades, .inl (kq_shades, 10, .inl zq_shades)), (aw, .inr (1, [.ref aw_near])), (aw_near, .inl (kw_near, 11, .inl zw_near))]) hD hS hA [0, 1, 2, 3] rfl
      refine va_calli (va_runV (As := [.ref aw, .int (v2 + 1), .int v3]) (rest := []) ⟨hx, hb, hml, hown, hts⟩ (c_paintFrom_9 l dC dI H.size aq aw aq_shades aw_near kq_shades kw_near zq_there zq_allowed zq_shades zw_near (v2 + 1) v3 p_25 hg_25) (cwV 3 hts (gi4 mw_2_34 mw_2_36 mw_p_18 mw_1_4 mw_2_37) rfl rfl rfl (by decide +kernel) ⟨Nat.le_of_ble_eq_true rfl, Nat.le_of_ble_eq_true rfl⟩) ⟨fb_, va_recv (q0 := 0) (ci := 3) hK hP rfl rfl, pre_ hPc hKc hDc hN⟩ rfl rfl hl.1 rfl (lv_room (Nat.le_of_ble_eq_true rfl)) d_Pal_paintFrom_25 ⟨Nat.le_of_ble_eq_true rfl, Nat.le_of_ble_eq_true rfl⟩) hS (fun q _ h => hFc q h) hFc (fun r_25 wq_shades_25 t H locs ht hvm hp_25 hB hz1 hk1 hS => ?_)
      obtain ⟨hP1, -, hD1⟩ := hB
      rw [ht] at hP1
      obtain ⟨hP, hD⟩ := va_join (wr := []) (w1 := [(aq, .inr (3, [.int zq_there, .int zq_allowed, .ref aq_shades])), (aq_shades, .inl (kq_shades, 10, .inl wq_shades_25)), (aw, .inr (1, [.ref aw_near])), (aw_near, .inl (kw_near, 11, .inl zw_near))]) hP hD [0, 1, 2, 3] [] rfl rfl (by decide) (by decide) hk1 hFc hP1 hD1
      obtain ⟨hp_25, hz_25⟩ := hp_25
      have hp_25 : (r_25, wq_shades_25) = p_25 := hp_25
      subst hp_25
      have hP : va_P (dC, dI) classes [(aq, .inr (3, [.int zq_there, .int zq_allowed, .ref aq_shades])), (aq_shades, .inl (kq_shades, 10, .inl wq_shades_25)), (aw, .inr (1, [.ref aw_near])), (aw_near, .inl (kw_near, 11, .inl zw_near))] H := hP
      have hD : va_D A [(aq, .inr (3, [.int zq_there, .int zq_allowed, .ref aq_shades])), (aq_shades, .inl (kq_shades, 10, .inl wq_shades_25)), (aw, .inr (1, [.ref aw_near])), (aw_near, .inl (kw_near, 11, .inl zw_near))] := hD
      exact W.zret (v := r_25) (ty := .boolean) hx hb hr (nr01 hz_25) (fun t ht hW => ⟨⟨r_25, (wq_shades_25), rfl, ⟨(Option.some.inj hI).symm, hz_25⟩, by rw [ht]; exact hP, va_K.moved hW.alike hK, hD⟩, hS.F ht⟩) hS.2.2 d_Pal_paintFrom_28
  · skip
    have hI := hI.trans (if_neg hc_3)
    refine lv_iconst (v := 1) hx hb d_Pal_paintFrom_6 (by decide) ?_
    exact W.zret (v := 1) (ty := .boolean) hx hb hr (nr01 (Or.inr rfl)) (fun t ht hW => ⟨⟨1, (zq_shades), rfl, ⟨(Option.some.inj hI).symm, (Or.inr rfl)⟩, by rw [ht]; exact hP, va_K.moved hW.alike hK, hD⟩, hS.F ht⟩) hS.2.2 d_Pal_paintFrom_7
set_option maxHeartbeats 4000000 in
set_option maxRecDepth 100000 in
theorem c_paintFrom_11 (l : Launch) (dC : Nat → ClassId) (dI : Nat → Nat → Nat) (sz : Nat) (aq aw aq_shades aw_near : Nat) (kq_shades kw_near : ClassId) (zq_there : Int32) (zq_allowed : Int32) (zq_shades : Nat → Int32) (zw_near : Nat → Int32) (v2 v3 : Int32) (R : Int32 × (Nat → Int32)) (hR : F_paintFromR 11 zq_there zq_allowed zq_shades zw_near v2 v3 = some R) : Met l y_Pal_paintFrom w_Pal_paintFrom ({ frames := 12, cells := 0, slots := 0, locals := 285 }) (Pre_ dC dI sz [.ref aq, .ref aw, .int v2, .int v3] [(aq, .inr (3, [.int zq_there, .int zq_allowed, .ref aq_shades])), (aq_shades, .inl (kq_shades, 10, .inl zq_shades)), (aw, .inr (1, [.ref aw_near])), (aw_near, .inl (kw_near, 11, .inl zw_near))] [(kq_shades, .int), (kw_near, .int)]) (va_Qi (fun (r : Int32) (u : (Nat → Int32)) => ((r, u) = R) ∧ z01 r) (fun u t => End_ dC dI (va_A [(aq, .inr (3, [.int zq_there, .int zq_allowed, .ref aq_shades])), (aq_shades, .inl (kq_shades, 10, .inl zq_shades)), (aw, .inr (1, [.ref aw_near])), (aw_near, .inl (kw_near, 11, .inl zw_near))] sz) [(kq_shades, .int), (kw_near, .int)] [(aq, .inr (3, [.int zq_there, .int zq_allowed, .ref aq_shades])), (aq_shades, .inl (kq_shades, 10, .inl u)), (aw, .inr (1, [.ref aw_near])), (aw_near, .inl (kw_near, 11, .inl zw_near))] t) (va_A [(aq, .inr (3, [.int zq_there, .int zq_allowed, .ref aq_shades])), (aq_shades, .inl (kq_shades, 10, .inl zq_shades)), (aw, .inr (1, [.ref aw_near])), (aw_near, .inl (kw_near, 11, .inl zw_near))] sz)) 0 0 (va_A [(aq, .inr (3, [.int zq_there, .int zq_allowed, .ref aq_shades])), (aq_shades, .inl (kq_shades, 10, .inl zq_shades)), (aw, .inr (1, [.ref aw_near])), (aw_near, .inl (kw_near, 11, .inl zw_near))] sz) := by
  refine Met.ofW (cc := b_Pal_paintFrom) (maxL := 5) (ret := (some .boolean)) (by decide) rfl ?_
  intro p e s m args below meth c s₁ B hml hv
  obtain ⟨hargs, hsz, hP, hK, hD0, hN⟩ := hv
  have hx := B.exec
  have hb := B.bytes
  have hr := B.returns
  have hts := atoms_spec (ws := w_Pal_paintFrom) B.pre
  have hown : s.vm.findClass R_Pal = some m.cls := findClass_of_methodNamed B.named
  have hlocks := B.notSynchronized
  subst hsz
  have hD := hD0.self (sz := s.heap.size)
  generalize hAe : va_A [(aq, .inr (3, [.int zq_there, .int zq_allowed, .ref aq_shades])), (aq_shades, .inl (kq_shades, 10, .inl zq_shades)), (aw, .inr (1, [.ref aw_near])), (aw_near, .inl (kw_near, 11, .inl zw_near))] s.heap.size = A at hD ⊢
  have hA : ∀ q : Nat, s.heap.size ≤ q → A q := fun q h => by rw [← hAe]; exact Or.inr h
  have hS : va_S A s.heap s.heap [] := va_S.rf
  have hl := lv_entry ([.ref aq, .ref aw, .int v2, .int v3]) (n := 5) (Nat.le_of_ble_eq_true rfl)
  refine W.eq (congrArg (fun a => entryFrame m a 5) hargs) ?_
  rw [lg_entry_eq]
  generalize (lg_sl ([.ref aq, .ref aw, .int v2, .int v3]) ++ List.replicate (5 - (lg_sl ([.ref aq, .ref aw, .int v2, .int v3])).length) Slot.unset).toArray = ls at hl ⊢
  have hl : lv_has ls 5 [(0, .ref aq), (1, .ref aw), (2, .int v2), (3, .int v3)] := hl
  generalize hH0 : ([] : List Loc) = locs at hS ⊢
  have hI := hR.symm
  rw [F_paintFromR] at hI
  refine lv_iload_n hx hb d_Pal_paintFrom_0 rfl (lv_at hl 2 rfl) ?_
  refine lv_bipush (v := 10) hx hb d_Pal_paintFrom_1 (by decide) ?_
  refine lv_icmp_lt (tgt := 8) hx hb d_Pal_paintFrom_3 rfl (fun hc_3 => ?_) (fun hc_3 => ?_)
  · skip
    have hI := hI.trans (if_pos hc_3)
    refine lv_aload_n hx hb d_Pal_paintFrom_8 rfl (lv_at hl 0 rfl) ?_
    refine va_get (D := (dC, dI)) (ci := 3) (v := .int zq_there) (C := R_Pal) (T := F_Pal) (N := 3) hx hb hts (fun w h => List.mem_cons_of_mem _ (in_Pal w h)) hown hK hP 0 rfl rfl 0 (by decide) (hts _ (List.mem_cons_of_mem _ mw_1_73)) (fun _ h9 => h9) rfl d_Pal_paintFrom_9 ?_
    refine lv_iload_n hx hb d_Pal_paintFrom_12 rfl (lv_at hl 2 rfl) ?_
    have hPc := hP.sub (ws' := []) [] rfl
    have hDc := hD.sub (ws' := []) [] (by decide) rfl
    have hKc := hK.sub (tys' := []) [] rfl
    have hFc := va_free (wc := []) hD hS hA [] rfl
    refine va_calli (va_runSN (As := [.int zq_there, .int v2]) (rest := []) ⟨hx, hb, hml, hown, hts⟩ (c_has l dC dI s.heap.size zq_there v2) (⟨va_cnB 2 hts (gi0 mw_1_150) rfl rfl rfl (hN (R_Pal, 26, y_PS_has, R_PS) (by decide +kernel)) (hts _ (List.mem_cons_of_mem _ mw_1_1)) (by decide +kernel) ⟨Nat.le_of_ble_eq_true rfl, Nat.le_of_ble_eq_true rfl⟩, hts _ (List.mem_cons_of_mem _ mw_1_149), trivial⟩) ⟨fb_, pre_ hPc hKc hDc hN⟩ rfl rfl hl.1 rfl (lv_room (Nat.le_of_ble_eq_true rfl)) d_Pal_paintFrom_13 ⟨Nat.le_of_ble_eq_true rfl, Nat.le_of_ble_eq_true rfl⟩) hS (fun q _ h => hFc q h) hFc (fun r_13 u t H locs ht hvm hp_13 hB hz1 hk1 hS => ?_)
    obtain ⟨hP1, -, hD1⟩ := hB
    rw [ht] at hP1
    obtain ⟨hP, hD⟩ := va_join (wr := [(aq, .inr (3, [.int zq_there, .int zq_allowed, .ref aq_shades])), (aq_shades, .inl (kq_shades, 10, .inl zq_shades)), (aw, .inr (1, [.ref aw_near])), (aw_near, .inl (kw_near, 11, .inl zw_near))]) (w1 := []) hP hD [] [0, 1, 2, 3] rfl rfl (by decide) (by decide) hk1 hFc hP1 hD1
    have hp_13 : r_13 = f_has zq_there v2 := hp_13
    subst hp_13
    have hP : va_P (dC, dI) classes [(aq, .inr (3, [.int zq_there, .int zq_allowed, .ref aq_shades])), (aq_shades, .inl (kq_shades, 10, .inl zq_shades)), (aw, .inr (1, [.ref aw_near])), (aw_near, .inl (kw_near, 11, .inl zw_near))] H := hP
    have hD : va_D A [(aq, .inr (3, [.int zq_there, .int zq_allowed, .ref aq_shades])), (aq_shades, .inl (kq_shades, 10, .inl zq_shades)), (aw, .inr (1, [.ref aw_near])), (aw_near, .inl (kw_near, 11, .inl zw_near))] := hD
    refine lv_if_ne (tgt := 29) hx hb d_Pal_paintFrom_16 rfl (fun hc_16 => ?_) (fun hc_16 => ?_)
    · skip
      have hI := hI.trans (if_neg hc_16)
      refine lv_iconst (v := 0) hx hb d_Pal_paintFrom_29 (by decide) ?_
      refine lv_istore (lv' := [(4, .int 0), (0, .ref aq), (1, .ref aw), (2, .int v2), (3, .int v3)]) hx hb d_Pal_paintFrom_30 hl (by decide) rfl (fun ls hl => ?_)
      obtain ⟨K_32, hK_32⟩ : ∃ K : Int32 → (Nat → Int32) → Option (Int32 × (Nat → Int32)), K = (fun v4_32 wq_shades_32 => some ((0 : Int32), wq_shades_32)) := ⟨_, rfl⟩
      have X_32 : ∀ (k_32 : Nat) (v4_32 : Int32) (wq_shades_32 : Nat → Int32) (H : Heap) (locs : List Loc) (ls : Array Slot), some R = K_32 v4_32 wq_shades_32 → va_P (dC, dI) classes [(aq, .inr (3, [.int zq_there, .int zq_allowed, .ref aq_shades])), (aq_shades, .inl (kq_shades, 10, .inl wq_shades_32)), (aw, .inr (1, [.ref aw_near])), (aw_near, .inl (kw_near, 11, .inl zw_near))] H → va_D A [(aq, .inr (3, [.int zq_there, .int zq_allowed, .ref aq_shades])), (aq_shades, .inl (kq_shades, 10, .inl wq_shades_32)), (aw, .inr (1, [.ref aw_near])), (aw_near, .inl (kw_near, 11, .inl zw_near))] → va_S A s.heap H locs → lv_has ls 5 [(0, .ref aq), (1, .ref aw), (2, .int v2), (3, .int v3), (4, .int v4_32)] → W p l e (headSpec w_Pal_paintFrom ({ frames := 12, cells := 0, slots := 0, locals := 285 })).room s m args below meth c H locs 0 0 (MQ below (va_Qi (fun (r : Int32) (u : (Nat → Int32)) => ((r, u) = R) ∧ z01 r) (fun u t => End_ dC dI A [(kq_shades, .int), (kw_near, .int)] [(aq, .inr (3, [.int zq_there, .int zq_allowed, .ref aq_shades])), (aq_shades, .inl (kq_shades, 10, .inl u)), (aw, .inr (1, [.ref aw_near])), (aw_near, .inl (kw_near, 11, .inl zw_near))] t) A) args s 0 0 A) (F0 m 103 ls []) := by
        intro k_32 v4_32 wq_shades_32 H locs ls hI hP hD hS hl
        rw [hK_32] at hI
        refine lv_iconst (v := 0) hx hb d_Pal_paintFrom_103 (by decide) ?_
        exact W.zret (v := 0) (ty := .boolean) hx hb hr (nr01 (Or.inl rfl)) (fun t ht hW => ⟨⟨0, (wq_shades_32), rfl, ⟨(Option.some.inj hI).symm, (Or.inl rfl)⟩, by rw [ht]; exact hP, va_K.moved hW.alike hK, hD⟩, hS.F ht⟩) hS.2.2 d_Pal_paintFrom_104
      have L_32 : ∀ (n_32 k_32 : Nat) (v4_32 : Int32) (wq_shades_32 : Nat → Int32) (H : Heap) (locs : List Loc) (ls : Array Slot), some R = F_paintFromR_L32 K_32 zq_there zq_allowed zw_near v2 v3 (F_paintFromR 10) n_32 v4_32 wq_shades_32 → va_P (dC, dI) classes [(aq, .inr (3, [.int zq_there, .int zq_allowed, .ref aq_shades])), (aq_shades, .inl (kq_shades, 10, .inl wq_shades_32)), (aw, .inr (1, [.ref aw_near])), (aw_near, .inl (kw_near, 11, .inl zw_near))] H → va_D A [(aq, .inr (3, [.int zq_there, .int zq_allowed, .ref aq_shades])), (aq_shades, .inl (kq_shades, 10, .inl wq_shades_32)), (aw, .inr (1, [.ref aw_near])), (aw_near, .inl (kw_near, 11, .inl zw_near))] → va_S A s.heap H locs → lv_has ls 5 [(0, .ref aq), (1, .ref aw), (2, .int v2), (3, .int v3), (4, .int v4_32)] → W p l e (headSpec w_Pal_paintFrom ({ frames := 12, cells := 0, slots := 0, locals := 285 })).room s m args below meth c H locs 0 0 (MQ below (va_Qi (fun (r : Int32) (u : (Nat → Int32)) => ((r, u) = R) ∧ z01 r) (fun u t => End_ dC dI A [(kq_shades, .int), (kw_near, .int)] [(aq, .inr (3, [.int zq_there, .int zq_allowed, .ref aq_shades])), (aq_shades, .inl (kq_shades, 10, .inl u)), (aw, .inr (1, [.ref aw_near])), (aw_near, .inl (kw_near, 11, .inl zw_near))] t) A) args s 0 0 A) (F0 m 32 ls []) := by
        intro n_32
        induction n_32 with
        | zero =>
          intro k_32 v4_32 wq_shades_32 H locs ls hI hP hD hS hl
          rw [F_paintFromR_L32] at hI
          exact absurd hI (ob_no _)
        | succ n_32 ih_32 =>
          intro k_32 v4_32 wq_shades_32 H locs ls hI hP hD hS hl
          rw [F_paintFromR_L32] at hI
          refine lv_iload hx hb d_Pal_paintFrom_32 (lv_at hl 4 rfl) ?_
          refine lv_iload_n hx hb d_Pal_paintFrom_34 rfl (lv_at hl 3 rfl) ?_
          refine lv_icmp_gt (tgt := 103) hx hb d_Pal_paintFrom_35 rfl (fun hc_35 => ?_) (fun hc_35 => ?_)
          · skip
            have hI := hI.trans (if_pos hc_35)
            have hl := lv_sub hl [0, 1, 2, 3, 4] rfl
            exact X_32 0 _ _ _ _ _ hI hP hD hS hl
          · skip
            have hI := hI.trans (if_neg hc_35)
            refine lv_iload hx hb d_Pal_paintFrom_38 (lv_at hl 4 rfl) ?_
            refine lv_aload_n hx hb d_Pal_paintFrom_40 rfl (lv_at hl 0 rfl) ?_
            refine va_get (D := (dC, dI)) (ci := 3) (v := .int zq_allowed) (C := R_Pal) (T := F_Pal) (N := 3) hx hb hts (fun w h => List.mem_cons_of_mem _ (in_Pal w h)) hown hK hP 0 rfl rfl 1 (by decide) (hts _ (List.mem_cons_of_mem _ mw_1_74)) (fun _ h9 => h9) rfl d_Pal_paintFrom_41 ?_
            refine lv_icmp_ge (tgt := 103) hx hb d_Pal_paintFrom_44 rfl (fun hc_44 => ?_) (fun hc_44 => ?_)
            · skip
              have hI := hI.trans (if_pos hc_44)
              have hl := lv_sub hl [0, 1, 2, 3, 4] rfl
              exact X_32 0 _ _ _ _ _ hI hP hD hS hl
            · skip
              have hI := hI.trans (if_neg hc_44)
              refine lv_aload_n hx hb d_Pal_paintFrom_47 rfl (lv_at hl 0 rfl) ?_
              refine lv_aload_n hx hb d_Pal_paintFrom_48 rfl (lv_at hl 1 rfl) ?_
              refine lv_iload hx hb d_Pal_paintFrom_49 (lv_at hl 4 rfl) ?_
              refine lv_iload_n hx hb d_Pal_paintFrom_51 rfl (lv_at hl 2 rfl) ?_
              obtain ⟨p_52, hg_52, hI⟩ := ob_bd hI
              have hPc := hP.sub (ws' := [(aq, .inr (3, [.int zq_there, .int zq_allowed, .ref aq_shades])), (aq_shades, .inl (kq_shades, 10, .inl wq_shades_32)), (aw, .inr (1, [.ref aw_near])), (aw_near, .inl (kw_near, 11, .inl zw_near))]) [0, 1, 2, 3] rfl
              have hDc := hD.sub (ws' := [(aq, .inr (3, [.int zq_there, .int zq_allowed, .ref aq_shades])), (aq_shades, .inl (kq_shades, 10, .inl wq_shades_32)), (aw, .inr (1, [.ref aw_near])), (aw_near, .inl (kw_near, 11, .inl zw_near))]) [0, 1, 2, 3] (by decide) rfl
              have hKc := hK.sub (tys' := [(kq_shades, .int), (kw_near, .int)]) [0, 1] rfl
              have hFc := va_free (wc := [(aq, .inr (3, [.int zq_there, .int zq_allowed, .ref aq_shades])), (aq_shades, .inl (kq_shades, 10, .inl wq_shades_32)), (aw, .inr (1, [.ref aw_near])), (aw_near, .inl (kw_near, 11, .inl zw_near))]) hD hS hA [0, 1, 2, 3] rfl
              refine va_calli (va_runV (As := [.ref aw, .int v4_32, .int v2]) (rest := []) ⟨hx, hb, hml, hown, hts⟩ (c_isFreeG l dC dI H.size aq aw aq_shades aw_near kq_shades kw_near zq_there zq_allowed wq_shades_32 zw_near v4_32 v2 p_52 hg_52) (cwV 3 hts (gi4 mw_2_39 mw_2_41 mw_p_19 mw_1_4 mw_2_42) rfl rfl rfl (by decide +kernel) ⟨Nat.le_of_ble_eq_true rfl, Nat.le_of_ble_eq_true rfl⟩) ⟨fb_, va_recv (q0 := 0) (ci := 3) hK hP rfl rfl, pre_ hPc hKc hDc hN⟩ rfl rfl hl.1 rfl (lv_room (Nat.le_of_ble_eq_true rfl)) d_Pal_paintFrom_52 ⟨Nat.le_of_ble_eq_true rfl, Nat.le_of_ble_eq_true rfl⟩) hS (fun q _ h => hFc q h) hFc (fun r_52 u t H locs ht hvm hp_52 hB hz1 hk1 hS => ?_)
              obtain ⟨hP1, -, hD1⟩ := hB
              rw [ht] at hP1
              obtain ⟨hP, hD⟩ := va_join (wr := []) (w1 := [(aq, .inr (3, [.int zq_there, .int zq_allowed, .ref aq_shades])), (aq_shades, .inl (kq_shades, 10, .inl wq_shades_32)), (aw, .inr (1, [.ref aw_near])), (aw_near, .inl (kw_near, 11, .inl zw_near))]) hP hD [0, 1, 2, 3] [] rfl rfl (by decide) (by decide) hk1 hFc hP1 hD1
              obtain ⟨hp_52, hz_52⟩ := hp_52
              have hp_52 : (r_52) = p_52 := hp_52
              subst hp_52
              have hP : va_P (dC, dI) classes [(aq, .inr (3, [.int zq_there, .int zq_allowed, .ref aq_shades])), (aq_shades, .inl (kq_shades, 10, .inl wq_shades_32)), (aw, .inr (1, [.ref aw_near])), (aw_near, .inl (kw_near, 11, .inl zw_near))] H := hP
              have hD : va_D A [(aq, .inr (3, [.int zq_there, .int zq_allowed, .ref aq_shades])), (aq_shades, .inl (kq_shades, 10, .inl wq_shades_32)), (aw, .inr (1, [.ref aw_near])), (aw_near, .inl (kw_near, 11, .inl zw_near))] := hD
              refine lv_if_eq (tgt := 97) hx hb d_Pal_paintFrom_55 rfl (fun hc_55 => ?_) (fun hc_55 => ?_)
              · skip
                have hI := hI.trans (if_pos hc_55)
                refine lv_iinc (lv' := [(4, .int (v4_32 + 1)), (0, .ref aq), (1, .ref aw), (2, .int v2), (3, .int v3)]) (k := 4) hx hb d_Pal_paintFrom_97 hl rfl (z_inc1 _) (by decide) rfl (fun ls hl => ?_)
                refine lv_goto (tgt := 32) hx hb d_Pal_paintFrom_100 rfl ?_
                have hl := lv_sub hl [1, 2, 3, 4, 0] rfl
                exact ih_32 0 _ _ _ _ _ hI hP hD hS hl
              · skip
                have hI := hI.trans (if_neg hc_55)
                refine lv_aload_n hx hb d_Pal_paintFrom_58 rfl (lv_at hl 0 rfl) ?_
                refine va_get (D := (dC, dI)) (ci := 3) (v := .ref aq_shades) (C := R_Pal) (T := F_Pal) (N := 3) hx hb hts (fun w h => List.mem_cons_of_mem _ (in_Pal w h)) hown hK hP 0 rfl rfl 2 (by decide) (hts _ (List.mem_cons_of_mem _ mw_1_75)) (fun _ h9 => h9) rfl d_Pal_paintFrom_59 ?_
                refine lv_iload_n hx hb d_Pal_paintFrom_62 rfl (lv_at hl 2 rfl) ?_
                refine lv_iload hx hb d_Pal_paintFrom_63 (lv_at hl 4 rfl) ?_
                have hi_65 := ob_in hI
                have hI := ob_th hI
                refine va_iast (D := (dC, dI)) hx hb hK hP hD hS 1 0 rfl rfl hi_65 d_Pal_paintFrom_65 (fun H locs hP hD hS => ?_)
                have hP : va_P (dC, dI) classes [(aq, .inr (3, [.int zq_there, .int zq_allowed, .ref aq_shades])), (aq_shades, .inl (kq_shades, 10, .inl (upd wq_shades_32 (Int32.toNatClampNeg v2) v4_32))), (aw, .inr (1, [.ref aw_near])), (aw_near, .inl (kw_near, 11, .inl zw_near))] H := hP
                have hD : va_D A [(aq, .inr (3, [.int zq_there, .int zq_allowed, .ref aq_shades])), (aq_shades, .inl (kq_shades, 10, .inl (upd wq_shades_32 (Int32.toNatClampNeg v2) v4_32))), (aw, .inr (1, [.ref aw_near])), (aw_near, .inl (kw_near, 11, .inl zw_near))] := hD
                refine lv_aload_n hx hb d_Pal_paintFrom_66 rfl (lv_at hl 0 rfl) ?_
                refine lv_aload_n hx hb d_Pal_paintFrom_67 rfl (lv_at hl 1 rfl) ?_
                refine lv_iload_n hx hb d_Pal_paintFrom_68 rfl (lv_at hl 2 rfl) ?_
                refine lv_iconst (v := 1) hx hb d_Pal_paintFrom_69 (by decide) ?_
                refine lv_iadd hx hb d_Pal_paintFrom_70 ?_
                refine lv_iload_n hx hb d_Pal_paintFrom_71 rfl (lv_at hl 3 rfl) ?_
                refine lv_iload hx hb d_Pal_paintFrom_72 (lv_at hl 4 rfl) ?_
                refine lv_iconst (v := 1) hx hb d_Pal_paintFrom_74 (by decide) ?_
                refine lv_iadd hx hb d_Pal_paintFrom_75 ?_
                refine va_mmax hx hb (hml.trans hl.1.symm) hown (hts _ (List.mem_cons_of_mem _ mw_2_44)) (hts _ (List.mem_cons_of_mem _ mw_2_45)) (hts _ (List.mem_cons_of_mem _ mw_1_15)) (hts _ (List.mem_cons_of_mem _ mw_2_46)) (Nat.le_of_ble_eq_true rfl) (Nat.le_of_ble_eq_true rfl) (Nat.le_of_ble_eq_true rfl) (Nat.le_of_ble_eq_true rfl) d_Pal_paintFrom_76 ?_
                obtain ⟨p_79, hg_79, hI⟩ := ob_bd hI
                have hPc := hP.sub (ws' := [(aq, .inr (3, [.int zq_there, .int zq_allowed, .ref aq_shades])), (aq_shades, .inl (kq_shades, 10, .inl (upd wq_shades_32 (Int32.toNatClampNeg v2) v4_32))), (aw, .inr (1, [.ref aw_near])), (aw_near, .inl (kw_near, 11, .inl zw_near))]) [0, 1, 2, 3] rfl
                have hDc := hD.sub (ws' := [(aq, .inr (3, [.int zq_there, .int zq_allowed, .ref aq_shades])), (aq_shades, .inl (kq_shades, 10, .inl (upd wq_shades_32 (Int32.toNatClampNeg v2) v4_32))), (aw, .inr (1, [.ref aw_near])), (aw_near, .inl (kw_near, 11, .inl zw_near))]) [0, 1, 2, 3] (by decide) rfl
                have hKc := hK.sub (tys' := [(kq_shades, .int), (kw_near, .int)]) [0, 1] rfl
                have hFc := va_free (wc := [(aq, .inr (3, [.int zq_there, .int zq_allowed, .ref aq_shades])), (aq_shades, .inl (kq_shades, 10, .inl (upd wq_shades_32 (Int32.toNatClampNeg v2) v4_32))), (aw, .inr (1, [.ref aw_near])), (aw_near, .inl (kw_near, 11, .inl zw_near))]) hD hS hA [0, 1, 2, 3] rfl
                refine va_calli (va_runV (As := [.ref aw, .int (v2 + 1), .int (if v3 < (v4_32 + 1) then (v4_32 + 1) else v3)]) (rest := []) ⟨hx, hb, hml, hown, hts⟩ (c_paintFrom_10 l dC dI H.size aq aw aq_shades aw_near kq_shades kw_near zq_there zq_allowed (upd wq_shades_32 (Int32.toNatClampNeg v2) v4_32) zw_near (v2 + 1) (if v3 < (v4_32 + 1) then (v4_32 + 1) else v3) p_79 hg_79) (cwV 3 hts (gi4 mw_2_34 mw_2_36 mw_p_18 mw_1_4 mw_2_37) rfl rfl rfl (by decide +kernel) ⟨Nat.le_of_ble_eq_true rfl, Nat.le_of_ble_eq_true rfl⟩) ⟨fb_, va_recv (q0 := 0) (ci := 3) hK hP rfl rfl, pre_ hPc hKc hDc hN⟩ rfl rfl hl.1 rfl (lv_room (Nat.le_of_ble_eq_true rfl)) d_Pal_paintFrom_79 ⟨Nat.le_of_ble_eq_true rfl, Nat.le_of_ble_eq_true rfl⟩) hS (fun q _ h => hFc q h) hFc (fun r_79 wq_shades_79 t H locs ht hvm hp_79 hB hz1 hk1 hS => ?_)
                obtain ⟨hP1, -, hD1⟩ := hB
                rw [ht] at hP1
                obtain ⟨hP, hD⟩ := va_join (wr := []) (w1 := [(aq, .inr (3, [.int zq_there, .int zq_allowed, .ref aq_shades])), (aq_shades, .inl (kq_shades, 10, .inl wq_shades_79)), (aw, .inr (1, [.ref aw_near])), (aw_near, .inl (kw_near, 11, .inl zw_near))]) hP hD [0, 1, 2, 3] [] rfl rfl (by decide) (by decide) hk1 hFc hP1 hD1
                obtain ⟨hp_79, hz_79⟩ := hp_79
                have hp_79 : (r_79, wq_shades_79) = p_79 := hp_79
                subst hp_79
                have hP : va_P (dC, dI) classes [(aq, .inr (3, [.int zq_there, .int zq_allowed, .ref aq_shades])), (aq_shades, .inl (kq_shades, 10, .inl wq_shades_79)), (aw, .inr (1, [.ref aw_near])), (aw_near, .inl (kw_near, 11, .inl zw_near))] H := hP
                have hD : va_D A [(aq, .inr (3, [.int zq_there, .int zq_allowed, .ref aq_shades])), (aq_shades, .inl (kq_shades, 10, .inl wq_shades_79)), (aw, .inr (1, [.ref aw_near])), (aw_near, .inl (kw_near, 11, .inl zw_near))] := hD
                refine lv_if_eq (tgt := 87) hx hb d_Pal_paintFrom_82 rfl (fun hc_82 => ?_) (fun hc_82 => ?_)
                · skip
                  have hI := hI.trans (if_pos hc_82)
                  refine lv_aload_n hx hb d_Pal_paintFrom_87 rfl (lv_at hl 1 rfl) ?_
                  refine lv_iload_n hx hb d_Pal_paintFrom_88 rfl (lv_at hl 2 rfl) ?_
                  obtain ⟨p_89, hg_89, hI⟩ := ob_bd hI
                  have hPc := hP.sub (ws' := [(aw, .inr (1, [.ref aw_near])), (aw_near, .inl (kw_near, 11, .inl zw_near))]) [2, 3] rfl
                  have hDc := hD.sub (ws' := [(aw, .inr (1, [.ref aw_near])), (aw_near, .inl (kw_near, 11, .inl zw_near))]) [2, 3] (by decide) rfl
                  have hKc := hK.sub (tys' := [(kw_near, .int)]) [1] rfl
                  have hFc := va_free (wc := [(aw, .inr (1, [.ref aw_near])), (aw_near, .inl (kw_near, 11, .inl zw_near))]) hD hS hA [2, 3] rfl
                  refine va_calli (va_runS (As := [.ref aw, .int v2]) (rest := []) ⟨hx, hb, hml, hown, hts⟩ (c_hasLaterG l dC dI H.size aw aw_near kw_near zw_near v2 p_89 hg_89) (cwS 2 hts (gi3 mw_2_47 mw_2_48 mw_1_4 mw_2_49) rfl rfl rfl (by decide +kernel) ⟨Nat.le_of_ble_eq_true rfl, Nat.le_of_ble_eq_true rfl⟩) ⟨fb_, pre_ hPc hKc hDc hN⟩ rfl rfl hl.1 rfl (lv_room (Nat.le_of_ble_eq_true rfl)) d_Pal_paintFrom_89 ⟨Nat.le_of_ble_eq_true rfl, Nat.le_of_ble_eq_true rfl⟩) hS (fun q _ h => hFc q h) hFc (fun r_89 u t H locs ht hvm hp_89 hB hz1 hk1 hS => ?_)
                  obtain ⟨hP1, -, hD1⟩ := hB
                  rw [ht] at hP1
                  obtain ⟨hP, hD⟩ := va_join (wr := [(aq, .inr (3, [.int zq_there, .int zq_allowed, .ref aq_shades])), (aq_shades, .inl (kq_shades, 10, .inl wq_shades_79))]) (w1 := [(aw, .inr (1, [.ref aw_near])), (aw_near, .inl (kw_near, 11, .inl zw_near))]) hP hD [2, 3] [0, 1] rfl rfl (by decide) (by decide) hk1 hFc hP1 hD1
                  obtain ⟨hp_89, hz_89⟩ := hp_89
                  have hp_89 : (r_89) = p_89 := hp_89
                  subst hp_89
                  have hP : va_P (dC, dI) classes [(aq, .inr (3, [.int zq_there, .int zq_allowed, .ref aq_shades])), (aq_shades, .inl (kq_shades, 10, .inl wq_shades_79)), (aw, .inr (1, [.ref aw_near])), (aw_near, .inl (kw_near, 11, .inl zw_near))] H := hP
                  have hD : va_D A [(aq, .inr (3, [.int zq_there, .int zq_allowed, .ref aq_shades])), (aq_shades, .inl (kq_shades, 10, .inl wq_shades_79)), (aw, .inr (1, [.ref aw_near])), (aw_near, .inl (kw_near, 11, .inl zw_near))] := hD
                  refine lv_if_ne (tgt := 97) hx hb d_Pal_paintFrom_92 rfl (fun hc_92 => ?_) (fun hc_92 => ?_)
                  · skip
                    have hI := hI.trans (if_neg hc_92)
                    refine lv_iinc (lv' := [(4, .int (v4_32 + 1)), (0, .ref aq), (1, .ref aw), (2, .int v2), (3, .int v3)]) (k := 4) hx hb d_Pal_paintFrom_97 hl rfl (z_inc1 _) (by decide) rfl (fun ls hl => ?_)
                    refine lv_goto (tgt := 32) hx hb d_Pal_paintFrom_100 rfl ?_
                    have hl := lv_sub hl [1, 2, 3, 4, 0] rfl
                    exact ih_32 0 _ _ _ _ _ hI hP hD hS hl
                  · skip
                    have hI := hI.trans (if_pos hc_92)
                    refine lv_iconst (v := 0) hx hb d_Pal_paintFrom_95 (by decide) ?_
                    exact W.zret (v := 0) (ty := .boolean) hx hb hr (nr01 (Or.inl rfl)) (fun t ht hW => ⟨⟨0, (wq_shades_79), rfl, ⟨(Option.some.inj hI).symm, (Or.inl rfl)⟩, by rw [ht]; exact hP, va_K.moved hW.alike hK, hD⟩, hS.F ht⟩) hS.2.2 d_Pal_paintFrom_96
                · skip
                  have hI := hI.trans (if_neg hc_82)
                  refine lv_iconst (v := 1) hx hb d_Pal_paintFrom_85 (by decide) ?_
                  exact W.zret (v := 1) (ty := .boolean) hx hb hr (nr01 (Or.inr rfl)) (fun t ht hW => ⟨⟨1, (wq_shades_79), rfl, ⟨(Option.some.inj hI).symm, (Or.inr rfl)⟩, by rw [ht]; exact hP, va_K.moved hW.alike hK, hD⟩, hS.F ht⟩) hS.2.2 d_Pal_paintFrom_86
      have hl : lv_has ls 5 [(0, .ref aq), (1, .ref aw), (2, .int v2), (3, .int v3), (4, .int 0)] := by first | exact lv_sub hl [1, 2, 3, 4, 0] rfl | (rw [nI_succ]; exact lv_sub hl [1, 2, 3, 4, 0] rfl)
      exact L_32 64 0 _ _ _ _ _ (by rw [hK_32]; exact hI) hP hD hS hl
    · skip
      have hI := hI.trans (if_pos hc_16)
      refine lv_aload_n hx hb d_Pal_paintFrom_19 rfl (lv_at hl 0 rfl) ?_
      refine lv_aload_n hx hb d_Pal_paintFrom_20 rfl (lv_at hl 1 rfl) ?_
      refine lv_iload_n hx hb d_Pal_paintFrom_21 rfl (lv_at hl 2 rfl) ?_
      refine lv_iconst (v := 1) hx hb d_Pal_paintFrom_22 (by decide) ?_
      refine lv_iadd hx hb d_Pal_paintFrom_23 ?_
      refine lv_iload_n hx hb d_Pal_paintFrom_24 rfl (lv_at hl 3 rfl) ?_
      obtain ⟨p_25, hg_25, hI⟩ := ob_bd hI
      have hPc := hP.sub (ws' := [(aq, .inr (3, [.int zq_there, .int zq_allowed, .ref aq_shades])), (aq_shades, .inl (kq_shades, 10, .inl zq_shades)), (aw, .inr (1, [.ref aw_near])), (aw_near, .inl (kw_near, 11, .inl zw_near))]) [0, 1, 2, 3] rfl
      have hDc := hD.sub (ws' := [(aq, .inr (3, [.int zq_there, .int zq_allowed, .ref aq_shades])), (aq_shades, .inl (kq_shades, 10, .inl zq_shades)), (aw, .inr (1, [.ref aw_near])), (aw_near, .inl (kw_near, 11, .inl zw_near))]) [0, 1, 2, 3] (by decide) rfl
      have hKc := hK.sub (tys' := [(kq_shades, .int), (kw_near, .int)]) [0, 1] rfl
      have hFc := va_free (wc := [(aq, .inr (3, [.int zq_there, .int zq_allowed, .ref aq_shades])), (aq_shades, .inl (kq_shades, 10, .inl zq_shades)), (aw, .inr (1, [.ref aw_near])), (aw_near, .inl (kw_near, 11, .inl zw_near))]) hD hS hA [0, 1, 2, 3] rfl
      refine va_calli (va_runV (As := [.ref aw, .int (v2 + 1), .int v3]) (rest := []) ⟨hx, hb, hml, hown, hts⟩ (c_paintFrom_10 l dC dI H.size aq aw aq_shades aw_near kq_shades kw_near zq_there zq_allowed zq_shades zw_near (v2 + 1) v3 p_25 hg_25) (cwV 3 hts (gi4 mw_2_34 mw_2_36 mw_p_18 mw_1_4 mw_2_37) rfl rfl rfl (by decide +kernel) ⟨Nat.le_of_ble_eq_true rfl, Nat.le_of_ble_eq_true rfl⟩) ⟨fb_, va_recv (q0 := 0) (ci := 3) hK hP rfl rfl, pre_ hPc hKc hDc hN⟩ rfl rfl hl.1 rfl (lv_room (Nat.le_of_ble_eq_true rfl)) d_Pal_paintFrom_25 ⟨Nat.le_of_ble_eq_true rfl, Nat.le_of_ble_eq_true rfl⟩) hS (fun q _ h => hFc q h) hFc (fun r_25 wq_shades_25 t H locs ht hvm hp_25 hB hz1 hk1 hS => ?_)
      obtain ⟨hP1, -, hD1⟩ := hB
      rw [ht] at hP1
      obtain ⟨hP, hD⟩ := va_join (wr := []) (w1 := [(aq, .inr (3, [.int zq_there, .int zq_allowed, .ref aq_shades])), (aq_shades, .inl (kq_shades, 10, .inl wq_shades_25)), (aw, .inr (1, [.ref aw_near])), (aw_near, .inl (kw_near, 11, .inl zw_near))]) hP hD [0, 1, 2, 3] [] rfl rfl (by decide) (by decide) hk1 hFc hP1 hD1
      obtain ⟨hp_25, hz_25⟩ := hp_25
      have hp_25 : (r_25, wq_shades_25) = p_25 := hp_25
      subst hp_25
      have hP : va_P (dC, dI) classes [(aq, .inr (3, [.int zq_there, .int zq_allowed, .ref aq_shades])), (aq_shades, .inl (kq_shades, 10, .inl wq_shades_25)), (aw, .inr (1, [.ref aw_near])), (aw_near, .inl (kw_near, 11, .inl zw_near))] H := hP
      have hD : va_D A [(aq, .inr (3, [.int zq_there, .int zq_allowed, .ref aq_shades])), (aq_shades, .inl (kq_shades, 10, .inl wq_shades_25)), (aw, .inr (1, [.ref aw_near])), (aw_near, .inl (kw_near, 11, .inl zw_near))] := hD
      exact W.zret (v := r_25) (ty := .boolean) hx hb hr (nr01 hz_25) (fun t ht hW => ⟨⟨r_25, (wq_shades_25), rfl, ⟨(Option.some.inj hI).symm, hz_25⟩, by rw [ht]; exact hP, va_K.moved hW.alike hK, hD⟩, hS.F ht⟩) hS.2.2 d_Pal_paintFrom_28
  · skip
    have hI := hI.trans (if_neg hc_3)
    refine lv_iconst (v := 1) hx hb d_Pal_paintFrom_6 (by decide) ?_
    exact W.zret (v := 1) (ty := .boolean) hx hb hr (nr01 (Or.inr rfl)) (fun t ht hW => ⟨⟨1, (zq_shades), rfl, ⟨(Option.some.inj hI).symm, (Or.inr rfl)⟩, by rw [ht]; exact hP, va_K.moved hW.alike hK, hD⟩, hS.F ht⟩) hS.2.2 d_Pal_paintFrom_7
