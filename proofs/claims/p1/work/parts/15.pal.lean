set_option maxHeartbeats 4000000 in
set_option maxRecDepth 100000 in
theorem c_paintFrom0_10 (l : Launch) (dC : Nat → ClassId) (dI : Nat → Nat → Nat) (sz : Nat) (aq aw aq_shades : Nat) (zq_allowed : Int32) : Met l y_Pal_paintFrom w_Pal_paintFrom ({ frames := 0, cells := 0, slots := 0, locals := 0 }) (Pre_ dC dI sz [.ref aq, .ref aw, .int 10, .int 0] [(aq, .inr (3, [.int 0, .int zq_allowed, .ref aq_shades]))] []) (va_Qi (fun (r : Int32) (u : Unit) => r = 1) (fun u t => End_ dC dI (va_A [(aq, .inr (3, [.int 0, .int zq_allowed, .ref aq_shades]))] sz) [] [(aq, .inr (3, [.int 0, .int zq_allowed, .ref aq_shades]))] t) (va_A [(aq, .inr (3, [.int 0, .int zq_allowed, .ref aq_shades]))] sz)) 0 0 (va_A [(aq, .inr (3, [.int 0, .int zq_allowed, .ref aq_shades]))] sz) := by
  refine Met.ofW (cc := b_Pal_paintFrom) (maxL := 5) (ret := (some .boolean)) (by decide) rfl ?_
  intro p e s m args below meth c s₁ B hml hv
  obtain ⟨hargs, hsz, hP, hK, hD0, hN⟩ := hv
  have hx := B.exec
  have hb := B.bytes
  have hr := B.returns
  have hts := atoms_spec (ws := w_Pal_paintFrom) B.pre
  have hown : s.vm.findClass R_Pal = some m.cls := findClass_of_methodNamed B.named
  have hlocks := B.notSynchronized
  subst hsz
  have hD := hD0.self (sz := s.heap.size)
  generalize hAe : va_A [(aq, .inr (3, [.int 0, .int zq_allowed, .ref aq_shades]))] s.heap.size = A at hD ⊢
  have hA : ∀ q : Nat, s.heap.size ≤ q → A q := fun q h => by rw [← hAe]; exact Or.inr h
  have hS : va_S A s.heap s.heap [] := va_S.rf
  have hl := lv_entry ([.ref aq, .ref aw, .int 10, .int 0]) (n := 5) (Nat.le_of_ble_eq_true rfl)
  refine W.eq (congrArg (fun a => entryFrame m a 5) hargs) ?_
  rw [lg_entry_eq]
  generalize (lg_sl ([.ref aq, .ref aw, .int 10, .int 0]) ++ List.replicate (5 - (lg_sl ([.ref aq, .ref aw, .int 10, .int 0])).length) Slot.unset).toArray = ls at hl ⊢
  have hl : lv_has ls 5 [(0, .ref aq), (1, .ref aw), (2, .int 10), (3, .int 0)] := hl
  generalize hH0 : ([] : List Loc) = locs at hS ⊢
  refine lv_iload_n hx hb d_Pal_paintFrom_0 rfl (lv_at hl 2 rfl) ?_
  refine lv_bipush (v := 10) hx hb d_Pal_paintFrom_1 (by decide) ?_
  refine lv_icmp_lt (tgt := 8) hx hb d_Pal_paintFrom_3 rfl (fun hc_3 => absurd hc_3 (by decide)) (fun hc_3 => ?_)
  refine lv_iconst (v := 1) hx hb d_Pal_paintFrom_6 (by decide) ?_
  exact W.zret (v := 1) (ty := .boolean) hx hb hr rfl (fun t ht hW => ⟨⟨1, (), rfl, rfl, by rw [ht]; exact hP, va_K.moved hW.alike hK, hD⟩, hS.F ht⟩) hS.2.2 d_Pal_paintFrom_7
set_option maxHeartbeats 4000000 in
set_option maxRecDepth 100000 in
theorem c_paintFrom0_9 (l : Launch) (dC : Nat → ClassId) (dI : Nat → Nat → Nat) (sz : Nat) (aq aw aq_shades : Nat) (zq_allowed : Int32) : Met l y_Pal_paintFrom w_Pal_paintFrom ({ frames := 1, cells := 0, slots := 0, locals := 24 }) (Pre_ dC dI sz [.ref aq, .ref aw, .int 9, .int 0] [(aq, .inr (3, [.int 0, .int zq_allowed, .ref aq_shades]))] []) (va_Qi (fun (r : Int32) (u : Unit) => r = 1) (fun u t => End_ dC dI (va_A [(aq, .inr (3, [.int 0, .int zq_allowed, .ref aq_shades]))] sz) [] [(aq, .inr (3, [.int 0, .int zq_allowed, .ref aq_shades]))] t) (va_A [(aq, .inr (3, [.int 0, .int zq_allowed, .ref aq_shades]))] sz)) 0 0 (va_A [(aq, .inr (3, [.int 0, .int zq_allowed, .ref aq_shades]))] sz) := by
  refine Met.ofW (cc := b_Pal_paintFrom) (maxL := 5) (ret := (some .boolean)) (by decide) rfl ?_
  intro p e s m args below meth c s₁ B hml hv
  obtain ⟨hargs, hsz, hP, hK, hD0, hN⟩ := hv
  have hx := B.exec
  have hb := B.bytes
  have hr := B.returns
  have hts := atoms_spec (ws := w_Pal_paintFrom) B.pre
  have hown : s.vm.findClass R_Pal = some m.cls := findClass_of_methodNamed B.named
  have hlocks := B.notSynchronized
  subst hsz
  have hD := hD0.self (sz := s.heap.size)
  generalize hAe : va_A [(aq, .inr (3, [.int 0, .int zq_allowed, .ref aq_shades]))] s.heap.size = A at hD ⊢
  have hA : ∀ q : Nat, s.heap.size ≤ q → A q := fun q h => by rw [← hAe]; exact Or.inr h
  have hS : va_S A s.heap s.heap [] := va_S.rf
  have hl := lv_entry ([.ref aq, .ref aw, .int 9, .int 0]) (n := 5) (Nat.le_of_ble_eq_true rfl)
  refine W.eq (congrArg (fun a => entryFrame m a 5) hargs) ?_
  rw [lg_entry_eq]
  generalize (lg_sl ([.ref aq, .ref aw, .int 9, .int 0]) ++ List.replicate (5 - (lg_sl ([.ref aq, .ref aw, .int 9, .int 0])).length) Slot.unset).toArray = ls at hl ⊢
  have hl : lv_has ls 5 [(0, .ref aq), (1, .ref aw), (2, .int 9), (3, .int 0)] := hl
  generalize hH0 : ([] : List Loc) = locs at hS ⊢
  refine lv_iload_n hx hb d_Pal_paintFrom_0 rfl (lv_at hl 2 rfl) ?_
  refine lv_bipush (v := 10) hx hb d_Pal_paintFrom_1 (by decide) ?_
  refine lv_icmp_lt (tgt := 8) hx hb d_Pal_paintFrom_3 rfl (fun hc_3 => ?_) (fun hc_3 => absurd (by decide) hc_3)
  refine lv_aload_n hx hb d_Pal_paintFrom_8 rfl (lv_at hl 0 rfl) ?_
  refine va_get (D := (dC, dI)) (ci := 3) (v := .int 0) (C := R_Pal) (T := F_Pal) (N := 3) hx hb hts (fun w h => List.mem_cons_of_mem _ (in_Pal w h)) hown hK hP 0 rfl rfl 0 (by decide) (hts _ (List.mem_cons_of_mem _ mw_1_73)) (fun _ h9 => h9) rfl d_Pal_paintFrom_9 ?_
  refine lv_iload_n hx hb d_Pal_paintFrom_12 rfl (lv_at hl 2 rfl) ?_
  have hPc := hP.sub (ws' := []) [] rfl
  have hDc := hD.sub (ws' := []) [] (by decide) rfl
  have hKc := hK.sub (tys' := []) [] rfl
  have hFc := va_free (wc := []) hD hS hA [] rfl
  refine va_calli (va_runSN (As := [.int 0, .int 9]) (rest := []) ⟨hx, hb, hml, hown, hts⟩ (c_has l dC dI s.heap.size 0 9) (⟨va_cnB 2 hts (gi0 mw_1_150) rfl rfl rfl (hN (R_Pal, 26, y_PS_has, R_PS) (by decide +kernel)) (hts _ (List.mem_cons_of_mem _ mw_1_1)) (by decide +kernel) ⟨Nat.le_of_ble_eq_true rfl, Nat.le_of_ble_eq_true rfl⟩, hts _ (List.mem_cons_of_mem _ mw_1_149), trivial⟩) ⟨fb_, pre_ hPc hKc hDc hN⟩ rfl rfl hl.1 rfl (lv_room (Nat.le_of_ble_eq_true rfl)) d_Pal_paintFrom_13 ⟨Nat.le_of_ble_eq_true rfl, Nat.le_of_ble_eq_true rfl⟩) hS (fun q _ h => hFc q h) hFc (fun r_13 u t H locs ht hvm hp_13 hB hz1 hk1 hS => ?_)
  have hp_13 : r_13 = f_has 0 9 := hp_13
  obtain ⟨hP1, -, hD1⟩ := hB
  rw [ht] at hP1
  obtain ⟨hP, hD⟩ := va_join (wr := [(aq, .inr (3, [.int 0, .int zq_allowed, .ref aq_shades]))]) (w1 := []) hP hD [] [0] rfl rfl (by decide) (by decide) hk1 hFc hP1 hD1
  have hP : va_P (dC, dI) classes [(aq, .inr (3, [.int 0, .int zq_allowed, .ref aq_shades]))] H := hP
  have hD : va_D A [(aq, .inr (3, [.int 0, .int zq_allowed, .ref aq_shades]))] := hD
  refine lv_if_ne (tgt := 29) hx hb d_Pal_paintFrom_16 rfl (fun hc_16 => absurd (hp_13.trans (has0 _)) hc_16) (fun hc_16 => ?_)
  refine lv_aload_n hx hb d_Pal_paintFrom_19 rfl (lv_at hl 0 rfl) ?_
  refine lv_aload_n hx hb d_Pal_paintFrom_20 rfl (lv_at hl 1 rfl) ?_
  refine lv_iload_n hx hb d_Pal_paintFrom_21 rfl (lv_at hl 2 rfl) ?_
  refine lv_iconst (v := 1) hx hb d_Pal_paintFrom_22 (by decide) ?_
  refine lv_iadd hx hb d_Pal_paintFrom_23 ?_
  refine lv_topi (fun y_23 e_23 => ?_)
  obtain rfl : y_23 = 10 := e_23.trans (by decide)
  refine lv_iload_n hx hb d_Pal_paintFrom_24 rfl (lv_at hl 3 rfl) ?_
  have hPc := hP.sub (ws' := [(aq, .inr (3, [.int 0, .int zq_allowed, .ref aq_shades]))]) [0] rfl
  have hDc := hD.sub (ws' := [(aq, .inr (3, [.int 0, .int zq_allowed, .ref aq_shades]))]) [0] (by decide) rfl
  have hKc := hK.sub (tys' := []) [] rfl
  have hFc := va_free (wc := [(aq, .inr (3, [.int 0, .int zq_allowed, .ref aq_shades]))]) hD hS hA [0] rfl
  refine va_calli (va_runV (As := [.ref aw, .int 10, .int 0]) (rest := []) ⟨hx, hb, hml, hown, hts⟩ (c_paintFrom0_10 l dC dI H.size aq aw aq_shades zq_allowed) (cwV 3 hts (gi4 mw_2_34 mw_2_36 mw_p_18 mw_1_4 mw_2_37) rfl rfl rfl (by decide +kernel) ⟨Nat.le_of_ble_eq_true rfl, Nat.le_of_ble_eq_true rfl⟩) ⟨fb_, va_recv (q0 := 0) (ci := 3) hK hP rfl rfl, pre_ hPc hKc hDc hN⟩ rfl rfl hl.1 rfl (lv_room (Nat.le_of_ble_eq_true rfl)) d_Pal_paintFrom_25 ⟨Nat.le_of_ble_eq_true rfl, Nat.le_of_ble_eq_true rfl⟩) hS (fun q _ h => hFc q h) hFc (fun r_25 u t H locs ht hvm hp_25 hB hz1 hk1 hS => ?_)
  have hp_25 : r_25 = 1 := hp_25
  obtain ⟨hP1, -, hD1⟩ := hB
  rw [ht] at hP1
  obtain ⟨hP, hD⟩ := va_join (wr := []) (w1 := [(aq, .inr (3, [.int 0, .int zq_allowed, .ref aq_shades]))]) hP hD [0] [] rfl rfl (by decide) (by decide) hk1 hFc hP1 hD1
  have hP : va_P (dC, dI) classes [(aq, .inr (3, [.int 0, .int zq_allowed, .ref aq_shades]))] H := hP
  have hD : va_D A [(aq, .inr (3, [.int 0, .int zq_allowed, .ref aq_shades]))] := hD
  exact W.zret (v := r_25) (ty := .boolean) hx hb hr (by rw [hp_25]; rfl) (fun t ht hW => ⟨⟨r_25, (), rfl, hp_25, by rw [ht]; exact hP, va_K.moved hW.alike hK, hD⟩, hS.F ht⟩) hS.2.2 d_Pal_paintFrom_28
set_option maxHeartbeats 4000000 in
set_option maxRecDepth 100000 in
theorem c_paintFrom0_8 (l : Launch) (dC : Nat → ClassId) (dI : Nat → Nat → Nat) (sz : Nat) (aq aw aq_shades : Nat) (zq_allowed : Int32) : Met l y_Pal_paintFrom w_Pal_paintFrom ({ frames := 2, cells := 0, slots := 0, locals := 48 }) (Pre_ dC dI sz [.ref aq, .ref aw, .int 8, .int 0] [(aq, .inr (3, [.int 0, .int zq_allowed, .ref aq_shades]))] []) (va_Qi (fun (r : Int32) (u : Unit) => r = 1) (fun u t => End_ dC dI (va_A [(aq, .inr (3, [.int 0, .int zq_allowed, .ref aq_shades]))] sz) [] [(aq, .inr (3, [.int 0, .int zq_allowed, .ref aq_shades]))] t) (va_A [(aq, .inr (3, [.int 0, .int zq_allowed, .ref aq_shades]))] sz)) 0 0 (va_A [(aq, .inr (3, [.int 0, .int zq_allowed, .ref aq_shades]))] sz) := by
  refine Met.ofW (cc := b_Pal_paintFrom) (maxL := 5) (ret := (some .boolean)) (by decide) rfl ?_
  intro p e s m args below meth c s₁ B hml hv
  obtain ⟨hargs, hsz, hP, hK, hD0, hN⟩ := hv
  have hx := B.exec
  have hb := B.bytes
  have hr := B.returns
  have hts := atoms_spec (ws := w_Pal_paintFrom) B.pre
  have hown : s.vm.findClass R_Pal = some m.cls := findClass_of_methodNamed B.named
  have hlocks := B.notSynchronized
  subst hsz
  have hD := hD0.self (sz := s.heap.size)
  generalize hAe : va_A [(aq, .inr (3, [.int 0, .int zq_allowed, .ref aq_shades]))] s.heap.size = A at hD ⊢
  have hA : ∀ q : Nat, s.heap.size ≤ q → A q := fun q h => by rw [← hAe]; exact Or.inr h
  have hS : va_S A s.heap s.heap [] := va_S.rf
  have hl := lv_entry ([.ref aq, .ref aw, .int 8, .int 0]) (n := 5) (Nat.le_of_ble_eq_true rfl)
  refine W.eq (congrArg (fun a => entryFrame m a 5) hargs) ?_
  rw [lg_entry_eq]
  generalize (lg_sl ([.ref aq, .ref aw, .int 8, .int 0]) ++ List.replicate (5 - (lg_sl ([.ref aq, .ref aw, .int 8, .int 0])).length) Slot.unset).toArray = ls at hl ⊢
  have hl : lv_has ls 5 [(0, .ref aq), (1, .ref aw), (2, .int 8), (3, .int 0)] := hl
  generalize hH0 : ([] : List Loc) = locs at hS ⊢
  refine lv_iload_n hx hb d_Pal_paintFrom_0 rfl (lv_at hl 2 rfl) ?_
  refine lv_bipush (v := 10) hx hb d_Pal_paintFrom_1 (by decide) ?_
  refine lv_icmp_lt (tgt := 8) hx hb d_Pal_paintFrom_3 rfl (fun hc_3 => ?_) (fun hc_3 => absurd (by decide) hc_3)
  refine lv_aload_n hx hb d_Pal_paintFrom_8 rfl (lv_at hl 0 rfl) ?_
  refine va_get (D := (dC, dI)) (ci := 3) (v := .int 0) (C := R_Pal) (T := F_Pal) (N := 3) hx hb hts (fun w h => List.mem_cons_of_mem _ (in_Pal w h)) hown hK hP 0 rfl rfl 0 (by decide) (hts _ (List.mem_cons_of_mem _ mw_1_73)) (fun _ h9 => h9) rfl d_Pal_paintFrom_9 ?_
  refine lv_iload_n hx hb d_Pal_paintFrom_12 rfl (lv_at hl 2 rfl) ?_
  have hPc := hP.sub (ws' := []) [] rfl
  have hDc := hD.sub (ws' := []) [] (by decide) rfl
  have hKc := hK.sub (tys' := []) [] rfl
  have hFc := va_free (wc := []) hD hS hA [] rfl
  refine va_calli (va_runSN (As := [.int 0, .int 8]) (rest := []) ⟨hx, hb, hml, hown, hts⟩ (c_has l dC dI s.heap.size 0 8) (⟨va_cnB 2 hts (gi0 mw_1_150) rfl rfl rfl (hN (R_Pal, 26, y_PS_has, R_PS) (by decide +kernel)) (hts _ (List.mem_cons_of_mem _ mw_1_1)) (by decide +kernel) ⟨Nat.le_of_ble_eq_true rfl, Nat.le_of_ble_eq_true rfl⟩, hts _ (List.mem_cons_of_mem _ mw_1_149), trivial⟩) ⟨fb_, pre_ hPc hKc hDc hN⟩ rfl rfl hl.1 rfl (lv_room (Nat.le_of_ble_eq_true rfl)) d_Pal_paintFrom_13 ⟨Nat.le_of_ble_eq_true rfl, Nat.le_of_ble_eq_true rfl⟩) hS (fun q _ h => hFc q h) hFc (fun r_13 u t H locs ht hvm hp_13 hB hz1 hk1 hS => ?_)
  have hp_13 : r_13 = f_has 0 8 := hp_13
  obtain ⟨hP1, -, hD1⟩ := hB
  rw [ht] at hP1
  obtain ⟨hP, hD⟩ := va_join (wr := [(aq, .inr (3, [.int 0, .int zq_allowed, .ref aq_shades]))]) (w1 := []) hP hD [] [0] rfl rfl (by decide) (by decide) hk1 hFc hP1 hD1
  have hP : va_P (dC, dI) classes [(aq, .inr (3, [.int 0, .int zq_allowed, .ref aq_shades]))] H := hP
  have hD : va_D A [(aq, .inr (3, [.int 0, .int zq_allowed, .ref aq_shades]))] := hD
  refine lv_if_ne (tgt := 29) hx hb d_Pal_paintFrom_16 rfl (fun hc_16 => absurd (hp_13.trans (has0 _)) hc_16) (fun hc_16 => ?_)
  refine lv_aload_n hx hb d_Pal_paintFrom_19 rfl (lv_at hl 0 rfl) ?_
  refine lv_aload_n hx hb d_Pal_paintFrom_20 rfl (lv_at hl 1 rfl) ?_
  refine lv_iload_n hx hb d_Pal_paintFrom_21 rfl (lv_at hl 2 rfl) ?_
  refine lv_iconst (v := 1) hx hb d_Pal_paintFrom_22 (by decide) ?_
  refine lv_iadd hx hb d_Pal_paintFrom_23 ?_
  refine lv_topi (fun y_23 e_23 => ?_)
  obtain rfl : y_23 = 9 := e_23.trans (by decide)
  refine lv_iload_n hx hb d_Pal_paintFrom_24 rfl (lv_at hl 3 rfl) ?_
  have hPc := hP.sub (ws' := [(aq, .inr (3, [.int 0, .int zq_allowed, .ref aq_shades]))]) [0] rfl
  have hDc := hD.sub (ws' := [(aq, .inr (3, [.int 0, .int zq_allowed, .ref aq_shades]))]) [0] (by decide) rfl
  have hKc := hK.sub (tys' := []) [] rfl
  have hFc := va_free (wc := [(aq, .inr (3, [.int 0, .int zq_allowed, .ref aq_shades]))]) hD hS hA [0] rfl
  refine va_calli (va_runV (As := [.ref aw, .int 9, .int 0]) (rest := []) ⟨hx, hb, hml, hown, hts⟩ (c_paintFrom0_9 l dC dI H.size aq aw aq_shades zq_allowed) (cwV 3 hts (gi4 mw_2_34 mw_2_36 mw_p_18 mw_1_4 mw_2_37) rfl rfl rfl (by decide +kernel) ⟨Nat.le_of_ble_eq_true rfl, Nat.le_of_ble_eq_true rfl⟩) ⟨fb_, va_recv (q0 := 0) (ci := 3) hK hP rfl rfl, pre_ hPc hKc hDc hN⟩ rfl rfl hl.1 rfl (lv_room (Nat.le_of_ble_eq_true rfl)) d_Pal_paintFrom_25 ⟨Nat.le_of_ble_eq_true rfl, Nat.le_of_ble_eq_true rfl⟩) hS (fun q _ h => hFc q h) hFc (fun r_25 u t H locs ht hvm hp_25 hB hz1 hk1 hS => ?_)
  have hp_25 : r_25 = 1 := hp_25
  obtain ⟨hP1, -, hD1⟩ := hB
  rw [ht] at hP1
  obtain ⟨hP, hD⟩ := va_join (wr := []) (w1 := [(aq, .inr (3, [.int 0, .int zq_allowed, .ref aq_shades]))]) hP hD [0] [] rfl rfl (by decide) (by decide) hk1 hFc hP1 hD1
  have hP : va_P (dC, dI) classes [(aq, .inr (3, [.int 0, .int zq_allowed, .ref aq_shades]))] H := hP
  have hD : va_D A [(aq, .inr (3, [.int 0, .int zq_allowed, .ref aq_shades]))] := hD
  exact W.zret (v := r_25) (ty := .boolean) hx hb hr (by rw [hp_25]; rfl) (fun t ht hW => ⟨⟨r_25, (), rfl, hp_25, by rw [ht]; exact hP, va_K.moved hW.alike hK, hD⟩, hS.F ht⟩) hS.2.2 d_Pal_paintFrom_28
set_option maxHeartbeats 4000000 in
set_option maxRecDepth 100000 in
theorem c_paintFrom0_7 (l : Launch) (dC : Nat → ClassId) (dI : Nat → Nat → Nat) (sz : Nat) (aq aw aq_shades : Nat) (zq_allowed : Int32) : Met l y_Pal_paintFrom w_Pal_paintFrom ({ frames := 3, cells := 0, slots := 0, locals := 72 }) (Pre_ dC dI sz [.ref aq, .ref aw, .int 7, .int 0] [(aq, .inr (3, [.int 0, .int zq_allowed, .ref aq_shades]))] []) (va_Qi (fun (r : Int32) (u : Unit) => r = 1) (fun u t => End_ dC dI (va_A [(aq, .inr (3, [.int 0, .int zq_allowed, .ref aq_shades]))] sz) [] [(aq, .inr (3, [.int 0, .int zq_allowed, .ref aq_shades]))] t) (va_A [(aq, .inr (3, [.int 0, .int zq_allowed, .ref aq_shades]))] sz)) 0 0 (va_A [(aq, .inr (3, [.int 0, .int zq_allowed, .ref aq_shades]))] sz) := by
  refine Met.ofW (cc := b_Pal_paintFrom) (maxL := 5) (ret := (some .boolean)) (by decide) rfl ?_
  intro p e s m args below meth c s₁ B hml hv
  obtain ⟨hargs, hsz, hP, hK, hD0, hN⟩ := hv
  have hx := B.exec
  have hb := B.bytes
  have hr := B.returns
  have hts := atoms_spec (ws := w_Pal_paintFrom) B.pre
  have hown : s.vm.findClass R_Pal = some m.cls := findClass_of_methodNamed B.named
  have hlocks := B.notSynchronized
  subst hsz
  have hD := hD0.self (sz := s.heap.size)
  generalize hAe : va_A [(aq, .inr (3, [.int 0, .int zq_allowed, .ref aq_shades]))] s.heap.size = A at hD ⊢
  have hA : ∀ q : Nat, s.heap.size ≤ q → A q := fun q h => by rw [← hAe]; exact Or.inr h
  have hS : va_S A s.heap s.heap [] := va_S.rf
  have hl := lv_entry ([.ref aq, .ref aw, .int 7, .int 0]) (n := 5) (Nat.le_of_ble_eq_true rfl)
  refine W.eq (congrArg (fun a => entryFrame m a 5) hargs) ?_
  rw [lg_entry_eq]
  generalize (lg_sl ([.ref aq, .ref aw, .int 7, .int 0]) ++ List.replicate (5 - (lg_sl ([.ref aq, .ref aw, .int 7, .int 0])).length) Slot.unset).toArray = ls at hl ⊢
  have hl : lv_has ls 5 [(0, .ref aq), (1, .ref aw), (2, .int 7), (3, .int 0)] := hl
  generalize hH0 : ([] : List Loc) = locs at hS ⊢
  refine lv_iload_n hx hb d_Pal_paintFrom_0 rfl (lv_at hl 2 rfl) ?_
  refine lv_bipush (v := 10) hx hb d_Pal_paintFrom_1 (by decide) ?_
  refine lv_icmp_lt (tgt := 8) hx hb d_Pal_paintFrom_3 rfl (fun hc_3 => ?_) (fun hc_3 => absurd (by decide) hc_3)
  refine lv_aload_n hx hb d_Pal_paintFrom_8 rfl (lv_at hl 0 rfl) ?_
  refine va_get (D := (dC, dI)) (ci := 3) (v := .int 0) (C := R_Pal) (T := F_Pal) (N := 3) hx hb hts (fun w h => List.mem_cons_of_mem _ (in_Pal w h)) hown hK hP 0 rfl rfl 0 (by decide) (hts _ (List.mem_cons_of_mem _ mw_1_73)) (fun _ h9 => h9) rfl d_Pal_paintFrom_9 ?_
  refine lv_iload_n hx hb d_Pal_paintFrom_12 rfl (lv_at hl 2 rfl) ?_
  have hPc := hP.sub (ws' := []) [] rfl
  have hDc := hD.sub (ws' := []) [] (by decide) rfl
  have hKc := hK.sub (tys' := []) [] rfl
  have hFc := va_free (wc := []) hD hS hA [] rfl
  refine va_calli (va_runSN (As := [.int 0, .int 7]) (rest := []) ⟨hx, hb, hml, hown, hts⟩ (c_has l dC dI s.heap.size 0 7) (⟨va_cnB 2 hts (gi0 mw_1_150) rfl rfl rfl (hN (R_Pal, 26, y_PS_has, R_PS) (by decide +kernel)) (hts _ (List.mem_cons_of_mem _ mw_1_1)) (by decide +kernel) ⟨Nat.le_of_ble_eq_true rfl, Nat.le_of_ble_eq_true rfl⟩, hts _ (List.mem_cons_of_mem _ mw_1_149), trivial⟩) ⟨fb_, pre_ hPc hKc hDc hN⟩ rfl rfl hl.1 rfl (lv_room (Nat.le_of_ble_eq_true rfl)) d_Pal_paintFrom_13 ⟨Nat.le_of_ble_eq_true rfl, Nat.le_of_ble_eq_true rfl⟩) hS (fun q _ h => hFc q h) hFc (fun r_13 u t H locs ht hvm hp_13 hB hz1 hk1 hS => ?_)
  have hp_13 : r_13 = f_has 0 7 := hp_13
  obtain ⟨hP1, -, hD1⟩ := hB
  rw [ht] at hP1
  obtain ⟨hP, hD⟩ := va_join (wr := [(aq, .inr (3, [.int 0, .int zq_allowed, .ref aq_shades]))]) (w1 := []) hP hD [] [0] rfl rfl (by decide) (by decide) hk1 hFc hP1 hD1
  have hP : va_P (dC, dI) classes [(aq, .inr (3, [.int 0, .int zq_allowed, .ref aq_shades]))] H := hP
  have hD : va_D A [(aq, .inr (3, [.int 0, .int zq_allowed, .ref aq_shades]))] := hD
  refine lv_if_ne (tgt := 29) hx hb d_Pal_paintFrom_16 rfl (fun hc_16 => absurd (hp_13.trans (has0 _)) hc_16) (fun hc_16 => ?_)
  refine lv_aload_n hx hb d_Pal_paintFrom_19 rfl (lv_at hl 0 rfl) ?_
  refine lv_aload_n hx hb d_Pal_paintFrom_20 rfl (lv_at hl 1 rfl) ?_
  refine lv_iload_n hx hb d_Pal_paintFrom_21 rfl (lv_at hl 2 rfl) ?_
  refine lv_iconst (v := 1) hx hb d_Pal_paintFrom_22 (by decide) ?_
  refine lv_iadd hx hb d_Pal_paintFrom_23 ?_
  refine lv_topi (fun y_23 e_23 => ?_)
  obtain rfl : y_23 = 8 := e_23.trans (by decide)
  refine lv_iload_n hx hb d_Pal_paintFrom_24 rfl (lv_at hl 3 rfl) ?_
  have hPc := hP.sub (ws' := [(aq, .inr (3, [.int 0, .int zq_allowed, .ref aq_shades]))]) [0] rfl
  have hDc := hD.sub (ws' := [(aq, .inr (3, [.int 0, .int zq_allowed, .ref aq_shades]))]) [0] (by decide) rfl
  have hKc := hK.sub (tys' := []) [] rfl
  have hFc := va_free (wc := [(aq, .inr (3, [.int 0, .int zq_allowed, .ref aq_shades]))]) hD hS hA [0] rfl
  refine va_calli (va_runV (As := [.ref aw, .int 8, .int 0]) (rest := []) ⟨hx, hb, hml, hown, hts⟩ (c_paintFrom0_8 l dC dI H.size aq aw aq_shades zq_allowed) (cwV 3 hts (gi4 mw_2_34 mw_2_36 mw_p_18 mw_1_4 mw_2_37) rfl rfl rfl (by decide +kernel) ⟨Nat.le_of_ble_eq_true rfl, Nat.le_of_ble_eq_true rfl⟩) ⟨fb_, va_recv (q0 := 0) (ci := 3) hK hP rfl rfl, pre_ hPc hKc hDc hN⟩ rfl rfl hl.1 rfl (lv_room (Nat.le_of_ble_eq_true rfl)) d_Pal_paintFrom_25 ⟨Nat.le_of_ble_eq_true rfl, Nat.le_of_ble_eq_true rfl⟩) hS (fun q _ h => hFc q h) hFc (fun r_25 u t H locs ht hvm hp_25 hB hz1 hk1 hS => ?_)
  have hp_25 : r_25 = 1 := hp_25
  obtain ⟨hP1, -, hD1⟩ := hB
  rw [ht] at hP1
  obtain ⟨hP, hD⟩ := va_join (wr := []) (w1 := [(aq, .inr (3, [.int 0, .int zq_allowed, .ref aq_shades]))]) hP hD [0] [] rfl rfl (by decide) (by decide) hk1 hFc hP1 hD1
  have hP : va_P (dC, dI) classes [(aq, .inr (3, [.int 0, .int zq_allowed, .ref aq_shades]))] H := hP
  have hD : va_D A [(aq, .inr (3, [.int 0, .int zq_allowed, .ref aq_shades]))] := hD
  exact W.zret (v := r_25) (ty := .boolean) hx hb hr (by rw [hp_25]; rfl) (fun t ht hW => ⟨⟨r_25, (), rfl, hp_25, by rw [ht]; exact hP, va_K.moved hW.alike hK, hD⟩, hS.F ht⟩) hS.2.2 d_Pal_paintFrom_28
set_option maxHeartbeats 4000000 in
set_option maxRecDepth 100000 in
theorem c_paintFrom0_6 (l : Launch) (dC : Nat → ClassId) (dI : Nat → Nat → Nat) (sz : Nat) (aq aw aq_shades : Nat) (zq_allowed : Int32) : Met l y_Pal_paintFrom w_Pal_paintFrom ({ frames := 4, cells := 0, slots := 0, locals := 96 }) (Pre_ dC dI sz [.ref aq, .ref aw, .int 6, .int 0] [(aq, .inr (3, [.int 0, .int zq_allowed, .ref aq_shades]))] []) (va_Qi (fun (r : Int32) (u : Unit) => r = 1) (fun u t => End_ dC dI (va_A [(aq, .inr (3, [.int 0, .int zq_allowed, .ref aq_shades]))] sz) [] [(aq, .inr (3, [.int 0, .int zq_allowed, .ref aq_shades]))] t) (va_A [(aq, .inr (3, [.int 0, .int zq_allowed, .ref aq_shades]))] sz)) 0 0 (va_A [(aq, .inr (3, [.int 0, .int zq_allowed, .ref aq_shades]))] sz) := by
  refine Met.ofW (cc := b_Pal_paintFrom) (maxL := 5) (ret := (some .boolean)) (by decide) rfl ?_
  intro p e s m args below meth c s₁ B hml hv
  obtain ⟨hargs, hsz, hP, hK, hD0, hN⟩ := hv
  have hx := B.exec
  have hb := B.bytes
  have hr := B.returns
  have hts := atoms_spec (ws := w_Pal_paintFrom) B.pre
  have hown : s.vm.findClass R_Pal = some m.cls := findClass_of_methodNamed B.named
  have hlocks := B.notSynchronized
  subst hsz
  have hD := hD0.self (sz := s.heap.size)
  generalize hAe : va_A [(aq, .inr (3, [.int 0, .int zq_allowed, .ref aq_shades]))] s.heap.size = A at hD ⊢
  have hA : ∀ q : Nat, s.heap.size ≤ q → A q := fun q h => by rw [← hAe]; exact Or.inr h
  have hS : va_S A s.heap s.heap [] := va_S.rf
  have hl := lv_entry ([.ref aq, .ref aw, .int 6, .int 0]) (n := 5) (Nat.le_of_ble_eq_true rfl)
  refine W.eq (congrArg (fun a => entryFrame m a 5) hargs) ?_
  rw [lg_entry_eq]
  generalize (lg_sl ([.ref aq, .ref aw, .int 6, .int 0]) ++ List.replicate (5 - (lg_sl ([.ref aq, .ref aw, .int 6, .int 0])).length) Slot.unset).toArray = ls at hl ⊢
  have hl : lv_has ls 5 [(0, .ref aq), (1, .ref aw), (2, .int 6), (3, .int 0)] := hl
  generalize hH0 : ([] : List Loc) = locs at hS ⊢
  refine lv_iload_n hx hb d_Pal_paintFrom_0 rfl (lv_at hl 2 rfl) ?_
  refine lv_bipush (v := 10) hx hb d_Pal_paintFrom_1 (by decide) ?_
  refine lv_icmp_lt (tgt := 8) hx hb d_Pal_paintFrom_3 rfl (fun hc_3 => ?_) (fun hc_3 => absurd (by decide) hc_3)
  refine lv_aload_n hx hb d_Pal_paintFrom_8 rfl (lv_at hl 0 rfl) ?_
  refine va_get (D := (dC, dI)) (ci := 3) (v := .int 0) (C := R_Pal) (T := F_Pal) (N := 3) hx hb hts (fun w h => List.mem_cons_of_mem _ (in_Pal w h)) hown hK hP 0 rfl rfl 0 (by decide) (hts _ (List.mem_cons_of_mem _ mw_1_73)) (fun _ h9 => h9) rfl d_Pal_paintFrom_9 ?_
  refine lv_iload_n hx hb d_Pal_paintFrom_12 rfl (lv_at hl 2 rfl) ?_
  have hPc := hP.sub (ws' := []) [] rfl
  have hDc := hD.sub (ws' := []) [] (by decide) rfl
  have hKc := hK.sub (tys' := []) [] rfl
  have hFc := va_free (wc := []) hD hS hA [] rfl
  refine va_calli (va_runSN (As := [.int 0, .int 6]) (rest := []) ⟨hx, hb, hml, hown, hts⟩ (c_has l dC dI s.heap.size 0 6) (⟨va_cnB 2 hts (gi0 mw_1_150) rfl rfl rfl (hN (R_Pal, 26, y_PS_has, R_PS) (by decide +kernel)) (hts _ (List.mem_cons_of_mem _ mw_1_1)) (by decide +kernel) ⟨Nat.le_of_ble_eq_true rfl, Nat.le_of_ble_eq_true rfl⟩, hts _ (List.mem_cons_of_mem _ mw_1_149), trivial⟩) ⟨fb_, pre_ hPc hKc hDc hN⟩ rfl rfl hl.1 rfl (lv_room (Nat.le_of_ble_eq_true rfl)) d_Pal_paintFrom_13 ⟨Nat.le_of_ble_eq_true rfl, Nat.le_of_ble_eq_true rfl⟩) hS (fun q _ h => hFc q h) hFc (fun r_13 u t H locs ht hvm hp_13 hB hz1 hk1 hS => ?_)
  have hp_13 : r_13 = f_has 0 6 := hp_13
  obtain ⟨hP1, -, hD1⟩ := hB
  rw [ht] at hP1
  obtain ⟨hP, hD⟩ := va_join (wr := [(aq, .inr (3, [.int 0, .int zq_allowed, .ref aq_shades]))]) (w1 := []) hP hD [] [0] rfl rfl (by decide) (by decide) hk1 hFc hP1 hD1
  have hP : va_P (dC, dI) classes [(aq, .inr (3, [.int 0, .int zq_allowed, .ref aq_shades]))] H := hP
  have hD : va_D A [(aq, .inr (3, [.int 0, .int zq_allowed, .ref aq_shades]))] := hD
  refine lv_if_ne (tgt := 29) hx hb d_Pal_paintFrom_16 rfl (fun hc_16 => absurd (hp_13.trans (has0 _)) hc_16) (fun hc_16 => ?_)
  refine lv_aload_n hx hb d_Pal_paintFrom_19 rfl (lv_at hl 0 rfl) ?_
  refine lv_aload_n hx hb d_Pal_paintFrom_20 rfl (lv_at hl 1 rfl) ?_
  refine lv_iload_n hx hb d_Pal_paintFrom_21 rfl (lv_at hl 2 rfl) ?_
  refine lv_iconst (v := 1) hx hb d_Pal_paintFrom_22 (by decide) ?_
  refine lv_iadd hx hb d_Pal_paintFrom_23 ?_
  refine lv_topi (fun y_23 e_23 => ?_)
  obtain rfl : y_23 = 7 := e_23.trans (by decide)
  refine lv_iload_n hx hb d_Pal_paintFrom_24 rfl (lv_at hl 3 rfl) ?_
  have hPc := hP.sub (ws' := [(aq, .inr (3, [.int 0, .int zq_allowed, .ref aq_shades]))]) [0] rfl
  have hDc := hD.sub (ws' := [(aq, .inr (3, [.int 0, .int zq_allowed, .ref aq_shades]))]) [0] (by decide) rfl
  have hKc := hK.sub (tys' := []) [] rfl
  have hFc := va_free (wc := [(aq, .inr (3, [.int 0, .int zq_allowed, .ref aq_shades]))]) hD hS hA [0] rfl
  refine va_calli (va_runV (As := [.ref aw, .int 7, .int 0]) (rest := []) ⟨hx, hb, hml, hown, hts⟩ (c_paintFrom0_7 l dC dI H.size aq aw aq_shades zq_allowed) (cwV 3 hts (gi4 mw_2_34 mw_2_36 mw_p_18 mw_1_4 mw_2_37) rfl rfl rfl (by decide +kernel) ⟨Nat.le_of_ble_eq_true rfl, Nat.le_of_ble_eq_true rfl⟩) ⟨fb_, va_recv (q0 := 0) (ci := 3) hK hP rfl rfl, pre_ hPc hKc hDc hN⟩ rfl rfl hl.1 rfl (lv_room (Nat.le_of_ble_eq_true rfl)) d_Pal_paintFrom_25 ⟨Nat.le_of_ble_eq_true rfl, Nat.le_of_ble_eq_true rfl⟩) hS (fun q _ h => hFc q h) hFc (fun r_25 u t H locs ht hvm hp_25 hB hz1 hk1 hS => ?_)
  have hp_25 : r_25 = 1 := hp_25
  obtain ⟨hP1, -, hD1⟩ := hB
  rw [ht] at hP1
  obtain ⟨hP, hD⟩ := va_join (wr := []) (w1 := [(aq, .inr (3, [.int 0, .int zq_allowed, .ref aq_shades]))]) hP hD [0] [] rfl rfl (by decide) (by decide) hk1 hFc hP1 hD1
  have hP : va_P (dC, dI) classes [(aq, .inr (3, [.int 0, .int zq_allowed, .ref aq_shades]))] H := hP
  have hD : va_D A [(aq, .inr (3, [.int 0, .int zq_allowed, .ref aq_shades]))] := hD
  exact W.zret (v := r_25) (ty := .boolean) hx hb hr (by rw [hp_25]; rfl) (fun t ht hW => ⟨⟨r_25, (), rfl, hp_25, by rw [ht]; exact hP, va_K.moved hW.alike hK, hD⟩, hS.F ht⟩) hS.2.2 d_Pal_paintFrom_28
set_option maxHeartbeats 4000000 in
set_option maxRecDepth 100000 in
theorem c_paintFrom0_5 (l : Launch) (dC : Nat → ClassId) (dI : Nat → Nat → Nat) (sz : Nat) (aq aw aq_shades : Nat) (zq_allowed : Int32) : Met l y_Pal_paintFrom w_Pal_paintFrom ({ frames := 5, cells := 0, slots := 0, locals := 120 }) (Pre_ dC dI sz [.ref aq, .ref aw, .int 5, .int 0] [(aq, .inr (3, [.int 0, .int zq_allowed, .ref aq_shades]))] []) (va_Qi (fun (r : Int32) (u : Unit) => r = 1) (fun u t => End_ dC dI (va_A [(aq, .inr (3, [.int 0, .int zq_allowed, .ref aq_shades]))] sz) [] [(aq, .inr (3, [.int 0, .int zq_allowed, .ref aq_shades]))] t) (va_A [(aq, .inr (3, [.int 0, .int zq_allowed, .ref aq_shades]))] sz)) 0 0 (va_A [(aq, .inr (3, [.int 0, .int zq_allowed, .ref aq_shades]))] sz) := by
  refine Met.ofW (cc := b_Pal_paintFrom) (maxL := 5) (ret := (some .boolean)) (by decide) rfl ?_
  intro p e s m args below meth c s₁ B hml hv
  obtain ⟨hargs, hsz, hP, hK, hD0, hN⟩ := hv
  have hx := B.exec
  have hb := B.bytes
  have hr := B.returns
  have hts := atoms_spec (ws := w_Pal_paintFrom) B.pre
  have hown : s.vm.findClass R_Pal = some m.cls := findClass_of_methodNamed B.named
  have hlocks := B.notSynchronized
  subst hsz
  have hD := hD0.self (sz := s.heap.size)
  generalize hAe : va_A [(aq, .inr (3, [.int 0, .int zq_allowed, .ref aq_shades]))] s.heap.size = A at hD ⊢
  have hA : ∀ q : Nat, s.heap.size ≤ q → A q := fun q h => by rw [← hAe]; exact Or.inr h
  have hS : va_S A s.heap s.heap [] := va_S.rf
  have hl := lv_entry ([.ref aq, .ref aw, .int 5, .int 0]) (n := 5) (Nat.le_of_ble_eq_true rfl)
  refine W.eq (congrArg (fun a => entryFrame m a 5) hargs) ?_
  rw [lg_entry_eq]
  generalize (lg_sl ([.ref aq, .ref aw, .int 5, .int 0]) ++ List.replicate (5 - (lg_sl ([.ref aq, .ref aw, .int 5, .int 0])).length) Slot.unset).toArray = ls at hl ⊢
  have hl : lv_has ls 5 [(0, .ref aq), (1, .ref aw), (2, .int 5), (3, .int 0)] := hl
  generalize hH0 : ([] : List Loc) = locs at hS ⊢
  refine lv_iload_n hx hb d_Pal_paintFrom_0 rfl (lv_at hl 2 rfl) ?_
  refine lv_bipush (v := 10) hx hb d_Pal_paintFrom_1 (by decide) ?_
  refine lv_icmp_lt (tgt := 8) hx hb d_Pal_paintFrom_3 rfl (fun hc_3 => ?_) (fun hc_3 => absurd (by decide) hc_3)
  refine lv_aload_n hx hb d_Pal_paintFrom_8 rfl (lv_at hl 0 rfl) ?_
  refine va_get (D := (dC, dI)) (ci := 3) (v := .int 0) (C := R_Pal) (T := F_Pal) (N := 3) hx hb hts (fun w h => List.mem_cons_of_mem _ (in_Pal w h)) hown hK hP 0 rfl rfl 0 (by decide) (hts _ (List.mem_cons_of_mem _ mw_1_73)) (fun _ h9 => h9) rfl d_Pal_paintFrom_9 ?_
  refine lv_iload_n hx hb d_Pal_paintFrom_12 rfl (lv_at hl 2 rfl) ?_
  have hPc := hP.sub (ws' := []) [] rfl
  have hDc := hD.sub (ws' := []) [] (by decide) rfl
  have hKc := hK.sub (tys' := []) [] rfl
  have hFc := va_free (wc := []) hD hS hA [] rfl
  refine va_calli (va_runSN (As := [.int 0, .int 5]) (rest := []) ⟨hx, hb, hml, hown, hts⟩ (c_has l dC dI s.heap.size 0 5) (⟨va_cnB 2 hts (gi0 mw_1_150) rfl rfl rfl (hN (R_Pal, 26, y_PS_has, R_PS) (by decide +kernel)) (hts _ (List.mem_cons_of_mem _ mw_1_1)) (by decide +kernel) ⟨Nat.le_of_ble_eq_true rfl, Nat.le_of_ble_eq_true rfl⟩, hts _ (List.mem_cons_of_mem _ mw_1_149), trivial⟩) ⟨fb_, pre_ hPc hKc hDc hN⟩ rfl rfl hl.1 rfl (lv_room (Nat.le_of_ble_eq_true rfl)) d_Pal_paintFrom_13 ⟨Nat.le_of_ble_eq_true rfl, Nat.le_of_ble_eq_true rfl⟩) hS (fun q _ h => hFc q h) hFc (fun r_13 u t H locs ht hvm hp_13 hB hz1 hk1 hS => ?_)
  have hp_13 : r_13 = f_has 0 5 := hp_13
  obtain ⟨hP1, -, hD1⟩ := hB
  rw [ht] at hP1
  obtain ⟨hP, hD⟩ := va_join (wr := [(aq, .inr (3, [.int 0, .int zq_allowed, .ref aq_shades]))]) (w1 := []) hP hD [] [0] rfl rfl (by decide) (by decide) hk1 hFc hP1 hD1
  have hP : va_P (dC, dI) classes [(aq, .inr (3, [.int 0, .int zq_allowed, .ref aq_shades]))] H := hP
  have hD : va_D A [(aq, .inr (3, [.int 0, .int zq_allowed, .ref aq_shades]))] := hD
  refine lv_if_ne (tgt := 29) hx hb d_Pal_paintFrom_16 rfl (fun hc_16 => absurd (hp_13.trans (has0 _)) hc_16) (fun hc_16 => ?_)
  refine lv_aload_n hx hb d_Pal_paintFrom_19 rfl (lv_at hl 0 rfl) ?_
  refine lv_aload_n hx hb d_Pal_paintFrom_20 rfl (lv_at hl 1 rfl) ?_
  refine lv_iload_n hx hb d_Pal_paintFrom_21 rfl (lv_at hl 2 rfl) ?_
  refine lv_iconst (v := 1) hx hb d_Pal_paintFrom_22 (by decide) ?_
  refine lv_iadd hx hb d_Pal_paintFrom_23 ?_
  refine lv_topi (fun y_23 e_23 => ?_)
  obtain rfl : y_23 = 6 := e_23.trans (by decide)
  refine lv_iload_n hx hb d_Pal_paintFrom_24 rfl (lv_at hl 3 rfl) ?_
  have hPc := hP.sub (ws' := [(aq, .inr (3, [.int 0, .int zq_allowed, .ref aq_shades]))]) [0] rfl
  have hDc := hD.sub (ws' := [(aq, .inr (3, [.int 0, .int zq_allowed, .ref aq_shades]))]) [0] (by decide) rfl
  have hKc := hK.sub (tys' := []) [] rfl
  have hFc := va_free (wc := [(aq, .inr (3, [.int 0, .int zq_allowed, .ref aq_shades]))]) hD hS hA [0] rfl
  refine va_calli (va_runV (As := [.ref aw, .int 6, .int 0]) (rest := []) ⟨hx, hb, hml, hown, hts⟩ (c_paintFrom0_6 l dC dI H.size aq aw aq_shades zq_allowed) (cwV 3 hts (gi4 mw_2_34 mw_2_36 mw_p_18 mw_1_4 mw_2_37) rfl rfl rfl (by decide +kernel) ⟨Nat.le_of_ble_eq_true rfl, Nat.le_of_ble_eq_true rfl⟩) ⟨fb_, va_recv (q0 := 0) (ci := 3) hK hP rfl rfl, pre_ hPc hKc hDc hN⟩ rfl rfl hl.1 rfl (lv_room (Nat.le_of_ble_eq_true rfl)) d_Pal_paintFrom_25 ⟨Nat.le_of_ble_eq_true rfl, Nat.le_of_ble_eq_true rfl⟩) hS (fun q _ h => hFc q h) hFc (fun r_25 u t H locs ht hvm hp_25 hB hz1 hk1 hS => ?_)
  have hp_25 : r_25 = 1 := hp_25
  obtain ⟨hP1, -, hD1⟩ := hB
  rw [ht] at hP1
  obtain ⟨hP, hD⟩ := va_join (wr := []) (w1 := [(aq, .inr (3, [.int 0, .int zq_allowed, .ref aq_shades]))]) hP hD [0] [] rfl rfl (by decide) (by decide) hk1 hFc hP1 hD1
  have hP : va_P (dC, dI) classes [(aq, .inr (3, [.int 0, .int zq_allowed, .ref aq_shades]))] H := hP
  have hD : va_D A [(aq, .inr (3, [.int 0, .int zq_allowed, .ref aq_shades]))] := hD
  exact W.zret (v := r_25) (ty := .boolean) hx hb hr (by rw [hp_25]; rfl) (fun t ht hW => ⟨⟨r_25, (), rfl, hp_25, by rw [ht]; exact hP, va_K.moved hW.alike hK, hD⟩, hS.F ht⟩) hS.2.2 d_Pal_paintFrom_28
set_option maxHeartbeats 4000000 in
set_option maxRecDepth 100000 in
theorem c_paintFrom0_4 (l : Launch) (dC : Nat → ClassId) (dI : Nat → Nat → Nat) (sz : Nat) (aq aw aq_shades : Nat) (zq_allowed : Int32) : Met l y_Pal_paintFrom w_Pal_paintFrom ({ frames := 6, cells := 0, slots := 0, locals := 144 }) (Pre_ dC dI sz [.ref aq, .ref aw, .int 4, .int 0] [(aq, .inr (3, [.int 0, .int zq_allowed, .ref aq_shades]))] []) (va_Qi (fun (r : Int32) (u : Unit) => r = 1) (fun u t => End_ dC dI (va_A [(aq, .inr (3, [.int 0, .int zq_allowed, .ref aq_shades]))] sz) [] [(aq, .inr (3, [.int 0, .int zq_allowed, .ref aq_shades]))] t) (va_A [(aq, .inr (3, [.int 0, .int zq_allowed, .ref aq_shades]))] sz)) 0 0 (va_A [(aq, .inr (3, [.int 0, .int zq_allowed, .ref aq_shades]))] sz) := by
  refine Met.ofW (cc := b_Pal_paintFrom) (maxL := 5) (ret := (some .boolean)) (by decide) rfl ?_
  intro p e s m args below meth c s₁ B hml hv
  obtain ⟨hargs, hsz, hP, hK, hD0, hN⟩ := hv
  have hx := B.exec
  have hb := B.bytes
  have hr := B.returns
  have hts := atoms_spec (ws := w_Pal_paintFrom) B.pre
  have hown : s.vm.findClass R_Pal = some m.cls := findClass_of_methodNamed B.named
  have hlocks := B.notSynchronized
  subst hsz
  have hD := hD0.self (sz := s.heap.size)
  generalize hAe : va_A [(aq, .inr (3, [.int 0, .int zq_allowed, .ref aq_shades]))] s.heap.size = A at hD ⊢
  have hA : ∀ q : Nat, s.heap.size ≤ q → A q := fun q h => by rw [← hAe]; exact Or.inr h
  have hS : va_S A s.heap s.heap [] := va_S.rf
  have hl := lv_entry ([.ref aq, .ref aw, .int 4, .int 0]) (n := 5) (Nat.le_of_ble_eq_true rfl)
  refine W.eq (congrArg (fun a => entryFrame m a 5) hargs) ?_
  rw [lg_entry_eq]
  generalize (lg_sl ([.ref aq, .ref aw, .int 4, .int 0]) ++ List.replicate (5 - (lg_sl ([.ref aq, .ref aw, .int 4, .int 0])).length) Slot.unset).toArray = ls at hl ⊢
  have hl : lv_has ls 5 [(0, .ref aq), (1, .ref aw), (2, .int 4), (3, .int 0)] := hl
  generalize hH0 : ([] : List Loc) = locs at hS ⊢
  refine lv_iload_n hx hb d_Pal_paintFrom_0 rfl (lv_at hl 2 rfl) ?_
  refine lv_bipush (v := 10) hx hb d_Pal_paintFrom_1 (by decide) ?_
  refine lv_icmp_lt (tgt := 8) hx hb d_Pal_paintFrom_3 rfl (fun hc_3 => ?_) (fun hc_3 => absurd (by decide) hc_3)
  refine lv_aload_n hx hb d_Pal_paintFrom_8 rfl (lv_at hl 0 rfl) ?_
  refine va_get (D := (dC, dI)) (ci := 3) (v := .int 0) (C := R_Pal) (T := F_Pal) (N := 3) hx hb hts (fun w h => List.mem_cons_of_mem _ (in_Pal w h)) hown hK hP 0 rfl rfl 0 (by decide) (hts _ (List.mem_cons_of_mem _ mw_1_73)) (fun _ h9 => h9) rfl d_Pal_paintFrom_9 ?_
  refine lv_iload_n hx hb d_Pal_paintFrom_12 rfl (lv_at hl 2 rfl) ?_
  have hPc := hP.sub (ws' := []) [] rfl
  have hDc := hD.sub (ws' := []) [] (by decide) rfl
  have hKc := hK.sub (tys' := []) [] rfl
  have hFc := va_free (wc := []) hD hS hA [] rfl
  refine va_calli (va_runSN (As := [.int 0, .int 4]) (rest := []) ⟨hx, hb, hml, hown, hts⟩ (c_has l dC dI s.heap.size 0 4) (⟨va_cnB 2 hts (gi0 mw_1_150) rfl rfl rfl (hN (R_Pal, 26, y_PS_has, R_PS) (by decide +kernel)) (hts _ (List.mem_cons_of_mem _ mw_1_1)) (by decide +kernel) ⟨Nat.le_of_ble_eq_true rfl, Nat.le_of_ble_eq_true rfl⟩, hts _ (List.mem_cons_of_mem _ mw_1_149), trivial⟩) ⟨fb_, pre_ hPc hKc hDc hN⟩ rfl rfl hl.1 rfl (lv_room (Nat.le_of_ble_eq_true rfl)) d_Pal_paintFrom_13 ⟨Nat.le_of_ble_eq_true rfl, Nat.le_of_ble_eq_true rfl⟩) hS (fun q _ h => hFc q h) hFc (fun r_13 u t H locs ht hvm hp_13 hB hz1 hk1 hS => ?_)
  have hp_13 : r_13 = f_has 0 4 := hp_13
  obtain ⟨hP1, -, hD1⟩ := hB
  rw [ht] at hP1
  obtain ⟨hP, hD⟩ := va_join (wr := [(aq, .inr (3, [.int 0, .int zq_allowed, .ref aq_shades]))]) (w1 := []) hP hD [] [0] rfl rfl (by decide) (by decide) hk1 hFc hP1 hD1
  have hP : va_P (dC, dI) classes [(aq, .inr (3, [.int 0, .int zq_allowed, .ref aq_shades]))] H := hP
  have hD : va_D A [(aq, .inr (3, [.int 0, .int zq_allowed, .ref aq_shades]))] := hD
  refine lv_if_ne (tgt := 29) hx hb d_Pal_paintFrom_16 rfl (fun hc_16 => absurd (hp_13.trans (has0 _)) hc_16) (fun hc_16 => ?_)
  refine lv_aload_n hx hb d_Pal_paintFrom_19 rfl (lv_at hl 0 rfl) ?_
  refine lv_aload_n hx hb d_Pal_paintFrom_20 rfl (lv_at hl 1 rfl) ?_
  refine lv_iload_n hx hb d_Pal_paintFrom_21 rfl (lv_at hl 2 rfl) ?_
  refine lv_iconst (v := 1) hx hb d_Pal_paintFrom_22 (by decide) ?_
  refine lv_iadd hx hb d_Pal_paintFrom_23 ?_
  refine lv_topi (fun y_23 e_23 => ?_)
  obtain rfl : y_23 = 5 := e_23.trans (by decide)
  refine lv_iload_n hx hb d_Pal_paintFrom_24 rfl (lv_at hl 3 rfl) ?_
  have hPc := hP.sub (ws' := [(aq, .inr (3, [.int 0, .int zq_allowed, .ref aq_shades]))]) [0] rfl
  have hDc := hD.sub (ws' := [(aq, .inr (3, [.int 0, .int zq_allowed, .ref aq_shades]))]) [0] (by decide) rfl
  have hKc := hK.sub (tys' := []) [] rfl
  have hFc := va_free (wc := [(aq, .inr (3, [.int 0, .int zq_allowed, .ref aq_shades]))]) hD hS hA [0] rfl
  refine va_calli (va_runV (As := [.ref aw, .int 5, .int 0]) (rest := []) ⟨hx, hb, hml, hown, hts⟩ (c_paintFrom0_5 l dC dI H.size aq aw aq_shades zq_allowed) (cwV 3 hts (gi4 mw_2_34 mw_2_36 mw_p_18 mw_1_4 mw_2_37) rfl rfl rfl (by decide +kernel) ⟨Nat.le_of_ble_eq_true rfl, Nat.le_of_ble_eq_true rfl⟩) ⟨fb_, va_recv (q0 := 0) (ci := 3) hK hP rfl rfl, pre_ hPc hKc hDc hN⟩ rfl rfl hl.1 rfl (lv_room (Nat.le_of_ble_eq_true rfl)) d_Pal_paintFrom_25 ⟨Nat.le_of_ble_eq_true rfl, Nat.le_of_ble_eq_true rfl⟩) hS (fun q _ h => hFc q h) hFc (fun r_25 u t H locs ht hvm hp_25 hB hz1 hk1 hS => ?_)
  have hp_25 : r_25 = 1 := hp_25
  obtain ⟨hP1, -, hD1⟩ := hB
  rw [ht] at hP1
  obtain ⟨hP, hD⟩ := va_join (wr := []) (w1 := [(aq, .inr (3, [.int 0, .int zq_allowed, .ref aq_shades]))]) hP hD [0] [] rfl rfl (by decide) (by decide) hk1 hFc hP1 hD1
  have hP : va_P (dC, dI) classes [(aq, .inr (3, [.int 0, .int zq_allowed, .ref aq_shades]))] H := hP
  have hD : va_D A [(aq, .inr (3, [.int 0, .int zq_allowed, .ref aq_shades]))] := hD
  exact W.zret (v := r_25) (ty := .boolean) hx hb hr (by rw [hp_25]; rfl) (fun t ht hW => ⟨⟨r_25, (), rfl, hp_25, by rw [ht]; exact hP, va_K.moved hW.alike hK, hD⟩, hS.F ht⟩) hS.2.2 d_Pal_paintFrom_28
set_option maxHeartbeats 4000000 in
set_option maxRecDepth 100000 in
theorem c_paintFrom0_3 (l : Launch) (dC : Nat → ClassId) (dI : Nat → Nat → Nat) (sz : Nat) (aq aw aq_shades : Nat) (zq_allowed : Int32) : Met l y_Pal_paintFrom w_Pal_paintFrom ({ frames := 7, cells := 0, slots := 0, locals := 168 }) (Pre_ dC dI sz [.ref aq, .ref aw, .int 3, .int 0] [(aq, .inr (3, [.int 0, .int zq_allowed, .ref aq_shades]))] []) (va_Qi (fun (r : Int32) (u : Unit) => r = 1) (fun u t => End_ dC dI (va_A [(aq, .inr (3, [.int 0, .int zq_allowed, .ref aq_shades]))] sz) [] [(aq, .inr (3, [.int 0, .int zq_allowed, .ref aq_shades]))] t) (va_A [(aq, .inr (3, [.int 0, .int zq_allowed, .ref aq_shades]))] sz)) 0 0 (va_A [(aq, .inr (3, [.int 0, .int zq_allowed, .ref aq_shades]))] sz) := by
  refine Met.ofW (cc := b_Pal_paintFrom) (maxL := 5) (ret := (some .boolean)) (by decide) rfl ?_
  intro p e s m args below meth c s₁ B hml hv
  obtain ⟨hargs, hsz, hP, hK, hD0, hN⟩ := hv
  have hx := B.exec
  have hb := B.bytes
  have hr := B.returns
  have hts := atoms_spec (ws := w_Pal_paintFrom) B.pre
  have hown : s.vm.findClass R_Pal = some m.cls := findClass_of_methodNamed B.named
  have hlocks := B.notSynchronized
  subst hsz
  have hD := hD0.self (sz := s.heap.size)
  generalize hAe : va_A [(aq, .inr (3, [.int 0, .int zq_allowed, .ref aq_shades]))] s.heap.size = A at hD ⊢
  have hA : ∀ q : Nat, s.heap.size ≤ q → A q := fun q h => by rw [← hAe]; exact Or.inr h
  have hS : va_S A s.heap s.heap [] := va_S.rf
  have hl := lv_entry ([.ref aq, .ref aw, .int 3, .int 0]) (n := 5) (Nat.le_of_ble_eq_true rfl)
  refine W.eq (congrArg (fun a => entryFrame m a 5) hargs) ?_
  rw [lg_entry_eq]
  generalize (lg_sl ([.ref aq, .ref aw, .int 3, .int 0]) ++ List.replicate (5 - (lg_sl ([.ref aq, .ref aw, .int 3, .int 0])).length) Slot.unset).toArray = ls at hl ⊢
  have hl : lv_has ls 5 [(0, .ref aq), (1, .ref aw), (2, .int 3), (3, .int 0)] := hl
  generalize hH0 : ([] : List Loc) = locs at hS ⊢
  refine lv_iload_n hx hb d_Pal_paintFrom_0 rfl (lv_at hl 2 rfl) ?_
  refine lv_bipush (v := 10) hx hb d_Pal_paintFrom_1 (by decide) ?_
  refine lv_icmp_lt (tgt := 8) hx hb d_Pal_paintFrom_3 rfl (fun hc_3 => ?_) (fun hc_3 => absurd (by decide) hc_3)
  refine lv_aload_n hx hb d_Pal_paintFrom_8 rfl (lv_at hl 0 rfl) ?_
  refine va_get (D := (dC, dI)) (ci := 3) (v := .int 0) (C := R_Pal) (T := F_Pal) (N := 3) hx hb hts (fun w h => List.mem_cons_of_mem _ (in_Pal w h)) hown hK hP 0 rfl rfl 0 (by decide) (hts _ (List.mem_cons_of_mem _ mw_1_73)) (fun _ h9 => h9) rfl d_Pal_paintFrom_9 ?_
  refine lv_iload_n hx hb d_Pal_paintFrom_12 rfl (lv_at hl 2 rfl) ?_
  have hPc := hP.sub (ws' := []) [] rfl
  have hDc := hD.sub (ws' := []) [] (by decide) rfl
  have hKc := hK.sub (tys' := []) [] rfl
  have hFc := va_free (wc := []) hD hS hA [] rfl
  refine va_calli (va_runSN (As := [.int 0, .int 3]) (rest := []) ⟨hx, hb, hml, hown, hts⟩ (c_has l dC dI s.heap.size 0 3) (⟨va_cnB 2 hts (gi0 mw_1_150) rfl rfl rfl (hN (R_Pal, 26, y_PS_has, R_PS) (by decide +kernel)) (hts _ (List.mem_cons_of_mem _ mw_1_1)) (by decide +kernel) ⟨Nat.le_of_ble_eq_true rfl, Nat.le_of_ble_eq_true rfl⟩, hts _ (List.mem_cons_of_mem _ mw_1_149), trivial⟩) ⟨fb_, pre_ hPc hKc hDc hN⟩ rfl rfl hl.1 rfl (lv_room (Nat.le_of_ble_eq_true rfl)) d_Pal_paintFrom_13 ⟨Nat.le_of_ble_eq_true rfl, Nat.le_of_ble_eq_true rfl⟩) hS (fun q _ h => hFc q h) hFc (fun r_13 u t H locs ht hvm hp_13 hB hz1 hk1 hS => ?_)
  have hp_13 : r_13 = f_has 0 3 := hp_13
  obtain ⟨hP1, -, hD1⟩ := hB
  rw [ht] at hP1
  obtain ⟨hP, hD⟩ := va_join (wr := [(aq, .inr (3, [.int 0, .int zq_allowed, .ref aq_shades]))]) (w1 := []) hP hD [] [0] rfl rfl (by decide) (by decide) hk1 hFc hP1 hD1
  have hP : va_P (dC, dI) classes [(aq, .inr (3, [.int 0, .int zq_allowed, .ref aq_shades]))] H := hP
  have hD : va_D A [(aq, .inr (3, [.int 0, .int zq_allowed, .ref aq_shades]))] := hD
  refine lv_if_ne (tgt := 29) hx hb d_Pal_paintFrom_16 rfl (fun hc_16 => absurd (hp_13.trans (has0 _)) hc_16) (fun hc_16 => ?_)
  refine lv_aload_n hx hb d_Pal_paintFrom_19 rfl (lv_at hl 0 rfl) ?_
  refine lv_aload_n hx hb d_Pal_paintFrom_20 rfl (lv_at hl 1 rfl) ?_
  refine lv_iload_n hx hb d_Pal_paintFrom_21 rfl (lv_at hl 2 rfl) ?_
  refine lv_iconst (v := 1) hx hb d_Pal_paintFrom_22 (by decide) ?_
  refine lv_iadd hx hb d_Pal_paintFrom_23 ?_
  refine lv_topi (fun y_23 e_23 => ?_)
  obtain rfl : y_23 = 4 := e_23.trans (by decide)
  refine lv_iload_n hx hb d_Pal_paintFrom_24 rfl (lv_at hl 3 rfl) ?_
  have hPc := hP.sub (ws' := [(aq, .inr (3, [.int 0, .int zq_allowed, .ref aq_shades]))]) [0] rfl
  have hDc := hD.sub (ws' := [(aq, .inr (3, [.int 0, .int zq_allowed, .ref aq_shades]))]) [0] (by decide) rfl
  have hKc := hK.sub (tys' := []) [] rfl
  have hFc := va_free (wc := [(aq, .inr (3, [.int 0, .int zq_allowed, .ref aq_shades]))]) hD hS hA [0] rfl
  refine va_calli (va_runV (As := [.ref aw, .int 4, .int 0]) (rest := []) ⟨hx, hb, hml, hown, hts⟩ (c_paintFrom0_4 l dC dI H.size aq aw aq_shades zq_allowed) (cwV 3 hts (gi4 mw_2_34 mw_2_36 mw_p_18 mw_1_4 mw_2_37) rfl rfl rfl (by decide +kernel) ⟨Nat.le_of_ble_eq_true rfl, Nat.le_of_ble_eq_true rfl⟩) ⟨fb_, va_recv (q0 := 0) (ci := 3) hK hP rfl rfl, pre_ hPc hKc hDc hN⟩ rfl rfl hl.1 rfl (lv_room (Nat.le_of_ble_eq_true rfl)) d_Pal_paintFrom_25 ⟨Nat.le_of_ble_eq_true rfl, Nat.le_of_ble_eq_true rfl⟩) hS (fun q _ h => hFc q h) hFc (fun r_25 u t H locs ht hvm hp_25 hB hz1 hk1 hS => ?_)
  have hp_25 : r_25 = 1 := hp_25
  obtain ⟨hP1, -, hD1⟩ := hB
  rw [ht] at hP1
  obtain ⟨hP, hD⟩ := va_join (wr := []) (w1 := [(aq, .inr (3, [.int 0, .int zq_allowed, .ref aq_shades]))]) hP hD [0] [] rfl rfl (by decide) (by decide) hk1 hFc hP1 hD1
  have hP : va_P (dC, dI) classes [(aq, .inr (3, [.int 0, .int zq_allowed, .ref aq_shades]))] H := hP
  have hD : va_D A [(aq, .inr (3, [.int 0, .int zq_allowed, .ref aq_shades]))] := hD
  exact W.zret (v := r_25) (ty := .boolean) hx hb hr (by rw [hp_25]; rfl) (fun t ht hW => ⟨⟨r_25, (), rfl, hp_25, by rw [ht]; exact hP, va_K.moved hW.alike hK, hD⟩, hS.F ht⟩) hS.2.2 d_Pal_paintFrom_28
set_option maxHeartbeats 4000000 in
set_option maxRecDepth 100000 in
theorem c_paintFrom0_2 (l : Launch) (dC : Nat → ClassId) (dI : Nat → Nat → Nat) (sz : Nat) (aq aw aq_shades : Nat) (zq_allowed : Int32) : Met l y_Pal_paintFrom w_Pal_paintFrom ({ frames := 8, cells := 0, slots := 0, locals := 192 }) (Pre_ dC dI sz [.ref aq, .ref aw, .int 2, .int 0] [(aq, .inr (3, [.int 0, .int zq_allowed, .ref aq_shades]))] []) (va_Qi (fun (r : Int32) (u : Unit) => r = 1) (fun u t => End_ dC dI (va_A [(aq, .inr (3, [.int 0, .int zq_allowed, .ref aq_shades]))] sz) [] [(aq, .inr (3, [.int 0, .int zq_allowed, .ref aq_shades]))] t) (va_A [(aq, .inr (3, [.int 0, .int zq_allowed, .ref aq_shades]))] sz)) 0 0 (va_A [(aq, .inr (3, [.int 0, .int zq_allowed, .ref aq_shades]))] sz) := by
  refine Met.ofW (cc := b_Pal_paintFrom) (maxL := 5) (ret := (some .boolean)) (by decide) rfl ?_
  intro p e s m args below meth c s₁ B hml hv
  obtain ⟨hargs, hsz, hP, hK, hD0, hN⟩ := hv
  have hx := B.exec
  have hb := B.bytes
  have hr := B.returns
  have hts := atoms_spec (ws := w_Pal_paintFrom) B.pre
  have hown : s.vm.findClass R_Pal = some m.cls := findClass_of_methodNamed B.named
  have hlocks := B.notSynchronized
  subst hsz
  have hD := hD0.self (sz := s.heap.size)
  generalize hAe : va_A [(aq, .inr (3, [.int 0, .int zq_allowed, .ref aq_shades]))] s.heap.size = A at hD ⊢
  have hA : ∀ q : Nat, s.heap.size ≤ q → A q := fun q h => by rw [← hAe]; exact Or.inr h
  have hS : va_S A s.heap s.heap [] := va_S.rf
  have hl := lv_entry ([.ref aq, .ref aw, .int 2, .int 0]) (n := 5) (Nat.le_of_ble_eq_true rfl)
  refine W.eq (congrArg (fun a => entryFrame m a 5) hargs) ?_
  rw [lg_entry_eq]
  generalize (lg_sl ([.ref aq, .ref aw, .int 2, .int 0]) ++ List.replicate (5 - (lg_sl ([.ref aq, .ref aw, .int 2, .int 0])).length) Slot.unset).toArray = ls at hl ⊢
  have hl : lv_has ls 5 [(0, .ref aq), (1, .ref aw), (2, .int 2), (3, .int 0)] := hl
  generalize hH0 : ([] : List Loc) = locs at hS ⊢
  refine lv_iload_n hx hb d_Pal_paintFrom_0 rfl (lv_at hl 2 rfl) ?_
  refine lv_bipush (v := 10) hx hb d_Pal_paintFrom_1 (by decide) ?_
  refine lv_icmp_lt (tgt := 8) hx hb d_Pal_paintFrom_3 rfl (fun hc_3 => ?_) (fun hc_3 => absurd (by decide) hc_3)
  refine lv_aload_n hx hb d_Pal_paintFrom_8 rfl (lv_at hl 0 rfl) ?_
  refine va_get (D := (dC, dI)) (ci := 3) (v := .int 0) (C := R_Pal) (T := F_Pal) (N := 3) hx hb hts (fun w h => List.mem_cons_of_mem _ (in_Pal w h)) hown hK hP 0 rfl rfl 0 (by decide) (hts _ (List.mem_cons_of_mem _ mw_1_73)) (fun _ h9 => h9) rfl d_Pal_paintFrom_9 ?_
  refine lv_iload_n hx hb d_Pal_paintFrom_12 rfl (lv_at hl 2 rfl) ?_
  have hPc := hP.sub (ws' := []) [] rfl
  have hDc := hD.sub (ws' := []) [] (by decide) rfl
  have hKc := hK.sub (tys' := []) [] rfl
  have hFc := va_free (wc := []) hD hS hA [] rfl
  refine va_calli (va_runSN (As := [.int 0, .int 2]) (rest := []) ⟨hx, hb, hml, hown, hts⟩ (c_has l dC dI s.heap.size 0 2) (⟨va_cnB 2 hts (gi0 mw_1_150) rfl rfl rfl (hN (R_Pal, 26, y_PS_has, R_PS) (by decide +kernel)) (hts _ (List.mem_cons_of_mem _ mw_1_1)) (by decide +kernel) ⟨Nat.le_of_ble_eq_true rfl, Nat.le_of_ble_eq_true rfl⟩, hts _ (List.mem_cons_of_mem _ mw_1_149), trivial⟩) ⟨fb_, pre_ hPc hKc hDc hN⟩ rfl rfl hl.1 rfl (lv_room (Nat.le_of_ble_eq_true rfl)) d_Pal_paintFrom_13 ⟨Nat.le_of_ble_eq_true rfl, Nat.le_of_ble_eq_true rfl⟩) hS (fun q _ h => hFc q h) hFc (fun r_13 u t H locs ht hvm hp_13 hB hz1 hk1 hS => ?_)
  have hp_13 : r_13 = f_has 0 2 := hp_13
  obtain ⟨hP1, -, hD1⟩ := hB
  rw [ht] at hP1
  obtain ⟨hP, hD⟩ := va_join (wr := [(aq, .inr (3, [.int 0, .int zq_allowed, .ref aq_shades]))]) (w1 := []) hP hD [] [0] rfl rfl (by decide) (by decide) hk1 hFc hP1 hD1
  have hP : va_P (dC, dI) classes [(aq, .inr (3, [.int 0, .int zq_allowed, .ref aq_shades]))] H := hP
  have hD : va_D A [(aq, .inr (3, [.int 0, .int zq_allowed, .ref aq_shades]))] := hD
  refine lv_if_ne (tgt := 29) hx hb d_Pal_paintFrom_16 rfl (fun hc_16 => absurd (hp_13.trans (has0 _)) hc_16) (fun hc_16 => ?_)
  refine lv_aload_n hx hb d_Pal_paintFrom_19 rfl (lv_at hl 0 rfl) ?_
  refine lv_aload_n hx hb d_Pal_paintFrom_20 rfl (lv_at hl 1 rfl) ?_
  refine lv_iload_n hx hb d_Pal_paintFrom_21 rfl (lv_at hl 2 rfl) ?_
  refine lv_iconst (v := 1) hx hb d_Pal_paintFrom_22 (by decide) ?_
  refine lv_iadd hx hb d_Pal_paintFrom_23 ?_
  refine lv_topi (fun y_23 e_23 => ?_)
  obtain rfl : y_23 = 3 := e_23.trans (by decide)
  refine lv_iload_n hx hb d_Pal_paintFrom_24 rfl (lv_at hl 3 rfl) ?_
  have hPc := hP.sub (ws' := [(aq, .inr (3, [.int 0, .int zq_allowed, .ref aq_shades]))]) [0] rfl
  have hDc := hD.sub (ws' := [(aq, .inr (3, [.int 0, .int zq_allowed, .ref aq_shades]))]) [0] (by decide) rfl
  have hKc := hK.sub (tys' := []) [] rfl
  have hFc := va_free (wc := [(aq, .inr (3, [.int 0, .int zq_allowed, .ref aq_shades]))]) hD hS hA [0] rfl
  refine va_calli (va_runV (As := [.ref aw, .int 3, .int 0]) (rest := []) ⟨hx, hb, hml, hown, hts⟩ (c_paintFrom0_3 l dC dI H.size aq aw aq_shades zq_allowed) (cwV 3 hts (gi4 mw_2_34 mw_2_36 mw_p_18 mw_1_4 mw_2_37) rfl rfl rfl (by decide +kernel) ⟨Nat.le_of_ble_eq_true rfl, Nat.le_of_ble_eq_true rfl⟩) ⟨fb_, va_recv (q0 := 0) (ci := 3) hK hP rfl rfl, pre_ hPc hKc hDc hN⟩ rfl rfl hl.1 rfl (lv_room (Nat.le_of_ble_eq_true rfl)) d_Pal_paintFrom_25 ⟨Nat.le_of_ble_eq_true rfl, Nat.le_of_ble_eq_true rfl⟩) hS (fun q _ h => hFc q h) hFc (fun r_25 u t H locs ht hvm hp_25 hB hz1 hk1 hS => ?_)
  have hp_25 : r_25 = 1 := hp_25
  obtain ⟨hP1, -, hD1⟩ := hB
  rw [ht] at hP1
  obtain ⟨hP, hD⟩ := va_join (wr := []) (w1 := [(aq, .inr (3, [.int 0, .int zq_allowed, .ref aq_shades]))]) hP hD [0] [] rfl rfl (by decide) (by decide) hk1 hFc hP1 hD1
  have hP : va_P (dC, dI) classes [(aq, .inr (3, [.int 0, .int zq_allowed, .ref aq_shades]))] H := hP
  have hD : va_D A [(aq, .inr (3, [.int 0, .int zq_allowed, .ref aq_shades]))] := hD
  exact W.zret (v := r_25) (ty := .boolean) hx hb hr (by rw [hp_25]; rfl) (fun t ht hW => ⟨⟨r_25, (), rfl, hp_25, by rw [ht]; exact hP, va_K.moved hW.alike hK, hD⟩, hS.F ht⟩) hS.2.2 d_Pal_paintFrom_28
set_option maxHeartbeats 4000000 in
set_option maxRecDepth 100000 in
theorem c_paintFrom0_1 (l : Launch) (dC : Nat → ClassId) (dI : Nat → Nat → Nat) (sz : Nat) (aq aw aq_shades : Nat) (zq_allowed : Int32) : Met l y_Pal_paintFrom w_Pal_paintFrom ({ frames := 9, cells := 0, slots := 0, locals := 216 }) (Pre_ dC dI sz [.ref aq, .ref aw, .int 1, .int 0] [(aq, .inr (3, [.int 0, .int zq_allowed, .ref aq_shades]))] []) (va_Qi (fun (r : Int32) (u : Unit) => r = 1) (fun u t => End_ dC dI (va_A [(aq, .inr (3, [.int 0, .int zq_allowed, .ref aq_shades]))] sz) [] [(aq, .inr (3, [.int 0, .int zq_allowed, .ref aq_shades]))] t) (va_A [(aq, .inr (3, [.int 0, .int zq_allowed, .ref aq_shades]))] sz)) 0 0 (va_A [(aq, .inr (3, [.int 0, .int zq_allowed, .ref aq_shades]))] sz) := by
  refine Met.ofW (cc := b_Pal_paintFrom) (maxL := 5) (ret := (some .boolean)) (by decide) rfl ?_
  intro p e s m args below meth c s₁ B hml hv
  obtain ⟨hargs, hsz, hP, hK, hD0, hN⟩ := hv
  have hx := B.exec
  have hb := B.bytes
  have hr := B.returns
  have hts := atoms_spec (ws := w_Pal_paintFrom) B.pre
  have hown : s.vm.findClass R_Pal = some m.cls := findClass_of_methodNamed B.named
  have hlocks := B.notSynchronized
  subst hsz
  have hD := hD0.self (sz := s.heap.size)
  generalize hAe : va_A [(aq, .inr (3, [.int 0, .int zq_allowed, .ref aq_shades]))] s.heap.size = A at hD ⊢
  have hA : ∀ q : Nat, s.heap.size ≤ q → A q := fun q h => by rw [← hAe]; exact Or.inr h
  have hS : va_S A s.heap s.heap [] := va_S.rf
  have hl := lv_entry ([.ref aq, .ref aw, .int 1, .int 0]) (n := 5) (Nat.le_of_ble_eq_true rfl)
  refine W.eq (congrArg (fun a => entryFrame m a 5) hargs) ?_
  rw [lg_entry_eq]
  generalize (lg_sl ([.ref aq, .ref aw, .int 1, .int 0]) ++ List.replicate (5 - (lg_sl ([.ref aq, .ref aw, .int 1, .int 0])).length) Slot.unset).toArray = ls at hl ⊢
  have hl : lv_has ls 5 [(0, .ref aq), (1, .ref aw), (2, .int 1), (3, .int 0)] := hl
  generalize hH0 : ([] : List Loc) = locs at hS ⊢
  refine lv_iload_n hx hb d_Pal_paintFrom_0 rfl (lv_at hl 2 rfl) ?_
  refine lv_bipush (v := 10) hx hb d_Pal_paintFrom_1 (by decide) ?_
  refine lv_icmp_lt (tgt := 8) hx hb d_Pal_paintFrom_3 rfl (fun hc_3 => ?_) (fun hc_3 => absurd (by decide) hc_3)
  refine lv_aload_n hx hb d_Pal_paintFrom_8 rfl (lv_at hl 0 rfl) ?_
  refine va_get (D := (dC, dI)) (ci := 3) (v := .int 0) (C := R_Pal) (T := F_Pal) (N := 3) hx hb hts (fun w h => List.mem_cons_of_mem _ (in_Pal w h)) hown hK hP 0 rfl rfl 0 (by decide) (hts _ (List.mem_cons_of_mem _ mw_1_73)) (fun _ h9 => h9) rfl d_Pal_paintFrom_9 ?_
  refine lv_iload_n hx hb d_Pal_paintFrom_12 rfl (lv_at hl 2 rfl) ?_
  have hPc := hP.sub (ws' := []) [] rfl
  have hDc := hD.sub (ws' := []) [] (by decide) rfl
  have hKc := hK.sub (tys' := []) [] rfl
  have hFc := va_free (wc := []) hD hS hA [] rfl
  refine va_calli (va_runSN (As := [.int 0, .int 1]) (rest := []) ⟨hx, hb, hml, hown, hts⟩ (c_has l dC dI s.heap.size 0 1) (⟨va_cnB 2 hts (gi0 mw_1_150) rfl rfl rfl (hN (R_Pal, 26, y_PS_has, R_PS) (by decide +kernel)) (hts _ (List.mem_cons_of_mem _ mw_1_1)) (by decide +kernel) ⟨Nat.le_of_ble_eq_true rfl, Nat.le_of_ble_eq_true rfl⟩, hts _ (List.mem_cons_of_mem _ mw_1_149), trivial⟩) ⟨fb_, pre_ hPc hKc hDc hN⟩ rfl rfl hl.1 rfl (lv_room (Nat.le_of_ble_eq_true rfl)) d_Pal_paintFrom_13 ⟨Nat.le_of_ble_eq_true rfl, Nat.le_of_ble_eq_true rfl⟩) hS (fun q _ h => hFc q h) hFc (fun r_13 u t H locs ht hvm hp_13 hB hz1 hk1 hS => ?_)
  have hp_13 : r_13 = f_has 0 1 := hp_13
  obtain ⟨hP1, -, hD1⟩ := hB
  rw [ht] at hP1
  obtain ⟨hP, hD⟩ := va_join (wr := [(aq, .inr (3, [.int 0, .int zq_allowed, .ref aq_shades]))]) (w1 := []) hP hD [] [0] rfl rfl (by decide) (by decide) hk1 hFc hP1 hD1
  have hP : va_P (dC, dI) classes [(aq, .inr (3, [.int 0, .int zq_allowed, .ref aq_shades]))] H := hP
  have hD : va_D A [(aq, .inr (3, [.int 0, .int zq_allowed, .ref aq_shades]))] := hD
  refine lv_if_ne (tgt := 29) hx hb d_Pal_paintFrom_16 rfl (fun hc_16 => absurd (hp_13.trans (has0 _)) hc_16) (fun hc_16 => ?_)
  refine lv_aload_n hx hb d_Pal_paintFrom_19 rfl (lv_at hl 0 rfl) ?_
  refine lv_aload_n hx hb d_Pal_paintFrom_20 rfl (lv_at hl 1 rfl) ?_
  refine lv_iload_n hx hb d_Pal_paintFrom_21 rfl (lv_at hl 2 rfl) ?_
  refine lv_iconst (v := 1) hx hb d_Pal_paintFrom_22 (by decide) ?_
  refine lv_iadd hx hb d_Pal_paintFrom_23 ?_
  refine lv_topi (fun y_23 e_23 => ?_)
  obtain rfl : y_23 = 2 := e_23.trans (by decide)
  refine lv_iload_n hx hb d_Pal_paintFrom_24 rfl (lv_at hl 3 rfl) ?_
  have hPc := hP.sub (ws' := [(aq, .inr (3, [.int 0, .int zq_allowed, .ref aq_shades]))]) [0] rfl
  have hDc := hD.sub (ws' := [(aq, .inr (3, [.int 0, .int zq_allowed, .ref aq_shades]))]) [0] (by decide) rfl
  have hKc := hK.sub (tys' := []) [] rfl
  have hFc := va_free (wc := [(aq, .inr (3, [.int 0, .int zq_allowed, .ref aq_shades]))]) hD hS hA [0] rfl
  refine va_calli (va_runV (As := [.ref aw, .int 2, .int 0]) (rest := []) ⟨hx, hb, hml, hown, hts⟩ (c_paintFrom0_2 l dC dI H.size aq aw aq_shades zq_allowed) (cwV 3 hts (gi4 mw_2_34 mw_2_36 mw_p_18 mw_1_4 mw_2_37) rfl rfl rfl (by decide +kernel) ⟨Nat.le_of_ble_eq_true rfl, Nat.le_of_ble_eq_true rfl⟩) ⟨fb_, va_recv (q0 := 0) (ci := 3) hK hP rfl rfl, pre_ hPc hKc hDc hN⟩ rfl rfl hl.1 rfl (lv_room (Nat.le_of_ble_eq_true rfl)) d_Pal_paintFrom_25 ⟨Nat.le_of_ble_eq_true rfl, Nat.le_of_ble_eq_true rfl⟩) hS (fun q _ h => hFc q h) hFc (fun r_25 u t H locs ht hvm hp_25 hB hz1 hk1 hS => ?_)
  have hp_25 : r_25 = 1 := hp_25
  obtain ⟨hP1, -, hD1⟩ := hB
  rw [ht] at hP1
  obtain ⟨hP, hD⟩ := va_join (wr := []) (w1 := [(aq, .inr (3, [.int 0, .int zq_allowed, .ref aq_shades]))]) hP hD [0] [] rfl rfl (by decide) (by decide) hk1 hFc hP1 hD1
  have hP : va_P (dC, dI) classes [(aq, .inr (3, [.int 0, .int zq_allowed, .ref aq_shades]))] H := hP
  have hD : va_D A [(aq, .inr (3, [.int 0, .int zq_allowed, .ref aq_shades]))] := hD
  exact W.zret (v := r_25) (ty := .boolean) hx hb hr (by rw [hp_25]; rfl) (fun t ht hW => ⟨⟨r_25, (), rfl, hp_25, by rw [ht]; exact hP, va_K.moved hW.alike hK, hD⟩, hS.F ht⟩) hS.2.2 d_Pal_paintFrom_28
set_option maxHeartbeats 4000000 in
set_option maxRecDepth 100000 in
theorem c_paintFrom0_0 (l : Launch) (dC : Nat → ClassId) (dI : Nat → Nat → Nat) (sz : Nat) (aq aw aq_shades : Nat) (zq_allowed : Int32) : Met l y_Pal_paintFrom w_Pal_paintFrom ({ frames := 10, cells := 0, slots := 0, locals := 240 }) (Pre_ dC dI sz [.ref aq, .ref aw, .int 0, .int 0] [(aq, .inr (3, [.int 0, .int zq_allowed, .ref aq_shades]))] []) (va_Qi (fun (r : Int32) (u : Unit) => r = 1) (fun u t => End_ dC dI (va_A [(aq, .inr (3, [.int 0, .int zq_allowed, .ref aq_shades]))] sz) [] [(aq, .inr (3, [.int 0, .int zq_allowed, .ref aq_shades]))] t) (va_A [(aq, .inr (3, [.int 0, .int zq_allowed, .ref aq_shades]))] sz)) 0 0 (va_A [(aq, .inr (3, [.int 0, .int zq_allowed, .ref aq_shades]))] sz) := by
  refine Met.ofW (cc := b_Pal_paintFrom) (maxL := 5) (ret := (some .boolean)) (by decide) rfl ?_
  intro p e s m args below meth c s₁ B hml hv
  obtain ⟨hargs, hsz, hP, hK, hD0, hN⟩ := hv
  have hx := B.exec
  have hb := B.bytes
  have hr := B.returns
  have hts := atoms_spec (ws := w_Pal_paintFrom) B.pre
  have hown : s.vm.findClass R_Pal = some m.cls := findClass_of_methodNamed B.named
  have hlocks := B.notSynchronized
  subst hsz
  have hD := hD0.self (sz := s.heap.size)
  generalize hAe : va_A [(aq, .inr (3, [.int 0, .int zq_allowed, .ref aq_shades]))] s.heap.size = A at hD ⊢
  have hA : ∀ q : Nat, s.heap.size ≤ q → A q := fun q h => by rw [← hAe]; exact Or.inr h
  have hS : va_S A s.heap s.heap [] := va_S.rf
  have hl := lv_entry ([.ref aq, .ref aw, .int 0, .int 0]) (n := 5) (Nat.le_of_ble_eq_true rfl)
  refine W.eq (congrArg (fun a => entryFrame m a 5) hargs) ?_
  rw [lg_entry_eq]
  generalize (lg_sl ([.ref aq, .ref aw, .int 0, .int 0]) ++ List.replicate (5 - (lg_sl ([.ref aq, .ref aw, .int 0, .int 0])).length) Slot.unset).toArray = ls at hl ⊢
  have hl : lv_has ls 5 [(0, .ref aq), (1, .ref aw), (2, .int 0), (3, .int 0)] := hl
  generalize hH0 : ([] : List Loc) = locs at hS ⊢
  refine lv_iload_n hx hb d_Pal_paintFrom_0 rfl (lv_at hl 2 rfl) ?_
  refine lv_bipush (v := 10) hx hb d_Pal_paintFrom_1 (by decide) ?_
  refine lv_icmp_lt (tgt := 8) hx hb d_Pal_paintFrom_3 rfl (fun hc_3 => ?_) (fun hc_3 => absurd (by decide) hc_3)
  refine lv_aload_n hx hb d_Pal_paintFrom_8 rfl (lv_at hl 0 rfl) ?_
  refine va_get (D := (dC, dI)) (ci := 3) (v := .int 0) (C := R_Pal) (T := F_Pal) (N := 3) hx hb hts (fun w h => List.mem_cons_of_mem _ (in_Pal w h)) hown hK hP 0 rfl rfl 0 (by decide) (hts _ (List.mem_cons_of_mem _ mw_1_73)) (fun _ h9 => h9) rfl d_Pal_paintFrom_9 ?_
  refine lv_iload_n hx hb d_Pal_paintFrom_12 rfl (lv_at hl 2 rfl) ?_
  have hPc := hP.sub (ws' := []) [] rfl
  have hDc := hD.sub (ws' := []) [] (by decide) rfl
  have hKc := hK.sub (tys' := []) [] rfl
  have hFc := va_free (wc := []) hD hS hA [] rfl
  refine va_calli (va_runSN (As := [.int 0, .int 0]) (rest := []) ⟨hx, hb, hml, hown, hts⟩ (c_has l dC dI s.heap.size 0 0) (⟨va_cnB 2 hts (gi0 mw_1_150) rfl rfl rfl (hN (R_Pal, 26, y_PS_has, R_PS) (by decide +kernel)) (hts _ (List.mem_cons_of_mem _ mw_1_1)) (by decide +kernel) ⟨Nat.le_of_ble_eq_true rfl, Nat.le_of_ble_eq_true rfl⟩, hts _ (List.mem_cons_of_mem _ mw_1_149), trivial⟩) ⟨fb_, pre_ hPc hKc hDc hN⟩ rfl rfl hl.1 rfl (lv_room (Nat.le_of_ble_eq_true rfl)) d_Pal_paintFrom_13 ⟨Nat.le_of_ble_eq_true rfl, Nat.le_of_ble_eq_true rfl⟩) hS (fun q _ h => hFc q h) hFc (fun r_13 u t H locs ht hvm hp_13 hB hz1 hk1 hS => ?_)
  have hp_13 : r_13 = f_has 0 0 := hp_13
  obtain ⟨hP1, -, hD1⟩ := hB
  rw [ht] at hP1
  obtain ⟨hP, hD⟩ := va_join (wr := [(aq, .inr (3, [.int 0, .int zq_allowed, .ref aq_shades]))]) (w1 := []) hP hD [] [0] rfl rfl (by decide) (by decide) hk1 hFc hP1 hD1
  have hP : va_P (dC, dI) classes [(aq, .inr (3, [.int 0, .int zq_allowed, .ref aq_shades]))] H := hP
  have hD : va_D A [(aq, .inr (3, [.int 0, .int zq_allowed, .ref aq_shades]))] := hD
  refine lv_if_ne (tgt := 29) hx hb d_Pal_paintFrom_16 rfl (fun hc_16 => absurd (hp_13.trans (has0 _)) hc_16) (fun hc_16 => ?_)
  refine lv_aload_n hx hb d_Pal_paintFrom_19 rfl (lv_at hl 0 rfl) ?_
  refine lv_aload_n hx hb d_Pal_paintFrom_20 rfl (lv_at hl 1 rfl) ?_
  refine lv_iload_n hx hb d_Pal_paintFrom_21 rfl (lv_at hl 2 rfl) ?_
  refine lv_iconst (v := 1) hx hb d_Pal_paintFrom_22 (by decide) ?_
  refine lv_iadd hx hb d_Pal_paintFrom_23 ?_
  refine lv_topi (fun y_23 e_23 => ?_)
  obtain rfl : y_23 = 1 := e_23.trans (by decide)
  refine lv_iload_n hx hb d_Pal_paintFrom_24 rfl (lv_at hl 3 rfl) ?_
  have hPc := hP.sub (ws' := [(aq, .inr (3, [.int 0, .int zq_allowed, .ref aq_shades]))]) [0] rfl
  have hDc := hD.sub (ws' := [(aq, .inr (3, [.int 0, .int zq_allowed, .ref aq_shades]))]) [0] (by decide) rfl
  have hKc := hK.sub (tys' := []) [] rfl
  have hFc := va_free (wc := [(aq, .inr (3, [.int 0, .int zq_allowed, .ref aq_shades]))]) hD hS hA [0] rfl
  refine va_calli (va_runV (As := [.ref aw, .int 1, .int 0]) (rest := []) ⟨hx, hb, hml, hown, hts⟩ (c_paintFrom0_1 l dC dI H.size aq aw aq_shades zq_allowed) (cwV 3 hts (gi4 mw_2_34 mw_2_36 mw_p_18 mw_1_4 mw_2_37) rfl rfl rfl (by decide +kernel) ⟨Nat.le_of_ble_eq_true rfl, Nat.le_of_ble_eq_true rfl⟩) ⟨fb_, va_recv (q0 := 0) (ci := 3) hK hP rfl rfl, pre_ hPc hKc hDc hN⟩ rfl rfl hl.1 rfl (lv_room (Nat.le_of_ble_eq_true rfl)) d_Pal_paintFrom_25 ⟨Nat.le_of_ble_eq_true rfl, Nat.le_of_ble_eq_true rfl⟩) hS (fun q _ h => hFc q h) hFc (fun r_25 u t H locs ht hvm hp_25 hB hz1 hk1 hS => ?_)
  have hp_25 : r_25 = 1 := hp_25
  obtain ⟨hP1, -, hD1⟩ := hB
  rw [ht] at hP1
  obtain ⟨hP, hD⟩ := va_join (wr := []) (w1 := [(aq, .inr (3, [.int 0, .int zq_allowed, .ref aq_shades]))]) hP hD [0] [] rfl rfl (by decide) (by decide) hk1 hFc hP1 hD1
  have hP : va_P (dC, dI) classes [(aq, .inr (3, [.int 0, .int zq_allowed, .ref aq_shades]))] H := hP
  have hD : va_D A [(aq, .inr (3, [.int 0, .int zq_allowed, .ref aq_shades]))] := hD
  exact W.zret (v := r_25) (ty := .boolean) hx hb hr (by rw [hp_25]; rfl) (fun t ht hW => ⟨⟨r_25, (), rfl, hp_25, by rw [ht]; exact hP, va_K.moved hW.alike hK, hD⟩, hS.F ht⟩) hS.2.2 d_Pal_paintFrom_28
set_option maxHeartbeats 4000000 in
set_option maxRecDepth 100000 in
theorem c_paintLeast0 (l : Launch) (dC : Nat → ClassId) (dI : Nat → Nat → Nat) (sz : Nat) (aq aw aq_shades : Nat) (zq_there : Int32) (zq_allowed : Int32) : Met l y_Pal_paintLeast w_Pal_paintLeast ({ frames := 11, cells := 0, slots := 0, locals := 264 }) (Pre_ dC dI sz [.ref aq, .ref aw, .int 0] [(aq, .inr (3, [.int zq_there, .int zq_allowed, .ref aq_shades]))] []) (va_Qi (fun (r : Int32) (u : Int32 × Int32) => r = 0) (fun u t => End_ dC dI (va_A [(aq, .inr (3, [.int zq_there, .int zq_allowed, .ref aq_shades]))] sz) [] [(aq, .inr (3, [.int u.1, .int u.2, .ref aq_shades]))] t) (va_A [(aq, .inr (3, [.int zq_there, .int zq_allowed, .ref aq_shades]))] sz)) 0 0 (va_A [(aq, .inr (3, [.int zq_there, .int zq_allowed, .ref aq_shades]))] sz) := by
  refine Met.ofW (cc := b_Pal_paintLeast) (maxL := 4) (ret := (some .int)) (by decide) rfl ?_
  intro p e s m args below meth c s₁ B hml hv
  obtain ⟨hargs, hsz, hP, hK, hD0, hN⟩ := hv
  have hx := B.exec
  have hb := B.bytes
  have hr := B.returns
  have hts := atoms_spec (ws := w_Pal_paintLeast) B.pre
  have hown : s.vm.findClass R_Pal = some m.cls := findClass_of_methodNamed B.named
  have hlocks := B.notSynchronized
  subst hsz
  have hD := hD0.self (sz := s.heap.size)
  generalize hAe : va_A [(aq, .inr (3, [.int zq_there, .int zq_allowed, .ref aq_shades]))] s.heap.size = A at hD ⊢
  have hA : ∀ q : Nat, s.heap.size ≤ q → A q := fun q h => by rw [← hAe]; exact Or.inr h
  have hS : va_S A s.heap s.heap [] := va_S.rf
  have hl := lv_entry ([.ref aq, .ref aw, .int 0]) (n := 4) (Nat.le_of_ble_eq_true rfl)
  refine W.eq (congrArg (fun a => entryFrame m a 4) hargs) ?_
  rw [lg_entry_eq]
  generalize (lg_sl ([.ref aq, .ref aw, .int 0]) ++ List.replicate (4 - (lg_sl ([.ref aq, .ref aw, .int 0])).length) Slot.unset).toArray = ls at hl ⊢
  have hl : lv_has ls 4 [(0, .ref aq), (1, .ref aw), (2, .int 0)] := hl
  generalize hH0 : ([] : List Loc) = locs at hS ⊢
  refine lv_aload_n hx hb d_Pal_paintLeast_0 rfl (lv_at hl 0 rfl) ?_
  refine lv_iload_n hx hb d_Pal_paintLeast_1 rfl (lv_at hl 2 rfl) ?_
  refine va_put (D := (dC, dI)) (ci := 3) (v := .int 0) (ty := .int) (C := R_Pal) (T := F_Pal) (N := 3) hx hb hts (fun w h => List.mem_cons_of_mem _ (in_Pal w h)) t_Pal t_Pal_ok n_Pal hown hK hP hD hS 0 rfl rfl 0 (by decide) (hts _ (List.mem_cons_of_mem _ mw_1_73)) (fun _ h9 => h9) rfl (by decide +kernel) rfl rfl (Nat.le_of_ble_eq_true rfl) d_Pal_paintLeast_2 (fun H locs hP hD hS => ?_)
  have hP : va_P (dC, dI) classes [(aq, .inr (3, [.int 0, .int zq_allowed, .ref aq_shades]))] H := hP
  have hD : va_D A [(aq, .inr (3, [.int 0, .int zq_allowed, .ref aq_shades]))] := hD
  refine lv_iconst (v := 0) hx hb d_Pal_paintLeast_5 (by decide) ?_
  refine lv_istore_n (lv' := [(3, .int 0), (0, .ref aq), (1, .ref aw), (2, .int 0)]) hx hb d_Pal_paintLeast_6 rfl hl (by decide) rfl (fun ls hl => ?_)
  refine lv_iload_n hx hb d_Pal_paintLeast_7 rfl (lv_at hl 0 rfl) ?_
  refine lv_bipush (v := 10) hx hb d_Pal_paintLeast_8 (by decide) ?_
  refine lv_icmp_gt (tgt := 36) hx hb d_Pal_paintLeast_10 rfl (fun hc_10 => absurd hc_10 (by decide)) (fun hc_10 => ?_)
  refine lv_aload_n hx hb d_Pal_paintLeast_13 rfl (lv_at hl 1 rfl) ?_
  refine lv_iload_n hx hb d_Pal_paintLeast_14 rfl (lv_at hl 0 rfl) ?_
  refine va_put (D := (dC, dI)) (ci := 3) (v := .int 0) (ty := .int) (C := R_Pal) (T := F_Pal) (N := 3) hx hb hts (fun w h => List.mem_cons_of_mem _ (in_Pal w h)) t_Pal t_Pal_ok n_Pal hown hK hP hD hS 0 rfl rfl 1 (by decide) (hts _ (List.mem_cons_of_mem _ mw_1_74)) (fun _ h9 => h9) rfl (by decide +kernel) rfl rfl (Nat.le_of_ble_eq_true rfl) d_Pal_paintLeast_15 (fun H locs hP hD hS => ?_)
  have hP : va_P (dC, dI) classes [(aq, .inr (3, [.int 0, .int 0, .ref aq_shades]))] H := hP
  have hD : va_D A [(aq, .inr (3, [.int 0, .int 0, .ref aq_shades]))] := hD
  refine lv_aload_n hx hb d_Pal_paintLeast_18 rfl (lv_at hl 1 rfl) ?_
  refine lv_aload_n hx hb d_Pal_paintLeast_19 rfl (lv_at hl 2 rfl) ?_
  refine lv_iconst (v := 0) hx hb d_Pal_paintLeast_20 (by decide) ?_
  refine lv_iconst (v := 0) hx hb d_Pal_paintLeast_21 (by decide) ?_
  have hPc := hP.sub (ws' := [(aq, .inr (3, [.int 0, .int 0, .ref aq_shades]))]) [0] rfl
  have hDc := hD.sub (ws' := [(aq, .inr (3, [.int 0, .int 0, .ref aq_shades]))]) [0] (by decide) rfl
  have hKc := hK.sub (tys' := []) [] rfl
  have hFc := va_free (wc := [(aq, .inr (3, [.int 0, .int 0, .ref aq_shades]))]) hD hS hA [0] rfl
  refine va_calli (va_runV (As := [.ref aw, .int 0, .int 0]) (rest := []) ⟨hx, hb, hml, hown, hts⟩ (c_paintFrom0_0 l dC dI H.size aq aw aq_shades 0) (cwV 3 hts (gi4 mw_2_34 mw_2_36 mw_p_18 mw_1_4 mw_2_37) rfl rfl rfl (by decide +kernel) ⟨Nat.le_of_ble_eq_true rfl, Nat.le_of_ble_eq_true rfl⟩) ⟨fb_, va_recv (q0 := 0) (ci := 3) hK hP rfl rfl, pre_ hPc hKc hDc hN⟩ rfl rfl hl.1 rfl (lv_room (Nat.le_of_ble_eq_true rfl)) d_Pal_paintLeast_22 ⟨Nat.le_of_ble_eq_true rfl, Nat.le_of_ble_eq_true rfl⟩) hS (fun q _ h => hFc q h) hFc (fun r_22 u t H locs ht hvm hp_22 hB hz1 hk1 hS => ?_)
  have hp_22 : r_22 = 1 := hp_22
  obtain ⟨hP1, -, hD1⟩ := hB
  rw [ht] at hP1
  obtain ⟨hP, hD⟩ := va_join (wr := []) (w1 := [(aq, .inr (3, [.int 0, .int 0, .ref aq_shades]))]) hP hD [0] [] rfl rfl (by decide) (by decide) hk1 hFc hP1 hD1
  have hP : va_P (dC, dI) classes [(aq, .inr (3, [.int 0, .int 0, .ref aq_shades]))] H := hP
  have hD : va_D A [(aq, .inr (3, [.int 0, .int 0, .ref aq_shades]))] := hD
  refine lv_if_eq (tgt := 30) hx hb d_Pal_paintLeast_25 rfl (fun hc_25 => absurd hc_25 (by rw [hp_22]; decide)) (fun hc_25 => ?_)
  refine lv_iload_n hx hb d_Pal_paintLeast_28 rfl (lv_at hl 0 rfl) ?_
  exact W.iret (v := 0) hx hb hr (fun t ht hW => ⟨⟨0, (0, 0), rfl, rfl, by rw [ht]; exact hP, va_K.moved hW.alike hK, hD⟩, hS.F ht⟩) hS.2.2 d_Pal_paintLeast_29
set_option maxHeartbeats 4000000 in
set_option maxRecDepth 100000 in
theorem c_colours0 (l : Launch) (dC : Nat → ClassId) (dI : Nat → Nat → Nat) (sz : Nat) (ax ax_lessEnd ax_moreEnd ax_web ax_planeTest ax_palette ax_desk ax_web_near ax_planeTest_depthOf ax_planeTest_endingAt ax_planeTest_returns ax_planeTest_highest ax_planeTest_alike ax_planeTest_opposed ax_palette_shades : Nat) (kx_web_near : ClassId) (zx_web_near : Nat → Int32) (zx_planeTest_backLines : Int32) (zx_planeTest_clash : Int32) (zx_palette_there : Int32) (zx_palette_allowed : Int32) : Met l y_PS_colours w_PS_colours ({ frames := 12, cells := 0, slots := 0, locals := 287 }) (Pre_ dC dI sz [.ref ax] [(ax, .inr (0, [.int 0, .int 0, .ref ax_lessEnd, .ref ax_moreEnd, .ref ax_web, .ref ax_planeTest, .ref ax_palette, .ref ax_desk])), (ax_web, .inr (1, [.ref ax_web_near])), (ax_web_near, .inl (kx_web_near, 11, .inl zx_web_near)), (ax_planeTest, .inr (2, [.int zx_planeTest_backLines, .int zx_planeTest_clash, .ref ax_planeTest_depthOf, .ref ax_planeTest_endingAt, .ref ax_planeTest_returns, .ref ax_planeTest_highest, .ref ax_planeTest_alike, .ref ax_planeTest_opposed])), (ax_palette, .inr (3, [.int zx_palette_there, .int zx_palette_allowed, .ref ax_palette_shades]))] [(kx_web_near, .int)]) (va_Qi (fun (r : Int32) (u : (Nat → Int32) × Int32 × Int32) => r = 0) (fun u t => End_ dC dI (va_A [(ax, .inr (0, [.int 0, .int 0, .ref ax_lessEnd, .ref ax_moreEnd, .ref ax_web, .ref ax_planeTest, .ref ax_palette, .ref ax_desk])), (ax_web, .inr (1, [.ref ax_web_near])), (ax_web_near, .inl (kx_web_near, 11, .inl zx_web_near)), (ax_planeTest, .inr (2, [.int zx_planeTest_backLines, .int zx_planeTest_clash, .ref ax_planeTest_depthOf, .ref ax_planeTest_endingAt, .ref ax_planeTest_returns, .ref ax_planeTest_highest, .ref ax_planeTest_alike, .ref ax_planeTest_opposed])), (ax_palette, .inr (3, [.int zx_palette_there, .int zx_palette_allowed, .ref ax_palette_shades]))] sz) [(kx_web_near, .int)] [(ax, .inr (0, [.int 0, .int 0, .ref ax_lessEnd, .ref ax_moreEnd, .ref ax_web, .ref ax_planeTest, .ref ax_palette, .ref ax_desk])), (ax_web, .inr (1, [.ref ax_web_near])), (ax_web_near, .inl (kx_web_near, 11, .inl u.1)), (ax_planeTest, .inr (2, [.int zx_planeTest_backLines, .int zx_planeTest_clash, .ref ax_planeTest_depthOf, .ref ax_planeTest_endingAt, .ref ax_planeTest_returns, .ref ax_planeTest_highest, .ref ax_planeTest_alike, .ref ax_planeTest_opposed])), (ax_palette, .inr (3, [.int u.2.1, .int u.2.2, .ref ax_palette_shades]))] t) (va_A [(ax, .inr (0, [.int 0, .int 0, .ref ax_lessEnd, .ref ax_moreEnd, .ref ax_web, .ref ax_planeTest, .ref ax_palette, .ref ax_desk])), (ax_web, .inr (1, [.ref ax_web_near])), (ax_web_near, .inl (kx_web_near, 11, .inl zx_web_near)), (ax_planeTest, .inr (2, [.int zx_planeTest_backLines, .int zx_planeTest_clash, .ref ax_planeTest_depthOf, .ref ax_planeTest_endingAt, .ref ax_planeTest_returns, .ref ax_planeTest_highest, .ref ax_planeTest_alike, .ref ax_planeTest_opposed])), (ax_palette, .inr (3, [.int zx_palette_there, .int zx_palette_allowed, .ref ax_palette_shades]))] sz)) 0 0 (va_A [(ax, .inr (0, [.int 0, .int 0, .ref ax_lessEnd, .ref ax_moreEnd, .ref ax_web, .ref ax_planeTest, .ref ax_palette, .ref ax_desk])), (ax_web, .inr (1, [.ref ax_web_near])), (ax_web_near, .inl (kx_web_near, 11, .inl zx_web_near)), (ax_planeTest, .inr (2, [.int zx_planeTest_backLines, .int zx_planeTest_clash, .ref ax_planeTest_depthOf, .ref ax_planeTest_endingAt, .ref ax_planeTest_returns, .ref ax_planeTest_highest, .ref ax_planeTest_alike, .ref ax_planeTest_opposed])), (ax_palette, .inr (3, [.int zx_palette_there, .int zx_palette_allowed, .ref ax_palette_shades]))] sz) := by
  refine Met.ofW (cc := b_PS_colours) (maxL := 1) (ret := (some .int)) (by decide) rfl ?_
  intro p e s m args below meth c s₁ B hml hv
  obtain ⟨hargs, hsz, hP, hK, hD0, hN⟩ := hv
  have hx := B.exec
  have hb := B.bytes
  have hr := B.returns
  have hts := atoms_spec (ws := w_PS_colours) B.pre
  have hown : s.vm.findClass R_PS = some m.cls := findClass_of_methodNamed B.named
  have hlocks := B.notSynchronized
  subst hsz
  have hD := hD0.self (sz := s.heap.size)
  generalize hAe : va_A [(ax, .inr (0, [.int 0, .int 0, .ref ax_lessEnd, .ref ax_moreEnd, .ref ax_web, .ref ax_planeTest, .ref ax_palette, .ref ax_desk])), (ax_web, .inr (1, [.ref ax_web_near])), (ax_web_near, .inl (kx_web_near, 11, .inl zx_web_near)), (ax_planeTest, .inr (2, [.int zx_planeTest_backLines, .int zx_planeTest_clash, .ref ax_planeTest_depthOf, .ref ax_planeTest_endingAt, .ref ax_planeTest_returns, .ref ax_planeTest_highest, .ref ax_planeTest_alike, .ref ax_planeTest_opposed])), (ax_palette, .inr (3, [.int zx_palette_there, .int zx_palette_allowed, .ref ax_palette_shades]))] s.heap.size = A at hD ⊢
  have hA : ∀ q : Nat, s.heap.size ≤ q → A q := fun q h => by rw [← hAe]; exact Or.inr h
  have hS : va_S A s.heap s.heap [] := va_S.rf
  have hl := lv_entry ([.ref ax]) (n := 1) (Nat.le_of_ble_eq_true rfl)
  refine W.eq (congrArg (fun a => entryFrame m a 1) hargs) ?_
  rw [lg_entry_eq]
  generalize (lg_sl ([.ref ax]) ++ List.replicate (1 - (lg_sl ([.ref ax])).length) Slot.unset).toArray = ls at hl ⊢
  have hl : lv_has ls 1 [(0, .ref ax)] := hl
  generalize hH0 : ([] : List Loc) = locs at hS ⊢
  refine lv_aload_n hx hb d_PS_colours_0 rfl (lv_at hl 0 rfl) ?_
  refine lv_aload_n hx hb d_PS_colours_1 rfl (lv_at hl 0 rfl) ?_
  refine va_get (D := (dC, dI)) (ci := 0) (v := .int 0) (C := R_PS) (T := F_PS) (N := 8) hx hb hts (fun w h => List.mem_cons_of_mem _ (in_PS w h)) hown hK hP 0 rfl rfl 1 (by decide) (hts _ (List.mem_cons_of_mem _ mw_1_97)) (fun _ h9 => h9) rfl d_PS_colours_2 ?_
  have hPc := hP.sub (ws' := [(ax, .inr (0, [.int 0, .int 0, .ref ax_lessEnd, .ref ax_moreEnd, .ref ax_web, .ref ax_planeTest, .ref ax_palette, .ref ax_desk])), (ax_web, .inr (1, [.ref ax_web_near])), (ax_web_near, .inl (kx_web_near, 11, .inl zx_web_near))]) [0, 1, 2] rfl
  have hDc := hD.sub (ws' := [(ax, .inr (0, [.int 0, .int 0, .ref ax_lessEnd, .ref ax_moreEnd, .ref ax_web, .ref ax_planeTest, .ref ax_palette, .ref ax_desk])), (ax_web, .inr (1, [.ref ax_web_near])), (ax_web_near, .inl (kx_web_near, 11, .inl zx_web_near))]) [0, 1, 2] (by decide) rfl
  have hKc := hK.sub (tys' := [(kx_web_near, .int)]) [0] rfl
  have hFc := va_free (wc := [(ax, .inr (0, [.int 0, .int 0, .ref ax_lessEnd, .ref ax_moreEnd, .ref ax_web, .ref ax_planeTest, .ref ax_palette, .ref ax_desk])), (ax_web, .inr (1, [.ref ax_web_near])), (ax_web_near, .inl (kx_web_near, 11, .inl zx_web_near))]) hD hS hA [0, 1, 2] rfl
  refine va_callv (va_runV (As := [.int 0]) (rest := []) ⟨hx, hb, hml, hown, hts⟩ (c_spin0 l dC dI s.heap.size ax ax_lessEnd ax_moreEnd ax_web ax_planeTest ax_palette ax_desk ax_web_near kx_web_near 0 0 zx_web_near) (cwV 1 hts (gi4 mw_1_137 mw_1_139 mw_p_1 mw_1_1 mw_1_140) rfl rfl rfl (by decide +kernel) ⟨Nat.le_of_ble_eq_true rfl, Nat.le_of_ble_eq_true rfl⟩) ⟨fb_, va_recv (q0 := 0) (ci := 0) hK hP rfl rfl, pre_ hPc hKc hDc hN⟩ rfl rfl hl.1 rfl (lv_room (Nat.le_of_ble_eq_true rfl)) d_PS_colours_5 ⟨Nat.le_of_ble_eq_true rfl, Nat.le_of_ble_eq_true rfl⟩) hS (fun q _ h => hFc q h) hFc (fun wx_web_near_5 t H locs ht hvm hp_5 hB hz1 hk1 hS => ?_)
  have hp_5 : ∀ j : Nat, j < 11 → wx_web_near_5 j = 0 := hp_5
  obtain ⟨hP1, -, hD1⟩ := hB
  rw [ht] at hP1
  obtain ⟨hP, hD⟩ := va_join (wr := [(ax_planeTest, .inr (2, [.int zx_planeTest_backLines, .int zx_planeTest_clash, .ref ax_planeTest_depthOf, .ref ax_planeTest_endingAt, .ref ax_planeTest_returns, .ref ax_planeTest_highest, .ref ax_planeTest_alike, .ref ax_planeTest_opposed])), (ax_palette, .inr (3, [.int zx_palette_there, .int zx_palette_allowed, .ref ax_palette_shades]))]) (w1 := [(ax, .inr (0, [.int 0, .int 0, .ref ax_lessEnd, .ref ax_moreEnd, .ref ax_web, .ref ax_planeTest, .ref ax_palette, .ref ax_desk])), (ax_web, .inr (1, [.ref ax_web_near])), (ax_web_near, .inl (kx_web_near, 11, .inl wx_web_near_5))]) hP hD [0, 1, 2] [3, 4] rfl rfl (by decide) (by decide) hk1 hFc hP1 hD1
  have hP : va_P (dC, dI) classes [(ax_planeTest, .inr (2, [.int zx_planeTest_backLines, .int zx_planeTest_clash, .ref ax_planeTest_depthOf, .ref ax_planeTest_endingAt, .ref ax_planeTest_returns, .ref ax_planeTest_highest, .ref ax_planeTest_alike, .ref ax_planeTest_opposed])), (ax_palette, .inr (3, [.int zx_palette_there, .int zx_palette_allowed, .ref ax_palette_shades])), (ax, .inr (0, [.int 0, .int 0, .ref ax_lessEnd, .ref ax_moreEnd, .ref ax_web, .ref ax_planeTest, .ref ax_palette, .ref ax_desk])), (ax_web, .inr (1, [.ref ax_web_near])), (ax_web_near, .inl (kx_web_near, 11, .inl wx_web_near_5))] H := hP
  have hD : va_D A [(ax_planeTest, .inr (2, [.int zx_planeTest_backLines, .int zx_planeTest_clash, .ref ax_planeTest_depthOf, .ref ax_planeTest_endingAt, .ref ax_planeTest_returns, .ref ax_planeTest_highest, .ref ax_planeTest_alike, .ref ax_planeTest_opposed])), (ax_palette, .inr (3, [.int zx_palette_there, .int zx_palette_allowed, .ref ax_palette_shades])), (ax, .inr (0, [.int 0, .int 0, .ref ax_lessEnd, .ref ax_moreEnd, .ref ax_web, .ref ax_planeTest, .ref ax_palette, .ref ax_desk])), (ax_web, .inr (1, [.ref ax_web_near])), (ax_web_near, .inl (kx_web_near, 11, .inl wx_web_near_5))] := hD
  refine lv_aload_n hx hb d_PS_colours_8 rfl (lv_at hl 0 rfl) ?_
  refine va_get (D := (dC, dI)) (ci := 0) (v := .ref ax_palette) (C := R_PS) (T := F_PS) (N := 8) hx hb hts (fun w h => List.mem_cons_of_mem _ (in_PS w h)) hown hK hP 2 rfl rfl 6 (by decide) (hts _ (List.mem_cons_of_mem _ mw_1_102)) (fun _ h9 => h9) rfl d_PS_colours_9 ?_
  refine lv_aload_n hx hb d_PS_colours_12 rfl (lv_at hl 0 rfl) ?_
  refine va_get (D := (dC, dI)) (ci := 0) (v := .ref ax_web) (C := R_PS) (T := F_PS) (N := 8) hx hb hts (fun w h => List.mem_cons_of_mem _ (in_PS w h)) hown hK hP 2 rfl rfl 4 (by decide) (hts _ (List.mem_cons_of_mem _ mw_1_100)) (fun _ h9 => h9) rfl d_PS_colours_13 ?_
  refine lv_aload_n hx hb d_PS_colours_16 rfl (lv_at hl 0 rfl) ?_
  refine va_get (D := (dC, dI)) (ci := 0) (v := .int 0) (C := R_PS) (T := F_PS) (N := 8) hx hb hts (fun w h => List.mem_cons_of_mem _ (in_PS w h)) hown hK hP 2 rfl rfl 0 (by decide) (hts _ (List.mem_cons_of_mem _ mw_1_96)) (fun _ h9 => h9) rfl d_PS_colours_17 ?_
  have hPc := hP.sub (ws' := [(ax_palette, .inr (3, [.int zx_palette_there, .int zx_palette_allowed, .ref ax_palette_shades]))]) [1] rfl
  have hDc := hD.sub (ws' := [(ax_palette, .inr (3, [.int zx_palette_there, .int zx_palette_allowed, .ref ax_palette_shades]))]) [1] (by decide) rfl
  have hKc := hK.sub (tys' := []) [] rfl
  have hFc := va_free (wc := [(ax_palette, .inr (3, [.int zx_palette_there, .int zx_palette_allowed, .ref ax_palette_shades]))]) hD hS hA [1] rfl
  refine va_calli (va_runV (As := [.ref ax_web, .int 0]) (rest := []) ⟨hx, hb, hml, hown, hts⟩ (c_paintLeast0 l dC dI H.size ax_palette ax_web ax_palette_shades zx_palette_there zx_palette_allowed) (cwV 2 hts (gi4 mw_2_30 mw_2_31 mw_2_32 mw_1_4 mw_2_33) rfl rfl rfl (by decide +kernel) ⟨Nat.le_of_ble_eq_true rfl, Nat.le_of_ble_eq_true rfl⟩) ⟨fb_, va_recv (q0 := 1) (ci := 3) hK hP rfl rfl, pre_ hPc hKc hDc hN⟩ rfl rfl hl.1 rfl (lv_room (Nat.le_of_ble_eq_true rfl)) d_PS_colours_20 ⟨Nat.le_of_ble_eq_true rfl, Nat.le_of_ble_eq_true rfl⟩) hS (fun q _ h => hFc q h) hFc (fun r_20 u t H locs ht hvm hp_20 hB hz1 hk1 hS => ?_)
  obtain ⟨wx_palette_there_20, wx_palette_allowed_20⟩ := u
  have hp_20 : r_20 = 0 := hp_20
  obtain ⟨hP1, -, hD1⟩ := hB
  rw [ht] at hP1
  obtain ⟨hP, hD⟩ := va_join (wr := [(ax_planeTest, .inr (2, [.int zx_planeTest_backLines, .int zx_planeTest_clash, .ref ax_planeTest_depthOf, .ref ax_planeTest_endingAt, .ref ax_planeTest_returns, .ref ax_planeTest_highest, .ref ax_planeTest_alike, .ref ax_planeTest_opposed])), (ax, .inr (0, [.int 0, .int 0, .ref ax_lessEnd, .ref ax_moreEnd, .ref ax_web, .ref ax_planeTest, .ref ax_palette, .ref ax_desk])), (ax_web, .inr (1, [.ref ax_web_near])), (ax_web_near, .inl (kx_web_near, 11, .inl wx_web_near_5))]) (w1 := [(ax_palette, .inr (3, [.int wx_palette_there_20, .int wx_palette_allowed_20, .ref ax_palette_shades]))]) hP hD [1] [0, 2, 3, 4] rfl rfl (by decide) (by decide) hk1 hFc hP1 hD1
  have hP : va_P (dC, dI) classes [(ax_planeTest, .inr (2, [.int zx_planeTest_backLines, .int zx_planeTest_clash, .ref ax_planeTest_depthOf, .ref ax_planeTest_endingAt, .ref ax_planeTest_returns, .ref ax_planeTest_highest, .ref ax_planeTest_alike, .ref ax_planeTest_opposed])), (ax, .inr (0, [.int 0, .int 0, .ref ax_lessEnd, .ref ax_moreEnd, .ref ax_web, .ref ax_planeTest, .ref ax_palette, .ref ax_desk])), (ax_web, .inr (1, [.ref ax_web_near])), (ax_web_near, .inl (kx_web_near, 11, .inl wx_web_near_5)), (ax_palette, .inr (3, [.int wx_palette_there_20, .int wx_palette_allowed_20, .ref ax_palette_shades]))] H := hP
  have hD : va_D A [(ax_planeTest, .inr (2, [.int zx_planeTest_backLines, .int zx_planeTest_clash, .ref ax_planeTest_depthOf, .ref ax_planeTest_endingAt, .ref ax_planeTest_returns, .ref ax_planeTest_highest, .ref ax_planeTest_alike, .ref ax_planeTest_opposed])), (ax, .inr (0, [.int 0, .int 0, .ref ax_lessEnd, .ref ax_moreEnd, .ref ax_web, .ref ax_planeTest, .ref ax_palette, .ref ax_desk])), (ax_web, .inr (1, [.ref ax_web_near])), (ax_web_near, .inl (kx_web_near, 11, .inl wx_web_near_5)), (ax_palette, .inr (3, [.int wx_palette_there_20, .int wx_palette_allowed_20, .ref ax_palette_shades]))] := hD
  have hP := hP.sub (ws' := [(ax, .inr (0, [.int 0, .int 0, .ref ax_lessEnd, .ref ax_moreEnd, .ref ax_web, .ref ax_planeTest, .ref ax_palette, .ref ax_desk])), (ax_web, .inr (1, [.ref ax_web_near])), (ax_web_near, .inl (kx_web_near, 11, .inl wx_web_near_5)), (ax_planeTest, .inr (2, [.int zx_planeTest_backLines, .int zx_planeTest_clash, .ref ax_planeTest_depthOf, .ref ax_planeTest_endingAt, .ref ax_planeTest_returns, .ref ax_planeTest_highest, .ref ax_planeTest_alike, .ref ax_planeTest_opposed])), (ax_palette, .inr (3, [.int wx_palette_there_20, .int wx_palette_allowed_20, .ref ax_palette_shades]))]) [1, 2, 3, 0, 4] rfl
  have hD := hD.sub (ws' := [(ax, .inr (0, [.int 0, .int 0, .ref ax_lessEnd, .ref ax_moreEnd, .ref ax_web, .ref ax_planeTest, .ref ax_palette, .ref ax_desk])), (ax_web, .inr (1, [.ref ax_web_near])), (ax_web_near, .inl (kx_web_near, 11, .inl wx_web_near_5)), (ax_planeTest, .inr (2, [.int zx_planeTest_backLines, .int zx_planeTest_clash, .ref ax_planeTest_depthOf, .ref ax_planeTest_endingAt, .ref ax_planeTest_returns, .ref ax_planeTest_highest, .ref ax_planeTest_alike, .ref ax_planeTest_opposed])), (ax_palette, .inr (3, [.int wx_palette_there_20, .int wx_palette_allowed_20, .ref ax_palette_shades]))]) [1, 2, 3, 0, 4] (by decide) rfl
  exact W.iret (v := r_20) hx hb hr (fun t ht hW => ⟨⟨r_20, (wx_web_near_5, wx_palette_there_20, wx_palette_allowed_20), rfl, hp_20, by rw [ht]; exact hP, va_K.moved hW.alike hK, hD⟩, hS.F ht⟩) hS.2.2 d_PS_colours_23
