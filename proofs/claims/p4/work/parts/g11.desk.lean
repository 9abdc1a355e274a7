set_option maxHeartbeats 4000000 in
set_option maxRecDepth 100000 in
theorem c_putG (l : Launch) (dC : Nat → ClassId) (dI : Nat → Nat → Nat) (sz : Nat) (ad ad_xs ad_ys : Nat) (kd_xs kd_ys : ClassId) (zd_xs : Nat → Int32) (zd_ys : Nat → Int32) (v1 v2 v3 : Int32) (R : (Nat → Int32) × (Nat → Int32)) (hR : F_putG zd_xs zd_ys v1 v2 v3 = some R) : Met l y_Desk_put w_Desk_put ({ frames := 0, cells := 0, slots := 0, locals := 0 }) (Pre_ dC dI sz [.ref ad, .int v1, .int v2, .int v3] [(ad, .inr (4, [.ref ad_xs, .ref ad_ys])), (ad_xs, .inl (kd_xs, 10, .inl zd_xs)), (ad_ys, .inl (kd_ys, 10, .inl zd_ys))] [(kd_xs, .int), (kd_ys, .int)]) (va_Qv (fun (u : (Nat → Int32) × (Nat → Int32)) => u = R) (fun u t => End_ dC dI (va_A [(ad, .inr (4, [.ref ad_xs, .ref ad_ys])), (ad_xs, .inl (kd_xs, 10, .inl zd_xs)), (ad_ys, .inl (kd_ys, 10, .inl zd_ys))] sz) [(kd_xs, .int), (kd_ys, .int)] [(ad, .inr (4, [.ref ad_xs, .ref ad_ys])), (ad_xs, .inl (kd_xs, 10, .inl u.1)), (ad_ys, .inl (kd_ys, 10, .inl u.2))] t) (va_A [(ad, .inr (4, [.ref ad_xs, .ref ad_ys])), (ad_xs, .inl (kd_xs, 10, .inl zd_xs)), (ad_ys, .inl (kd_ys, 10, .inl zd_ys))] sz)) 0 0 (va_A [(ad, .inr (4, [.ref ad_xs, .ref ad_ys])), (ad_xs, .inl (kd_xs, 10, .inl zd_xs)), (ad_ys, .inl (kd_ys, 10, .inl zd_ys))] sz) := by
  refine Met.ofW (cc := b_Desk_put) (maxL := 4) (ret := none) (by decide) rfl ?_
  intro p e s m args below meth c s₁ B hml hv
  obtain ⟨hargs, hsz, hP, hK, hD0, hN⟩ := hv
  have hx := B.exec
  have hb := B.bytes
  have hr := B.returns
  have hts := atoms_spec (ws := w_Desk_put) B.pre
  have hown : s.vm.findClass R_Desk = some m.cls := findClass_of_methodNamed B.named
  have hlocks := B.notSynchronized
  subst hsz
  have hD := hD0.self (sz := s.heap.size)
  generalize hAe : va_A [(ad, .inr (4, [.ref ad_xs, .ref ad_ys])), (ad_xs, .inl (kd_xs, 10, .inl zd_xs)), (ad_ys, .inl (kd_ys, 10, .inl zd_ys))] s.heap.size = A at hD ⊢
  have hA : ∀ q : Nat, s.heap.size ≤ q → A q := fun q h => by rw [← hAe]; exact Or.inr h
  have hS : va_S A s.heap s.heap [] := va_S.rf
  have hl := lv_entry ([.ref ad, .int v1, .int v2, .int v3]) (n := 4) (Nat.le_of_ble_eq_true rfl)
  refine W.eq (congrArg (fun a => entryFrame m a 4) hargs) ?_
  rw [lg_entry_eq]
  generalize (lg_sl ([.ref ad, .int v1, .int v2, .int v3]) ++ List.replicate (4 - (lg_sl ([.ref ad, .int v1, .int v2, .int v3])).length) Slot.unset).toArray = ls at hl ⊢
  have hl : lv_has ls 4 [(0, .ref ad), (1, .int v1), (2, .int v2), (3, .int v3)] := hl
  generalize hH0 : ([] : List Loc) = locs at hS ⊢
  have hI := hR.symm
  rw [F_putG] at hI
  refine lv_aload_n hx hb d_Desk_put_0 rfl (lv_at hl 0 rfl) ?_
  refine va_get (D := (dC, dI)) (ci := 4) (v := .ref ad_xs) (C := R_Desk) (T := F_Desk) (N := 2) hx hb hts (fun w h => List.mem_cons_of_mem _ (in_Desk w h)) hown hK hP 0 rfl rfl 0 (by decide) (hts _ (List.mem_cons_of_mem _ mw_1_89)) (fun _ h9 => h9) rfl d_Desk_put_1 ?_
  refine lv_iload_n hx hb d_Desk_put_4 rfl (lv_at hl 1 rfl) ?_
  refine lv_iload_n hx hb d_Desk_put_5 rfl (lv_at hl 2 rfl) ?_
  have hi_6 := ob_in hI
  have hI := ob_th hI
  refine va_iast (D := (dC, dI)) hx hb hK hP hD hS 1 0 rfl rfl hi_6 d_Desk_put_6 (fun H locs hP hD hS => ?_)
  have hP : va_P (dC, dI) classes [(ad, .inr (4, [.ref ad_xs, .ref ad_ys])), (ad_xs, .inl (kd_xs, 10, .inl (upd zd_xs (Int32.toNatClampNeg v1) v2))), (ad_ys, .inl (kd_ys, 10, .inl zd_ys))] H := hP
  have hD : va_D A [(ad, .inr (4, [.ref ad_xs, .ref ad_ys])), (ad_xs, .inl (kd_xs, 10, .inl (upd zd_xs (Int32.toNatClampNeg v1) v2))), (ad_ys, .inl (kd_ys, 10, .inl zd_ys))] := hD
  refine lv_aload_n hx hb d_Desk_put_7 rfl (lv_at hl 0 rfl) ?_
  refine va_get (D := (dC, dI)) (ci := 4) (v := .ref ad_ys) (C := R_Desk) (T := F_Desk) (N := 2) hx hb hts (fun w h => List.mem_cons_of_mem _ (in_Desk w h)) hown hK hP 0 rfl rfl 1 (by decide) (hts _ (List.mem_cons_of_mem _ mw_1_90)) (fun _ h9 => h9) rfl d_Desk_put_8 ?_
  refine lv_iload_n hx hb d_Desk_put_11 rfl (lv_at hl 1 rfl) ?_
  refine lv_iload_n hx hb d_Desk_put_12 rfl (lv_at hl 3 rfl) ?_
  refine va_iast (D := (dC, dI)) hx hb hK hP hD hS 2 1 rfl rfl hi_6 d_Desk_put_13 (fun H locs hP hD hS => ?_)
  have hP : va_P (dC, dI) classes [(ad, .inr (4, [.ref ad_xs, .ref ad_ys])), (ad_xs, .inl (kd_xs, 10, .inl (upd zd_xs (Int32.toNatClampNeg v1) v2))), (ad_ys, .inl (kd_ys, 10, .inl (upd zd_ys (Int32.toNatClampNeg v1) v3)))] H := hP
  have hD : va_D A [(ad, .inr (4, [.ref ad_xs, .ref ad_ys])), (ad_xs, .inl (kd_xs, 10, .inl (upd zd_xs (Int32.toNatClampNeg v1) v2))), (ad_ys, .inl (kd_ys, 10, .inl (upd zd_ys (Int32.toNatClampNeg v1) v3)))] := hD
  exact W.vret hx hb hr (fun t ht hW => ⟨⟨(upd zd_xs (Int32.toNatClampNeg v1) v2, upd zd_ys (Int32.toNatClampNeg v1) v3), rfl, (Option.some.inj hI).symm, by rw [ht]; exact hP, va_K.moved hW.alike hK, hD⟩, hS.F ht⟩) hS.2.2 d_Desk_put_14
set_option maxHeartbeats 4000000 in
set_option maxRecDepth 100000 in
theorem c_acrossG (l : Launch) (dC : Nat → ClassId) (dI : Nat → Nat → Nat) (sz : Nat) (ad ad_xs ad_ys : Nat) (kd_xs : ClassId) (zd_xs : Nat → Int32) (v1 : Int32) (R : Int32) (hR : F_acrossG zd_xs v1 = some R) : Met l y_Desk_across w_Desk_across ({ frames := 0, cells := 0, slots := 0, locals := 0 }) (Pre_ dC dI sz [.ref ad, .int v1] [(ad, .inr (4, [.ref ad_xs, .ref ad_ys])), (ad_xs, .inl (kd_xs, 10, .inl zd_xs))] [(kd_xs, .int)]) (va_Qi (fun (r : Int32) (u : Unit) => r = R) (fun u t => End_ dC dI (va_A [(ad, .inr (4, [.ref ad_xs, .ref ad_ys])), (ad_xs, .inl (kd_xs, 10, .inl zd_xs))] sz) [(kd_xs, .int)] [(ad, .inr (4, [.ref ad_xs, .ref ad_ys])), (ad_xs, .inl (kd_xs, 10, .inl zd_xs))] t) (va_A [(ad, .inr (4, [.ref ad_xs, .ref ad_ys])), (ad_xs, .inl (kd_xs, 10, .inl zd_xs))] sz)) 0 0 (va_A [(ad, .inr (4, [.ref ad_xs, .ref ad_ys])), (ad_xs, .inl (kd_xs, 10, .inl zd_xs))] sz) := by
  refine Met.ofW (cc := b_Desk_across) (maxL := 2) (ret := (some .int)) (by decide) rfl ?_
  intro p e s m args below meth c s₁ B hml hv
  obtain ⟨hargs, hsz, hP, hK, hD0, hN⟩ := hv
  have hx := B.exec
  have hb := B.bytes
  have hr := B.returns
  have hts := atoms_spec (ws := w_Desk_across) B.pre
  have hown : s.vm.findClass R_Desk = some m.cls := findClass_of_methodNamed B.named
  have hlocks := B.notSynchronized
  subst hsz
  have hD := hD0.self (sz := s.heap.size)
  generalize hAe : va_A [(ad, .inr (4, [.ref ad_xs, .ref ad_ys])), (ad_xs, .inl (kd_xs, 10, .inl zd_xs))] s.heap.size = A at hD ⊢
  have hA : ∀ q : Nat, s.heap.size ≤ q → A q := fun q h => by rw [← hAe]; exact Or.inr h
  have hS : va_S A s.heap s.heap [] := va_S.rf
  have hl := lv_entry ([.ref ad, .int v1]) (n := 2) (Nat.le_of_ble_eq_true rfl)
  refine W.eq (congrArg (fun a => entryFrame m a 2) hargs) ?_
  rw [lg_entry_eq]
  generalize (lg_sl ([.ref ad, .int v1]) ++ List.replicate (2 - (lg_sl ([.ref ad, .int v1])).length) Slot.unset).toArray = ls at hl ⊢
  have hl : lv_has ls 2 [(0, .ref ad), (1, .int v1)] := hl
  generalize hH0 : ([] : List Loc) = locs at hS ⊢
  have hI := hR.symm
  rw [F_acrossG] at hI
  refine lv_aload_n hx hb d_Desk_across_0 rfl (lv_at hl 0 rfl) ?_
  refine va_get (D := (dC, dI)) (ci := 4) (v := .ref ad_xs) (C := R_Desk) (T := F_Desk) (N := 2) hx hb hts (fun w h => List.mem_cons_of_mem _ (in_Desk w h)) hown hK hP 0 rfl rfl 0 (by decide) (hts _ (List.mem_cons_of_mem _ mw_1_89)) (fun _ h9 => h9) rfl d_Desk_across_1 ?_
  refine lv_iload_n hx hb d_Desk_across_4 rfl (lv_at hl 1 rfl) ?_
  have hi_5 := ob_in hI
  have hI := ob_th hI
  refine va_iald (D := (dC, dI)) hx hb hK hP 1 0 rfl rfl hi_5 d_Desk_across_5 ?_
  exact W.iret (v := zd_xs (Int32.toNatClampNeg v1)) hx hb hr (fun t ht hW => ⟨⟨zd_xs (Int32.toNatClampNeg v1), (), rfl, (Option.some.inj hI).symm, by rw [ht]; exact hP, va_K.moved hW.alike hK, hD⟩, hS.F ht⟩) hS.2.2 d_Desk_across_6
set_option maxHeartbeats 4000000 in
set_option maxRecDepth 100000 in
theorem c_upwardG (l : Launch) (dC : Nat → ClassId) (dI : Nat → Nat → Nat) (sz : Nat) (ad ad_xs ad_ys : Nat) (kd_ys : ClassId) (zd_ys : Nat → Int32) (v1 : Int32) (R : Int32) (hR : F_upwardG zd_ys v1 = some R) : Met l y_Desk_upward w_Desk_upward ({ frames := 0, cells := 0, slots := 0, locals := 0 }) (Pre_ dC dI sz [.ref ad, .int v1] [(ad, .inr (4, [.ref ad_xs, .ref ad_ys])), (ad_ys, .inl (kd_ys, 10, .inl zd_ys))] [(kd_ys, .int)]) (va_Qi (fun (r : Int32) (u : Unit) => r = R) (fun u t => End_ dC dI (va_A [(ad, .inr (4, [.ref ad_xs, .ref ad_ys])), (ad_ys, .inl (kd_ys, 10, .inl zd_ys))] sz) [(kd_ys, .int)] [(ad, .inr (4, [.ref ad_xs, .ref ad_ys])), (ad_ys, .inl (kd_ys, 10, .inl zd_ys))] t) (va_A [(ad, .inr (4, [.ref ad_xs, .ref ad_ys])), (ad_ys, .inl (kd_ys, 10, .inl zd_ys))] sz)) 0 0 (va_A [(ad, .inr (4, [.ref ad_xs, .ref ad_ys])), (ad_ys, .inl (kd_ys, 10, .inl zd_ys))] sz) := by
  refine Met.ofW (cc := b_Desk_upward) (maxL := 2) (ret := (some .int)) (by decide) rfl ?_
  intro p e s m args below meth c s₁ B hml hv
  obtain ⟨hargs, hsz, hP, hK, hD0, hN⟩ := hv
  have hx := B.exec
  have hb := B.bytes
  have hr := B.returns
  have hts := atoms_spec (ws := w_Desk_upward) B.pre
  have hown : s.vm.findClass R_Desk = some m.cls := findClass_of_methodNamed B.named
  have hlocks := B.notSynchronized
  subst hsz
  have hD := hD0.self (sz := s.heap.size)
  generalize hAe : va_A [(ad, .inr (4, [.ref ad_xs, .ref ad_ys])), (ad_ys, .inl (kd_ys, 10, .inl zd_ys))] s.heap.size = A at hD ⊢
  have hA : ∀ q : Nat, s.heap.size ≤ q → A q := fun q h => by rw [← hAe]; exact Or.inr h
  have hS : va_S A s.heap s.heap [] := va_S.rf
  have hl := lv_entry ([.ref ad, .int v1]) (n := 2) (Nat.le_of_ble_eq_true rfl)
  refine W.eq (congrArg (fun a => entryFrame m a 2) hargs) ?_
  rw [lg_entry_eq]
  generalize (lg_sl ([.ref ad, .int v1]) ++ List.replicate (2 - (lg_sl ([.ref ad, .int v1])).length) Slot.unset).toArray = ls at hl ⊢
  have hl : lv_has ls 2 [(0, .ref ad), (1, .int v1)] := hl
  generalize hH0 : ([] : List Loc) = locs at hS ⊢
  have hI := hR.symm
  rw [F_upwardG] at hI
  refine lv_aload_n hx hb d_Desk_upward_0 rfl (lv_at hl 0 rfl) ?_
  refine va_get (D := (dC, dI)) (ci := 4) (v := .ref ad_ys) (C := R_Desk) (T := F_Desk) (N := 2) hx hb hts (fun w h => List.mem_cons_of_mem _ (in_Desk w h)) hown hK hP 0 rfl rfl 1 (by decide) (hts _ (List.mem_cons_of_mem _ mw_1_90)) (fun _ h9 => h9) rfl d_Desk_upward_1 ?_
  refine lv_iload_n hx hb d_Desk_upward_4 rfl (lv_at hl 1 rfl) ?_
  have hi_5 := ob_in hI
  have hI := ob_th hI
  refine va_iald (D := (dC, dI)) hx hb hK hP 1 0 rfl rfl hi_5 d_Desk_upward_5 ?_
  exact W.iret (v := zd_ys (Int32.toNatClampNeg v1)) hx hb hr (fun t ht hW => ⟨⟨zd_ys (Int32.toNatClampNeg v1), (), rfl, (Option.some.inj hI).symm, by rw [ht]; exact hP, va_K.moved hW.alike hK, hD⟩, hS.F ht⟩) hS.2.2 d_Desk_upward_6
set_option maxHeartbeats 4000000 in
set_option maxRecDepth 100000 in
theorem c_samePlaceG (l : Launch) (dC : Nat → ClassId) (dI : Nat → Nat → Nat) (sz : Nat) (ad ad_xs ad_ys : Nat) (kd_xs kd_ys : ClassId) (zd_xs : Nat → Int32) (zd_ys : Nat → Int32) (v1 v2 : Int32) (R : Int32) (hR : F_samePlaceG zd_xs zd_ys v1 v2 = some R) : Met l y_Desk_samePlace w_Desk_samePlace ({ frames := 0, cells := 0, slots := 0, locals := 0 }) (Pre_ dC dI sz [.ref ad, .int v1, .int v2] [(ad, .inr (4, [.ref ad_xs, .ref ad_ys])), (ad_xs, .inl (kd_xs, 10, .inl zd_xs)), (ad_ys, .inl (kd_ys, 10, .inl zd_ys))] [(kd_xs, .int), (kd_ys, .int)]) (va_Qi (fun (r : Int32) (u : Unit) => (r = R) ∧ z01 r) (fun u t => End_ dC dI (va_A [(ad, .inr (4, [.ref ad_xs, .ref ad_ys])), (ad_xs, .inl (kd_xs, 10, .inl zd_xs)), (ad_ys, .inl (kd_ys, 10, .inl zd_ys))] sz) [(kd_xs, .int), (kd_ys, .int)] [(ad, .inr (4, [.ref ad_xs, .ref ad_ys])), (ad_xs, .inl (kd_xs, 10, .inl zd_xs)), (ad_ys, .inl (kd_ys, 10, .inl zd_ys))] t) (va_A [(ad, .inr (4, [.ref ad_xs, .ref ad_ys])), (ad_xs, .inl (kd_xs, 10, .inl zd_xs)), (ad_ys, .inl (kd_ys, 10, .inl zd_ys))] sz)) 0 0 (va_A [(ad, .inr (4, [.ref ad_xs, .ref ad_ys])), (ad_xs, .inl (kd_xs, 10, .inl zd_xs)), (ad_ys, .inl (kd_ys, 10, .inl zd_ys))] sz) := by
  refine Met.ofW (cc := b_Desk_samePlace) (maxL := 3) (ret := (some .boolean)) (by decide) rfl ?_
  intro p e s m args below meth c s₁ B hml hv
  obtain ⟨hargs, hsz, hP, hK, hD0, hN⟩ := hv
  have hx := B.exec
  have hb := B.bytes
  have hr := B.returns
  have hts := atoms_spec (ws := w_Desk_samePlace) B.pre
  have hown : s.vm.findClass R_Desk = some m.cls := findClass_of_methodNamed B.named
  have hlocks := B.notSynchronized
  subst hsz
  have hD := hD0.self (sz := s.heap.size)
  generalize hAe : va_A [(ad, .inr (4, [.ref ad_xs, .ref ad_ys])), (ad_xs, .inl (kd_xs, 10, .inl zd_xs)), (ad_ys, .inl (kd_ys, 10, .inl zd_ys))] s.heap.size = A at hD ⊢
  have hA : ∀ q : Nat, s.heap.size ≤ q → A q := fun q h => by rw [← hAe]; exact Or.inr h
  have hS : va_S A s.heap s.heap [] := va_S.rf
  have hl := lv_entry ([.ref ad, .int v1, .int v2]) (n := 3) (Nat.le_of_ble_eq_true rfl)
  refine W.eq (congrArg (fun a => entryFrame m a 3) hargs) ?_
  rw [lg_entry_eq]
  generalize (lg_sl ([.ref ad, .int v1, .int v2]) ++ List.replicate (3 - (lg_sl ([.ref ad, .int v1, .int v2])).length) Slot.unset).toArray = ls at hl ⊢
  have hl : lv_has ls 3 [(0, .ref ad), (1, .int v1), (2, .int v2)] := hl
  generalize hH0 : ([] : List Loc) = locs at hS ⊢
  have hI := hR.symm
  rw [F_samePlaceG] at hI
  refine lv_aload_n hx hb d_Desk_samePlace_0 rfl (lv_at hl 0 rfl) ?_
  refine va_get (D := (dC, dI)) (ci := 4) (v := .ref ad_xs) (C := R_Desk) (T := F_Desk) (N := 2) hx hb hts (fun w h => List.mem_cons_of_mem _ (in_Desk w h)) hown hK hP 0 rfl rfl 0 (by decide) (hts _ (List.mem_cons_of_mem _ mw_1_89)) (fun _ h9 => h9) rfl d_Desk_samePlace_1 ?_
  refine lv_iload_n hx hb d_Desk_samePlace_4 rfl (lv_at hl 1 rfl) ?_
  have hi_5 := ob_in hI
  have hI := ob_th hI
  refine va_iald (D := (dC, dI)) hx hb hK hP 1 0 rfl rfl hi_5 d_Desk_samePlace_5 ?_
  refine lv_aload_n hx hb d_Desk_samePlace_6 rfl (lv_at hl 0 rfl) ?_
  refine va_get (D := (dC, dI)) (ci := 4) (v := .ref ad_xs) (C := R_Desk) (T := F_Desk) (N := 2) hx hb hts (fun w h => List.mem_cons_of_mem _ (in_Desk w h)) hown hK hP 0 rfl rfl 0 (by decide) (hts _ (List.mem_cons_of_mem _ mw_1_89)) (fun _ h9 => h9) rfl d_Desk_samePlace_7 ?_
  refine lv_iload_n hx hb d_Desk_samePlace_10 rfl (lv_at hl 2 rfl) ?_
  have hi_11 := ob_in hI
  have hI := ob_th hI
  refine va_iald (D := (dC, dI)) hx hb hK hP 1 0 rfl rfl hi_11 d_Desk_samePlace_11 ?_
  refine lv_icmp_ne (tgt := 34) hx hb d_Desk_samePlace_12 rfl (fun hc_12 => ?_) (fun hc_12 => ?_)
  · skip
    have hI := hI.trans (if_neg hc_12)
    refine lv_iconst (v := 0) hx hb d_Desk_samePlace_34 (by decide) ?_
    exact W.zret (v := 0) (ty := .boolean) hx hb hr (nr01 (Or.inl rfl)) (fun t ht hW => ⟨⟨0, (), rfl, ⟨(Option.some.inj hI).symm, (Or.inl rfl)⟩, by rw [ht]; exact hP, va_K.moved hW.alike hK, hD⟩, hS.F ht⟩) hS.2.2 d_Desk_samePlace_35
  · skip
    have hI := hI.trans (if_pos hc_12)
    refine lv_aload_n hx hb d_Desk_samePlace_15 rfl (lv_at hl 0 rfl) ?_
    refine va_get (D := (dC, dI)) (ci := 4) (v := .ref ad_ys) (C := R_Desk) (T := F_Desk) (N := 2) hx hb hts (fun w h => List.mem_cons_of_mem _ (in_Desk w h)) hown hK hP 0 rfl rfl 1 (by decide) (hts _ (List.mem_cons_of_mem _ mw_1_90)) (fun _ h9 => h9) rfl d_Desk_samePlace_16 ?_
    refine lv_iload_n hx hb d_Desk_samePlace_19 rfl (lv_at hl 1 rfl) ?_
    refine va_iald (D := (dC, dI)) hx hb hK hP 2 1 rfl rfl hi_5 d_Desk_samePlace_20 ?_
    refine lv_aload_n hx hb d_Desk_samePlace_21 rfl (lv_at hl 0 rfl) ?_
    refine va_get (D := (dC, dI)) (ci := 4) (v := .ref ad_ys) (C := R_Desk) (T := F_Desk) (N := 2) hx hb hts (fun w h => List.mem_cons_of_mem _ (in_Desk w h)) hown hK hP 0 rfl rfl 1 (by decide) (hts _ (List.mem_cons_of_mem _ mw_1_90)) (fun _ h9 => h9) rfl d_Desk_samePlace_22 ?_
    refine lv_iload_n hx hb d_Desk_samePlace_25 rfl (lv_at hl 2 rfl) ?_
    refine va_iald (D := (dC, dI)) hx hb hK hP 2 1 rfl rfl hi_11 d_Desk_samePlace_26 ?_
    refine lv_icmp_ne (tgt := 34) hx hb d_Desk_samePlace_27 rfl (fun hc_27 => ?_) (fun hc_27 => ?_)
    · skip
      have hI := hI.trans (if_neg hc_27)
      refine lv_iconst (v := 0) hx hb d_Desk_samePlace_34 (by decide) ?_
      exact W.zret (v := 0) (ty := .boolean) hx hb hr (nr01 (Or.inl rfl)) (fun t ht hW => ⟨⟨0, (), rfl, ⟨(Option.some.inj hI).symm, (Or.inl rfl)⟩, by rw [ht]; exact hP, va_K.moved hW.alike hK, hD⟩, hS.F ht⟩) hS.2.2 d_Desk_samePlace_35
    · skip
      have hI := hI.trans (if_pos hc_27)
      refine lv_iconst (v := 1) hx hb d_Desk_samePlace_30 (by decide) ?_
      refine lv_goto (tgt := 35) hx hb d_Desk_samePlace_31 rfl ?_
      exact W.zret (v := 1) (ty := .boolean) hx hb hr (nr01 (Or.inr rfl)) (fun t ht hW => ⟨⟨1, (), rfl, ⟨(Option.some.inj hI).symm, (Or.inr rfl)⟩, by rw [ht]; exact hP, va_K.moved hW.alike hK, hD⟩, hS.F ht⟩) hS.2.2 d_Desk_samePlace_35
set_option maxHeartbeats 4000000 in
set_option maxRecDepth 100000 in
theorem c_turnG (l : Launch) (dC : Nat → ClassId) (dI : Nat → Nat → Nat) (sz : Nat) (ad ad_xs ad_ys : Nat) (kd_xs kd_ys : ClassId) (zd_xs : Nat → Int32) (zd_ys : Nat → Int32) (v1 v2 v3 : Int32) (R : Int32) (hR : F_turnG zd_xs zd_ys v1 v2 v3 = some R) : Met l y_Desk_turn w_Desk_turn ({ frames := 0, cells := 0, slots := 0, locals := 0 }) (Pre_ dC dI sz [.ref ad, .int v1, .int v2, .int v3] [(ad, .inr (4, [.ref ad_xs, .ref ad_ys])), (ad_xs, .inl (kd_xs, 10, .inl zd_xs)), (ad_ys, .inl (kd_ys, 10, .inl zd_ys))] [(kd_xs, .int), (kd_ys, .int)]) (va_Qi (fun (r : Int32) (u : Unit) => r = R) (fun u t => End_ dC dI (va_A [(ad, .inr (4, [.ref ad_xs, .ref ad_ys])), (ad_xs, .inl (kd_xs, 10, .inl zd_xs)), (ad_ys, .inl (kd_ys, 10, .inl zd_ys))] sz) [(kd_xs, .int), (kd_ys, .int)] [(ad, .inr (4, [.ref ad_xs, .ref ad_ys])), (ad_xs, .inl (kd_xs, 10, .inl zd_xs)), (ad_ys, .inl (kd_ys, 10, .inl zd_ys))] t) (va_A [(ad, .inr (4, [.ref ad_xs, .ref ad_ys])), (ad_xs, .inl (kd_xs, 10, .inl zd_xs)), (ad_ys, .inl (kd_ys, 10, .inl zd_ys))] sz)) 0 0 (va_A [(ad, .inr (4, [.ref ad_xs, .ref ad_ys])), (ad_xs, .inl (kd_xs, 10, .inl zd_xs)), (ad_ys, .inl (kd_ys, 10, .inl zd_ys))] sz) := by
  refine Met.ofW (cc := b_Desk_turn) (maxL := 4) (ret := (some .int)) (by decide) rfl ?_
  intro p e s m args below meth c s₁ B hml hv
  obtain ⟨hargs, hsz, hP, hK, hD0, hN⟩ := hv
  have hx := B.exec
  have hb := B.bytes
  have hr := B.returns
  have hts := atoms_spec (ws := w_Desk_turn) B.pre
  have hown : s.vm.findClass R_Desk = some m.cls := findClass_of_methodNamed B.named
  have hlocks := B.notSynchronized
  subst hsz
  have hD := hD0.self (sz := s.heap.size)
  generalize hAe : va_A [(ad, .inr (4, [.ref ad_xs, .ref ad_ys])), (ad_xs, .inl (kd_xs, 10, .inl zd_xs)), (ad_ys, .inl (kd_ys, 10, .inl zd_ys))] s.heap.size = A at hD ⊢
  have hA : ∀ q : Nat, s.heap.size ≤ q → A q := fun q h => by rw [← hAe]; exact Or.inr h
  have hS : va_S A s.heap s.heap [] := va_S.rf
  have hl := lv_entry ([.ref ad, .int v1, .int v2, .int v3]) (n := 4) (Nat.le_of_ble_eq_true rfl)
  refine W.eq (congrArg (fun a => entryFrame m a 4) hargs) ?_
  rw [lg_entry_eq]
  generalize (lg_sl ([.ref ad, .int v1, .int v2, .int v3]) ++ List.replicate (4 - (lg_sl ([.ref ad, .int v1, .int v2, .int v3])).length) Slot.unset).toArray = ls at hl ⊢
  have hl : lv_has ls 4 [(0, .ref ad), (1, .int v1), (2, .int v2), (3, .int v3)] := hl
  generalize hH0 : ([] : List Loc) = locs at hS ⊢
  have hI := hR.symm
  rw [F_turnG] at hI
  refine lv_aload_n hx hb d_Desk_turn_0 rfl (lv_at hl 0 rfl) ?_
  refine va_get (D := (dC, dI)) (ci := 4) (v := .ref ad_xs) (C := R_Desk) (T := F_Desk) (N := 2) hx hb hts (fun w h => List.mem_cons_of_mem _ (in_Desk w h)) hown hK hP 0 rfl rfl 0 (by decide) (hts _ (List.mem_cons_of_mem _ mw_1_89)) (fun _ h9 => h9) rfl d_Desk_turn_1 ?_
  refine lv_iload_n hx hb d_Desk_turn_4 rfl (lv_at hl 2 rfl) ?_
  have hi_5 := ob_in hI
  have hI := ob_th hI
  refine va_iald (D := (dC, dI)) hx hb hK hP 1 0 rfl rfl hi_5 d_Desk_turn_5 ?_
  refine lv_aload_n hx hb d_Desk_turn_6 rfl (lv_at hl 0 rfl) ?_
  refine va_get (D := (dC, dI)) (ci := 4) (v := .ref ad_xs) (C := R_Desk) (T := F_Desk) (N := 2) hx hb hts (fun w h => List.mem_cons_of_mem _ (in_Desk w h)) hown hK hP 0 rfl rfl 0 (by decide) (hts _ (List.mem_cons_of_mem _ mw_1_89)) (fun _ h9 => h9) rfl d_Desk_turn_7 ?_
  refine lv_iload_n hx hb d_Desk_turn_10 rfl (lv_at hl 1 rfl) ?_
  have hi_11 := ob_in hI
  have hI := ob_th hI
  refine va_iald (D := (dC, dI)) hx hb hK hP 1 0 rfl rfl hi_11 d_Desk_turn_11 ?_
  refine lv_isub hx hb d_Desk_turn_12 ?_
  refine lv_aload_n hx hb d_Desk_turn_13 rfl (lv_at hl 0 rfl) ?_
  refine va_get (D := (dC, dI)) (ci := 4) (v := .ref ad_ys) (C := R_Desk) (T := F_Desk) (N := 2) hx hb hts (fun w h => List.mem_cons_of_mem _ (in_Desk w h)) hown hK hP 0 rfl rfl 1 (by decide) (hts _ (List.mem_cons_of_mem _ mw_1_90)) (fun _ h9 => h9) rfl d_Desk_turn_14 ?_
  refine lv_iload_n hx hb d_Desk_turn_17 rfl (lv_at hl 3 rfl) ?_
  have hi_18 := ob_in hI
  have hI := ob_th hI
  refine va_iald (D := (dC, dI)) hx hb hK hP 2 1 rfl rfl hi_18 d_Desk_turn_18 ?_
  refine lv_aload_n hx hb d_Desk_turn_19 rfl (lv_at hl 0 rfl) ?_
  refine va_get (D := (dC, dI)) (ci := 4) (v := .ref ad_ys) (C := R_Desk) (T := F_Desk) (N := 2) hx hb hts (fun w h => List.mem_cons_of_mem _ (in_Desk w h)) hown hK hP 0 rfl rfl 1 (by decide) (hts _ (List.mem_cons_of_mem _ mw_1_90)) (fun _ h9 => h9) rfl d_Desk_turn_20 ?_
  refine lv_iload_n hx hb d_Desk_turn_23 rfl (lv_at hl 1 rfl) ?_
  refine va_iald (D := (dC, dI)) hx hb hK hP 2 1 rfl rfl hi_11 d_Desk_turn_24 ?_
  refine lv_isub hx hb d_Desk_turn_25 ?_
  refine lv_imul hx hb d_Desk_turn_26 ?_
  refine lv_aload_n hx hb d_Desk_turn_27 rfl (lv_at hl 0 rfl) ?_
  refine va_get (D := (dC, dI)) (ci := 4) (v := .ref ad_ys) (C := R_Desk) (T := F_Desk) (N := 2) hx hb hts (fun w h => List.mem_cons_of_mem _ (in_Desk w h)) hown hK hP 0 rfl rfl 1 (by decide) (hts _ (List.mem_cons_of_mem _ mw_1_90)) (fun _ h9 => h9) rfl d_Desk_turn_28 ?_
  refine lv_iload_n hx hb d_Desk_turn_31 rfl (lv_at hl 2 rfl) ?_
  refine va_iald (D := (dC, dI)) hx hb hK hP 2 1 rfl rfl hi_5 d_Desk_turn_32 ?_
  refine lv_aload_n hx hb d_Desk_turn_33 rfl (lv_at hl 0 rfl) ?_
  refine va_get (D := (dC, dI)) (ci := 4) (v := .ref ad_ys) (C := R_Desk) (T := F_Desk) (N := 2) hx hb hts (fun w h => List.mem_cons_of_mem _ (in_Desk w h)) hown hK hP 0 rfl rfl 1 (by decide) (hts _ (List.mem_cons_of_mem _ mw_1_90)) (fun _ h9 => h9) rfl d_Desk_turn_34 ?_
  refine lv_iload_n hx hb d_Desk_turn_37 rfl (lv_at hl 1 rfl) ?_
  refine va_iald (D := (dC, dI)) hx hb hK hP 2 1 rfl rfl hi_11 d_Desk_turn_38 ?_
  refine lv_isub hx hb d_Desk_turn_39 ?_
  refine lv_aload_n hx hb d_Desk_turn_40 rfl (lv_at hl 0 rfl) ?_
  refine va_get (D := (dC, dI)) (ci := 4) (v := .ref ad_xs) (C := R_Desk) (T := F_Desk) (N := 2) hx hb hts (fun w h => List.mem_cons_of_mem _ (in_Desk w h)) hown hK hP 0 rfl rfl 0 (by decide) (hts _ (List.mem_cons_of_mem _ mw_1_89)) (fun _ h9 => h9) rfl d_Desk_turn_41 ?_
  refine lv_iload_n hx hb d_Desk_turn_44 rfl (lv_at hl 3 rfl) ?_
  refine va_iald (D := (dC, dI)) hx hb hK hP 1 0 rfl rfl hi_18 d_Desk_turn_45 ?_
  refine lv_aload_n hx hb d_Desk_turn_46 rfl (lv_at hl 0 rfl) ?_
  refine va_get (D := (dC, dI)) (ci := 4) (v := .ref ad_xs) (C := R_Desk) (T := F_Desk) (N := 2) hx hb hts (fun w h => List.mem_cons_of_mem _ (in_Desk w h)) hown hK hP 0 rfl rfl 0 (by decide) (hts _ (List.mem_cons_of_mem _ mw_1_89)) (fun _ h9 => h9) rfl d_Desk_turn_47 ?_
  refine lv_iload_n hx hb d_Desk_turn_50 rfl (lv_at hl 1 rfl) ?_
  refine va_iald (D := (dC, dI)) hx hb hK hP 1 0 rfl rfl hi_11 d_Desk_turn_51 ?_
  refine lv_isub hx hb d_Desk_turn_52 ?_
  refine lv_imul hx hb d_Desk_turn_53 ?_
  refine lv_isub hx hb d_Desk_turn_54 ?_
  exact W.iret (v := (((zd_xs (Int32.toNatClampNeg v2)) - (zd_xs (Int32.toNatClampNeg v1))) * ((zd_ys (Int32.toNatClampNeg v3)) - (zd_ys (Int32.toNatClampNeg v1)))) - (((zd_ys (Int32.toNatClampNeg v2)) - (zd_ys (Int32.toNatClampNeg v1))) * ((zd_xs (Int32.toNatClampNeg v3)) - (zd_xs (Int32.toNatClampNeg v1))))) hx hb hr (fun t ht hW => ⟨⟨(((zd_xs (Int32.toNatClampNeg v2)) - (zd_xs (Int32.toNatClampNeg v1))) * ((zd_ys (Int32.toNatClampNeg v3)) - (zd_ys (Int32.toNatClampNeg v1)))) - (((zd_ys (Int32.toNatClampNeg v2)) - (zd_ys (Int32.toNatClampNeg v1))) * ((zd_xs (Int32.toNatClampNeg v3)) - (zd_xs (Int32.toNatClampNeg v1)))), (), rfl, (Option.some.inj hI).symm, by rw [ht]; exact hP, va_K.moved hW.alike hK, hD⟩, hS.F ht⟩) hS.2.2 d_Desk_turn_55
set_option maxHeartbeats 4000000 in
set_option maxRecDepth 100000 in
theorem c_isBetweenG (l : Launch) (dC : Nat → ClassId) (dI : Nat → Nat → Nat) (sz : Nat) (v0 v1 v2 : Int32) (R : Int32) (hR : F_isBetweenG v0 v1 v2 = some R) : Met l y_Desk_isBetween w_Desk_isBetween ({ frames := 1, cells := 0, slots := 0, locals := 19 }) (Pre_ dC dI sz [.int v0, .int v1, .int v2] [] []) (va_Qi (fun (r : Int32) (u : Unit) => (r = R) ∧ z01 r) (fun u t => End_ dC dI (va_A [] sz) [] [] t) (va_A [] sz)) 0 0 (va_A [] sz) := by
  refine Met.ofW (cc := b_Desk_isBetween) (maxL := 3) (ret := (some .boolean)) (by decide) rfl ?_
  intro p e s m args below meth c s₁ B hml hv
  obtain ⟨hargs, hsz, hP, hK, hD0, hN⟩ := hv
  have hx := B.exec
  have hb := B.bytes
  have hr := B.returns
  have hts := atoms_spec (ws := w_Desk_isBetween) B.pre
  have hown : s.vm.findClass R_Desk = some m.cls := findClass_of_methodNamed B.named
  have hlocks := B.notSynchronized
  subst hsz
  have hD := hD0.self (sz := s.heap.size)
  generalize hAe : va_A [] s.heap.size = A at hD ⊢
  have hA : ∀ q : Nat, s.heap.size ≤ q → A q := fun q h => by rw [← hAe]; exact Or.inr h
  have hS : va_S A s.heap s.heap [] := va_S.rf
  have hl := lv_entry ([.int v0, .int v1, .int v2]) (n := 3) (Nat.le_of_ble_eq_true rfl)
  refine W.eq (congrArg (fun a => entryFrame m a 3) hargs) ?_
  rw [lg_entry_eq]
  generalize (lg_sl ([.int v0, .int v1, .int v2]) ++ List.replicate (3 - (lg_sl ([.int v0, .int v1, .int v2])).length) Slot.unset).toArray = ls at hl ⊢
  have hl : lv_has ls 3 [(0, .int v0), (1, .int v1), (2, .int v2)] := hl
  generalize hH0 : ([] : List Loc) = locs at hS ⊢
  have hI := hR.symm
  rw [F_isBetweenG] at hI
  refine lv_iload_n hx hb d_Desk_isBetween_0 rfl (lv_at hl 0 rfl) ?_
  refine lv_iload_n hx hb d_Desk_isBetween_1 rfl (lv_at hl 1 rfl) ?_
  refine lv_iload_n hx hb d_Desk_isBetween_2 rfl (lv_at hl 2 rfl) ?_
  refine va_mmin hx hb (hml.trans hl.1.symm) hown (hts _ (List.mem_cons_of_mem _ mw_2_73)) (hts _ (List.mem_cons_of_mem _ mw_2_74)) (hts _ (List.mem_cons_of_mem _ mw_1_15)) (hts _ (List.mem_cons_of_mem _ mw_2_75)) (Nat.le_of_ble_eq_true rfl) (Nat.le_of_ble_eq_true rfl) (Nat.le_of_ble_eq_true rfl) (Nat.le_of_ble_eq_true rfl) d_Desk_isBetween_3 ?_
  refine lv_icmp_lt (tgt := 22) hx hb d_Desk_isBetween_6 rfl (fun hc_6 => ?_) (fun hc_6 => ?_)
  · skip
    have hI := hI.trans (if_pos hc_6)
    refine lv_iconst (v := 0) hx hb d_Desk_isBetween_22 (by decide) ?_
    exact W.zret (v := 0) (ty := .boolean) hx hb hr (nr01 (Or.inl rfl)) (fun t ht hW => ⟨⟨0, (), rfl, ⟨(Option.some.inj hI).symm, (Or.inl rfl)⟩, by rw [ht]; exact hP, va_K.moved hW.alike hK, hD⟩, hS.F ht⟩) hS.2.2 d_Desk_isBetween_23
  · skip
    have hI := hI.trans (if_neg hc_6)
    refine lv_iload_n hx hb d_Desk_isBetween_9 rfl (lv_at hl 0 rfl) ?_
    refine lv_iload_n hx hb d_Desk_isBetween_10 rfl (lv_at hl 1 rfl) ?_
    refine lv_iload_n hx hb d_Desk_isBetween_11 rfl (lv_at hl 2 rfl) ?_
    refine va_mmax hx hb (hml.trans hl.1.symm) hown (hts _ (List.mem_cons_of_mem _ mw_2_76)) (hts _ (List.mem_cons_of_mem _ mw_2_45)) (hts _ (List.mem_cons_of_mem _ mw_1_15)) (hts _ (List.mem_cons_of_mem _ mw_2_46)) (Nat.le_of_ble_eq_true rfl) (Nat.le_of_ble_eq_true rfl) (Nat.le_of_ble_eq_true rfl) (Nat.le_of_ble_eq_true rfl) d_Desk_isBetween_12 ?_
    refine lv_icmp_gt (tgt := 22) hx hb d_Desk_isBetween_15 rfl (fun hc_15 => ?_) (fun hc_15 => ?_)
    · skip
      have hI := hI.trans (if_pos hc_15)
      refine lv_iconst (v := 0) hx hb d_Desk_isBetween_22 (by decide) ?_
      exact W.zret (v := 0) (ty := .boolean) hx hb hr (nr01 (Or.inl rfl)) (fun t ht hW => ⟨⟨0, (), rfl, ⟨(Option.some.inj hI).symm, (Or.inl rfl)⟩, by rw [ht]; exact hP, va_K.moved hW.alike hK, hD⟩, hS.F ht⟩) hS.2.2 d_Desk_isBetween_23
    · skip
      have hI := hI.trans (if_neg hc_15)
      refine lv_iconst (v := 1) hx hb d_Desk_isBetween_18 (by decide) ?_
      refine lv_goto (tgt := 23) hx hb d_Desk_isBetween_19 rfl ?_
      exact W.zret (v := 1) (ty := .boolean) hx hb hr (nr01 (Or.inr rfl)) (fun t ht hW => ⟨⟨1, (), rfl, ⟨(Option.some.inj hI).symm, (Or.inr rfl)⟩, by rw [ht]; exact hP, va_K.moved hW.alike hK, hD⟩, hS.F ht⟩) hS.2.2 d_Desk_isBetween_23
set_option maxHeartbeats 4000000 in
set_option maxRecDepth 100000 in
theorem c_liesOnG (l : Launch) (dC : Nat → ClassId) (dI : Nat → Nat → Nat) (sz : Nat) (ad ad_xs ad_ys : Nat) (kd_xs kd_ys : ClassId) (zd_xs : Nat → Int32) (zd_ys : Nat → Int32) (v1 v2 v3 : Int32) (R : Int32) (hR : F_liesOnG zd_xs zd_ys v1 v2 v3 = some R) : Met l y_Desk_liesOn w_Desk_liesOn ({ frames := 2, cells := 0, slots := 0, locals := 41 }) (Pre_ dC dI sz [.ref ad, .int v1, .int v2, .int v3] [(ad, .inr (4, [.ref ad_xs, .ref ad_ys])), (ad_xs, .inl (kd_xs, 10, .inl zd_xs)), (ad_ys, .inl (kd_ys, 10, .inl zd_ys))] [(kd_xs, .int), (kd_ys, .int)]) (va_Qi (fun (r : Int32) (u : Unit) => (r = R) ∧ z01 r) (fun u t => End_ dC dI (va_A [(ad, .inr (4, [.ref ad_xs, .ref ad_ys])), (ad_xs, .inl (kd_xs, 10, .inl zd_xs)), (ad_ys, .inl (kd_ys, 10, .inl zd_ys))] sz) [(kd_xs, .int), (kd_ys, .int)] [(ad, .inr (4, [.ref ad_xs, .ref ad_ys])), (ad_xs, .inl (kd_xs, 10, .inl zd_xs)), (ad_ys, .inl (kd_ys, 10, .inl zd_ys))] t) (va_A [(ad, .inr (4, [.ref ad_xs, .ref ad_ys])), (ad_xs, .inl (kd_xs, 10, .inl zd_xs)), (ad_ys, .inl (kd_ys, 10, .inl zd_ys))] sz)) 0 0 (va_A [(ad, .inr (4, [.ref ad_xs, .ref ad_ys])), (ad_xs, .inl (kd_xs, 10, .inl zd_xs)), (ad_ys, .inl (kd_ys, 10, .inl zd_ys))] sz) := by
  refine Met.ofW (cc := b_Desk_liesOn) (maxL := 4) (ret := (some .boolean)) (by decide) rfl ?_
  intro p e s m args below meth c s₁ B hml hv
  obtain ⟨hargs, hsz, hP, hK, hD0, hN⟩ := hv
  have hx := B.exec
  have hb := B.bytes
  have hr := B.returns
  have hts := atoms_spec (ws := w_Desk_liesOn) B.pre
  have hown : s.vm.findClass R_Desk = some m.cls := findClass_of_methodNamed B.named
  have hlocks := B.notSynchronized
  subst hsz
  have hD := hD0.self (sz := s.heap.size)
  generalize hAe : va_A [(ad, .inr (4, [.ref ad_xs, .ref ad_ys])), (ad_xs, .inl (kd_xs, 10, .inl zd_xs)), (ad_ys, .inl (kd_ys, 10, .inl zd_ys))] s.heap.size = A at hD ⊢
  have hA : ∀ q : Nat, s.heap.size ≤ q → A q := fun q h => by rw [← hAe]; exact Or.inr h
  have hS : va_S A s.heap s.heap [] := va_S.rf
  have hl := lv_entry ([.ref ad, .int v1, .int v2, .int v3]) (n := 4) (Nat.le_of_ble_eq_true rfl)
  refine W.eq (congrArg (fun a => entryFrame m a 4) hargs) ?_
  rw [lg_entry_eq]
  generalize (lg_sl ([.ref ad, .int v1, .int v2, .int v3]) ++ List.replicate (4 - (lg_sl ([.ref ad, .int v1, .int v2, .int v3])).length) Slot.unset).toArray = ls at hl ⊢
  have hl : lv_has ls 4 [(0, .ref ad), (1, .int v1), (2, .int v2), (3, .int v3)] := hl
  generalize hH0 : ([] : List Loc) = locs at hS ⊢
  have hI := hR.symm
  rw [F_liesOnG] at hI
  refine lv_aload_n hx hb d_Desk_liesOn_0 rfl (lv_at hl 0 rfl) ?_
  refine lv_iload_n hx hb d_Desk_liesOn_1 rfl (lv_at hl 2 rfl) ?_
  refine lv_iload_n hx hb d_Desk_liesOn_2 rfl (lv_at hl 3 rfl) ?_
  refine lv_iload_n hx hb d_Desk_liesOn_3 rfl (lv_at hl 1 rfl) ?_
  obtain ⟨p_4, hg_4, hI⟩ := ob_bd hI
  have hPc := hP.sub (ws' := [(ad, .inr (4, [.ref ad_xs, .ref ad_ys])), (ad_xs, .inl (kd_xs, 10, .inl zd_xs)), (ad_ys, .inl (kd_ys, 10, .inl zd_ys))]) [0, 1, 2] rfl
  have hDc := hD.sub (ws' := [(ad, .inr (4, [.ref ad_xs, .ref ad_ys])), (ad_xs, .inl (kd_xs, 10, .inl zd_xs)), (ad_ys, .inl (kd_ys, 10, .inl zd_ys))]) [0, 1, 2] (by decide) rfl
  have hKc := hK.sub (tys' := [(kd_xs, .int), (kd_ys, .int)]) [0, 1] rfl
  have hFc := va_free (wc := [(ad, .inr (4, [.ref ad_xs, .ref ad_ys])), (ad_xs, .inl (kd_xs, 10, .inl zd_xs)), (ad_ys, .inl (kd_ys, 10, .inl zd_ys))]) hD hS hA [0, 1, 2] rfl
  refine va_calli (va_runV (As := [.int v2, .int v3, .int v1]) (rest := []) ⟨hx, hb, hml, hown, hts⟩ (c_turnG l dC dI s.heap.size ad ad_xs ad_ys kd_xs kd_ys zd_xs zd_ys v2 v3 v1 p_4 hg_4) (cwV 3 hts (gi4 mw_2_66 mw_2_68 mw_p_21 mw_1_5 mw_2_69) rfl rfl rfl (by decide +kernel) ⟨Nat.le_of_ble_eq_true rfl, Nat.le_of_ble_eq_true rfl⟩) ⟨fb_, va_recv (q0 := 0) (ci := 4) hK hP rfl rfl, pre_ hPc hKc hDc hN⟩ rfl rfl hl.1 rfl (lv_room (Nat.le_of_ble_eq_true rfl)) d_Desk_liesOn_4 ⟨Nat.le_of_ble_eq_true rfl, Nat.le_of_ble_eq_true rfl⟩) hS (fun q _ h => hFc q h) hFc (fun r_4 u t H locs ht hvm hp_4 hB hz1 hk1 hS => ?_)
  obtain ⟨hP1, -, hD1⟩ := hB
  rw [ht] at hP1
  obtain ⟨hP, hD⟩ := va_join (wr := []) (w1 := [(ad, .inr (4, [.ref ad_xs, .ref ad_ys])), (ad_xs, .inl (kd_xs, 10, .inl zd_xs)), (ad_ys, .inl (kd_ys, 10, .inl zd_ys))]) hP hD [0, 1, 2] [] rfl rfl (by decide) (by decide) hk1 hFc hP1 hD1
  have hp_4 : (r_4) = p_4 := hp_4
  subst hp_4
  have hP : va_P (dC, dI) classes [(ad, .inr (4, [.ref ad_xs, .ref ad_ys])), (ad_xs, .inl (kd_xs, 10, .inl zd_xs)), (ad_ys, .inl (kd_ys, 10, .inl zd_ys))] H := hP
  have hD : va_D A [(ad, .inr (4, [.ref ad_xs, .ref ad_ys])), (ad_xs, .inl (kd_xs, 10, .inl zd_xs)), (ad_ys, .inl (kd_ys, 10, .inl zd_ys))] := hD
  refine lv_if_ne (tgt := 62) hx hb d_Desk_liesOn_7 rfl (fun hc_7 => ?_) (fun hc_7 => ?_)
  · skip
    have hI := hI.trans (if_neg hc_7)
    refine lv_iconst (v := 0) hx hb d_Desk_liesOn_62 (by decide) ?_
    exact W.zret (v := 0) (ty := .boolean) hx hb hr (nr01 (Or.inl rfl)) (fun t ht hW => ⟨⟨0, (), rfl, ⟨(Option.some.inj hI).symm, (Or.inl rfl)⟩, by rw [ht]; exact hP, va_K.moved hW.alike hK, hD⟩, hS.F ht⟩) hS.2.2 d_Desk_liesOn_63
  · skip
    have hI := hI.trans (if_pos hc_7)
    refine lv_aload_n hx hb d_Desk_liesOn_10 rfl (lv_at hl 0 rfl) ?_
    refine va_get (D := (dC, dI)) (ci := 4) (v := .ref ad_xs) (C := R_Desk) (T := F_Desk) (N := 2) hx hb hts (fun w h => List.mem_cons_of_mem _ (in_Desk w h)) hown hK hP 0 rfl rfl 0 (by decide) (hts _ (List.mem_cons_of_mem _ mw_1_89)) (fun _ h9 => h9) rfl d_Desk_liesOn_11 ?_
    refine lv_iload_n hx hb d_Desk_liesOn_14 rfl (lv_at hl 1 rfl) ?_
    have hi_15 := ob_in hI
    have hI := ob_th hI
    refine va_iald (D := (dC, dI)) hx hb hK hP 1 0 rfl rfl hi_15 d_Desk_liesOn_15 ?_
    refine lv_aload_n hx hb d_Desk_liesOn_16 rfl (lv_at hl 0 rfl) ?_
    refine va_get (D := (dC, dI)) (ci := 4) (v := .ref ad_xs) (C := R_Desk) (T := F_Desk) (N := 2) hx hb hts (fun w h => List.mem_cons_of_mem _ (in_Desk w h)) hown hK hP 0 rfl rfl 0 (by decide) (hts _ (List.mem_cons_of_mem _ mw_1_89)) (fun _ h9 => h9) rfl d_Desk_liesOn_17 ?_
    refine lv_iload_n hx hb d_Desk_liesOn_20 rfl (lv_at hl 2 rfl) ?_
    have hi_21 := ob_in hI
    have hI := ob_th hI
    refine va_iald (D := (dC, dI)) hx hb hK hP 1 0 rfl rfl hi_21 d_Desk_liesOn_21 ?_
    refine lv_aload_n hx hb d_Desk_liesOn_22 rfl (lv_at hl 0 rfl) ?_
    refine va_get (D := (dC, dI)) (ci := 4) (v := .ref ad_xs) (C := R_Desk) (T := F_Desk) (N := 2) hx hb hts (fun w h => List.mem_cons_of_mem _ (in_Desk w h)) hown hK hP 0 rfl rfl 0 (by decide) (hts _ (List.mem_cons_of_mem _ mw_1_89)) (fun _ h9 => h9) rfl d_Desk_liesOn_23 ?_
    refine lv_iload_n hx hb d_Desk_liesOn_26 rfl (lv_at hl 3 rfl) ?_
    have hi_27 := ob_in hI
    have hI := ob_th hI
    refine va_iald (D := (dC, dI)) hx hb hK hP 1 0 rfl rfl hi_27 d_Desk_liesOn_27 ?_
    obtain ⟨p_28, hg_28, hI⟩ := ob_bd hI
    have hPc := hP.sub (ws' := []) [] rfl
    have hDc := hD.sub (ws' := []) [] (by decide) rfl
    have hKc := hK.sub (tys' := []) [] rfl
    have hFc := va_free (wc := []) hD hS hA [] rfl
    refine va_calli (va_runS (As := [.int (zd_xs (Int32.toNatClampNeg v1)), .int (zd_xs (Int32.toNatClampNeg v2)), .int (zd_xs (Int32.toNatClampNeg v3))]) (rest := []) ⟨hx, hb, hml, hown, hts⟩ (c_isBetweenG l dC dI H.size (zd_xs (Int32.toNatClampNeg v1)) (zd_xs (Int32.toNatClampNeg v2)) (zd_xs (Int32.toNatClampNeg v3)) p_28 hg_28) (cwS 3 hts (gi3 mw_2_70 mw_2_71 mw_1_5 mw_2_72) rfl rfl rfl (by decide +kernel) ⟨Nat.le_of_ble_eq_true rfl, Nat.le_of_ble_eq_true rfl⟩) ⟨fb_, pre_ hPc hKc hDc hN⟩ rfl rfl hl.1 rfl (lv_room (Nat.le_of_ble_eq_true rfl)) d_Desk_liesOn_28 ⟨Nat.le_of_ble_eq_true rfl, Nat.le_of_ble_eq_true rfl⟩) hS (fun q _ h => hFc q h) hFc (fun r_28 u t H locs ht hvm hp_28 hB hz1 hk1 hS => ?_)
    obtain ⟨hP1, -, hD1⟩ := hB
    rw [ht] at hP1
    obtain ⟨hP, hD⟩ := va_join (wr := [(ad, .inr (4, [.ref ad_xs, .ref ad_ys])), (ad_xs, .inl (kd_xs, 10, .inl zd_xs)), (ad_ys, .inl (kd_ys, 10, .inl zd_ys))]) (w1 := []) hP hD [] [0, 1, 2] rfl rfl (by decide) (by decide) hk1 hFc hP1 hD1
    obtain ⟨hp_28, hz_28⟩ := hp_28
    have hp_28 : (r_28) = p_28 := hp_28
    subst hp_28
    have hP : va_P (dC, dI) classes [(ad, .inr (4, [.ref ad_xs, .ref ad_ys])), (ad_xs, .inl (kd_xs, 10, .inl zd_xs)), (ad_ys, .inl (kd_ys, 10, .inl zd_ys))] H := hP
    have hD : va_D A [(ad, .inr (4, [.ref ad_xs, .ref ad_ys])), (ad_xs, .inl (kd_xs, 10, .inl zd_xs)), (ad_ys, .inl (kd_ys, 10, .inl zd_ys))] := hD
    refine lv_if_eq (tgt := 62) hx hb d_Desk_liesOn_31 rfl (fun hc_31 => ?_) (fun hc_31 => ?_)
    · skip
      have hI := hI.trans (if_pos hc_31)
      refine lv_iconst (v := 0) hx hb d_Desk_liesOn_62 (by decide) ?_
      exact W.zret (v := 0) (ty := .boolean) hx hb hr (nr01 (Or.inl rfl)) (fun t ht hW => ⟨⟨0, (), rfl, ⟨(Option.some.inj hI).symm, (Or.inl rfl)⟩, by rw [ht]; exact hP, va_K.moved hW.alike hK, hD⟩, hS.F ht⟩) hS.2.2 d_Desk_liesOn_63
    · skip
      have hI := hI.trans (if_neg hc_31)
      refine lv_aload_n hx hb d_Desk_liesOn_34 rfl (lv_at hl 0 rfl) ?_
      refine va_get (D := (dC, dI)) (ci := 4) (v := .ref ad_ys) (C := R_Desk) (T := F_Desk) (N := 2) hx hb hts (fun w h => List.mem_cons_of_mem _ (in_Desk w h)) hown hK hP 0 rfl rfl 1 (by decide) (hts _ (List.mem_cons_of_mem _ mw_1_90)) (fun _ h9 => h9) rfl d_Desk_liesOn_35 ?_
      refine lv_iload_n hx hb d_Desk_liesOn_38 rfl (lv_at hl 1 rfl) ?_
      refine va_iald (D := (dC, dI)) hx hb hK hP 2 1 rfl rfl hi_15 d_Desk_liesOn_39 ?_
      refine lv_aload_n hx hb d_Desk_liesOn_40 rfl (lv_at hl 0 rfl) ?_
      refine va_get (D := (dC, dI)) (ci := 4) (v := .ref ad_ys) (C := R_Desk) (T := F_Desk) (N := 2) hx hb hts (fun w h => List.mem_cons_of_mem _ (in_Desk w h)) hown hK hP 0 rfl rfl 1 (by decide) (hts _ (List.mem_cons_of_mem _ mw_1_90)) (fun _ h9 => h9) rfl d_Desk_liesOn_41 ?_
      refine lv_iload_n hx hb d_Desk_liesOn_44 rfl (lv_at hl 2 rfl) ?_
      refine va_iald (D := (dC, dI)) hx hb hK hP 2 1 rfl rfl hi_21 d_Desk_liesOn_45 ?_
      refine lv_aload_n hx hb d_Desk_liesOn_46 rfl (lv_at hl 0 rfl) ?_
      refine va_get (D := (dC, dI)) (ci := 4) (v := .ref ad_ys) (C := R_Desk) (T := F_Desk) (N := 2) hx hb hts (fun w h => List.mem_cons_of_mem _ (in_Desk w h)) hown hK hP 0 rfl rfl 1 (by decide) (hts _ (List.mem_cons_of_mem _ mw_1_90)) (fun _ h9 => h9) rfl d_Desk_liesOn_47 ?_
      refine lv_iload_n hx hb d_Desk_liesOn_50 rfl (lv_at hl 3 rfl) ?_
      refine va_iald (D := (dC, dI)) hx hb hK hP 2 1 rfl rfl hi_27 d_Desk_liesOn_51 ?_
      obtain ⟨p_52, hg_52, hI⟩ := ob_bd hI
      have hPc := hP.sub (ws' := []) [] rfl
      have hDc := hD.sub (ws' := []) [] (by decide) rfl
      have hKc := hK.sub (tys' := []) [] rfl
      have hFc := va_free (wc := []) hD hS hA [] rfl
      refine va_calli (va_runS (As := [.int (zd_ys (Int32.toNatClampNeg v1)), .int (zd_ys (Int32.toNatClampNeg v2)), .int (zd_ys (Int32.toNatClampNeg v3))]) (rest := []) ⟨hx, hb, hml, hown, hts⟩ (c_isBetweenG l dC dI H.size (zd_ys (Int32.toNatClampNeg v1)) (zd_ys (Int32.toNatClampNeg v2)) (zd_ys (Int32.toNatClampNeg v3)) p_52 hg_52) (cwS 3 hts (gi3 mw_2_70 mw_2_71 mw_1_5 mw_2_72) rfl rfl rfl (by decide +kernel) ⟨Nat.le_of_ble_eq_true rfl, Nat.le_of_ble_eq_true rfl⟩) ⟨fb_, pre_ hPc hKc hDc hN⟩ rfl rfl hl.1 rfl (lv_room (Nat.le_of_ble_eq_true rfl)) d_Desk_liesOn_52 ⟨Nat.le_of_ble_eq_true rfl, Nat.le_of_ble_eq_true rfl⟩) hS (fun q _ h => hFc q h) hFc (fun r_52 u t H locs ht hvm hp_52 hB hz1 hk1 hS => ?_)
      obtain ⟨hP1, -, hD1⟩ := hB
      rw [ht] at hP1
      obtain ⟨hP, hD⟩ := va_join (wr := [(ad, .inr (4, [.ref ad_xs, .ref ad_ys])), (ad_xs, .inl (kd_xs, 10, .inl zd_xs)), (ad_ys, .inl (kd_ys, 10, .inl zd_ys))]) (w1 := []) hP hD [] [0, 1, 2] rfl rfl (by decide) (by decide) hk1 hFc hP1 hD1
      obtain ⟨hp_52, hz_52⟩ := hp_52
      have hp_52 : (r_52) = p_52 := hp_52
      subst hp_52
      have hP : va_P (dC, dI) classes [(ad, .inr (4, [.ref ad_xs, .ref ad_ys])), (ad_xs, .inl (kd_xs, 10, .inl zd_xs)), (ad_ys, .inl (kd_ys, 10, .inl zd_ys))] H := hP
      have hD : va_D A [(ad, .inr (4, [.ref ad_xs, .ref ad_ys])), (ad_xs, .inl (kd_xs, 10, .inl zd_xs)), (ad_ys, .inl (kd_ys, 10, .inl zd_ys))] := hD
      refine lv_if_eq (tgt := 62) hx hb d_Desk_liesOn_55 rfl (fun hc_55 => ?_) (fun hc_55 => ?_)
      · skip
        have hI := hI.trans (if_pos hc_55)
        refine lv_iconst (v := 0) hx hb d_Desk_liesOn_62 (by decide) ?_
        exact W.zret (v := 0) (ty := .boolean) hx hb hr (nr01 (Or.inl rfl)) (fun t ht hW => ⟨⟨0, (), rfl, ⟨(Option.some.inj hI).symm, (Or.inl rfl)⟩, by rw [ht]; exact hP, va_K.moved hW.alike hK, hD⟩, hS.F ht⟩) hS.2.2 d_Desk_liesOn_63
      · skip
        have hI := hI.trans (if_neg hc_55)
        refine lv_iconst (v := 1) hx hb d_Desk_liesOn_58 (by decide) ?_
        refine lv_goto (tgt := 63) hx hb d_Desk_liesOn_59 rfl ?_
        exact W.zret (v := 1) (ty := .boolean) hx hb hr (nr01 (Or.inr rfl)) (fun t ht hW => ⟨⟨1, (), rfl, ⟨(Option.some.inj hI).symm, (Or.inr rfl)⟩, by rw [ht]; exact hP, va_K.moved hW.alike hK, hD⟩, hS.F ht⟩) hS.2.2 d_Desk_liesOn_63
set_option maxHeartbeats 4000000 in
set_option maxRecDepth 100000 in
theorem c_touchG (l : Launch) (dC : Nat → ClassId) (dI : Nat → Nat → Nat) (sz : Nat) (ad ad_xs ad_ys : Nat) (kd_xs kd_ys : ClassId) (zd_xs : Nat → Int32) (zd_ys : Nat → Int32) (v1 v2 v3 v4 : Int32) (R : Int32) (hR : F_touchG zd_xs zd_ys v1 v2 v3 v4 = some R) : Met l y_Desk_touch w_Desk_touch ({ frames := 3, cells := 0, slots := 0, locals := 64 }) (Pre_ dC dI sz [.ref ad, .int v1, .int v2, .int v3, .int v4] [(ad, .inr (4, [.ref ad_xs, .ref ad_ys])), (ad_xs, .inl (kd_xs, 10, .inl zd_xs)), (ad_ys, .inl (kd_ys, 10, .inl zd_ys))] [(kd_xs, .int), (kd_ys, .int)]) (va_Qi (fun (r : Int32) (u : Unit) => (r = R) ∧ z01 r) (fun u t => End_ dC dI (va_A [(ad, .inr (4, [.ref ad_xs, .ref ad_ys])), (ad_xs, .inl (kd_xs, 10, .inl zd_xs)), (ad_ys, .inl (kd_ys, 10, .inl zd_ys))] sz) [(kd_xs, .int), (kd_ys, .int)] [(ad, .inr (4, [.ref ad_xs, .ref ad_ys])), (ad_xs, .inl (kd_xs, 10, .inl zd_xs)), (ad_ys, .inl (kd_ys, 10, .inl zd_ys))] t) (va_A [(ad, .inr (4, [.ref ad_xs, .ref ad_ys])), (ad_xs, .inl (kd_xs, 10, .inl zd_xs)), (ad_ys, .inl (kd_ys, 10, .inl zd_ys))] sz)) 0 0 (va_A [(ad, .inr (4, [.ref ad_xs, .ref ad_ys])), (ad_xs, .inl (kd_xs, 10, .inl zd_xs)), (ad_ys, .inl (kd_ys, 10, .inl zd_ys))] sz) := by
  refine Met.ofW (cc := b_Desk_touch) (maxL := 5) (ret := (some .boolean)) (by decide) rfl ?_
  intro p e s m args below meth c s₁ B hml hv
  obtain ⟨hargs, hsz, hP, hK, hD0, hN⟩ := hv
  have hx := B.exec
  have hb := B.bytes
  have hr := B.returns
  have hts := atoms_spec (ws := w_Desk_touch) B.pre
  have hown : s.vm.findClass R_Desk = some m.cls := findClass_of_methodNamed B.named
  have hlocks := B.notSynchronized
  subst hsz
  have hD := hD0.self (sz := s.heap.size)
  generalize hAe : va_A [(ad, .inr (4, [.ref ad_xs, .ref ad_ys])), (ad_xs, .inl (kd_xs, 10, .inl zd_xs)), (ad_ys, .inl (kd_ys, 10, .inl zd_ys))] s.heap.size = A at hD ⊢
  have hA : ∀ q : Nat, s.heap.size ≤ q → A q := fun q h => by rw [← hAe]; exact Or.inr h
  have hS : va_S A s.heap s.heap [] := va_S.rf
  have hl := lv_entry ([.ref ad, .int v1, .int v2, .int v3, .int v4]) (n := 5) (Nat.le_of_ble_eq_true rfl)
  refine W.eq (congrArg (fun a => entryFrame m a 5) hargs) ?_
  rw [lg_entry_eq]
  generalize (lg_sl ([.ref ad, .int v1, .int v2, .int v3, .int v4]) ++ List.replicate (5 - (lg_sl ([.ref ad, .int v1, .int v2, .int v3, .int v4])).length) Slot.unset).toArray = ls at hl ⊢
  have hl : lv_has ls 5 [(0, .ref ad), (1, .int v1), (2, .int v2), (3, .int v3), (4, .int v4)] := hl
  generalize hH0 : ([] : List Loc) = locs at hS ⊢
  have hI := hR.symm
  rw [F_touchG] at hI
  refine lv_aload_n hx hb d_Desk_touch_0 rfl (lv_at hl 0 rfl) ?_
  refine lv_iload_n hx hb d_Desk_touch_1 rfl (lv_at hl 1 rfl) ?_
  refine lv_iload_n hx hb d_Desk_touch_2 rfl (lv_at hl 3 rfl) ?_
  refine lv_iload hx hb d_Desk_touch_3 (lv_at hl 4 rfl) ?_
  obtain ⟨p_5, hg_5, hI⟩ := ob_bd hI
  have hPc := hP.sub (ws' := [(ad, .inr (4, [.ref ad_xs, .ref ad_ys])), (ad_xs, .inl (kd_xs, 10, .inl zd_xs)), (ad_ys, .inl (kd_ys, 10, .inl zd_ys))]) [0, 1, 2] rfl
  have hDc := hD.sub (ws' := [(ad, .inr (4, [.ref ad_xs, .ref ad_ys])), (ad_xs, .inl (kd_xs, 10, .inl zd_xs)), (ad_ys, .inl (kd_ys, 10, .inl zd_ys))]) [0, 1, 2] (by decide) rfl
  have hKc := hK.sub (tys' := [(kd_xs, .int), (kd_ys, .int)]) [0, 1] rfl
  have hFc := va_free (wc := [(ad, .inr (4, [.ref ad_xs, .ref ad_ys])), (ad_xs, .inl (kd_xs, 10, .inl zd_xs)), (ad_ys, .inl (kd_ys, 10, .inl zd_ys))]) hD hS hA [0, 1, 2] rfl
  refine va_calli (va_runV (As := [.int v1, .int v3, .int v4]) (rest := []) ⟨hx, hb, hml, hown, hts⟩ (c_liesOnG l dC dI s.heap.size ad ad_xs ad_ys kd_xs kd_ys zd_xs zd_ys v1 v3 v4 p_5 hg_5) (cwV 3 hts (gi4 mw_2_93 mw_2_63 mw_2_64 mw_1_5 mw_2_65) rfl rfl rfl (by decide +kernel) ⟨Nat.le_of_ble_eq_true rfl, Nat.le_of_ble_eq_true rfl⟩) ⟨fb_, va_recv (q0 := 0) (ci := 4) hK hP rfl rfl, pre_ hPc hKc hDc hN⟩ rfl rfl hl.1 rfl (lv_room (Nat.le_of_ble_eq_true rfl)) d_Desk_touch_5 ⟨Nat.le_of_ble_eq_true rfl, Nat.le_of_ble_eq_true rfl⟩) hS (fun q _ h => hFc q h) hFc (fun r_5 u t H locs ht hvm hp_5 hB hz1 hk1 hS => ?_)
  obtain ⟨hP1, -, hD1⟩ := hB
  rw [ht] at hP1
  obtain ⟨hP, hD⟩ := va_join (wr := []) (w1 := [(ad, .inr (4, [.ref ad_xs, .ref ad_ys])), (ad_xs, .inl (kd_xs, 10, .inl zd_xs)), (ad_ys, .inl (kd_ys, 10, .inl zd_ys))]) hP hD [0, 1, 2] [] rfl rfl (by decide) (by decide) hk1 hFc hP1 hD1
  obtain ⟨hp_5, hz_5⟩ := hp_5
  have hp_5 : (r_5) = p_5 := hp_5
  subst hp_5
  have hP : va_P (dC, dI) classes [(ad, .inr (4, [.ref ad_xs, .ref ad_ys])), (ad_xs, .inl (kd_xs, 10, .inl zd_xs)), (ad_ys, .inl (kd_ys, 10, .inl zd_ys))] H := hP
  have hD : va_D A [(ad, .inr (4, [.ref ad_xs, .ref ad_ys])), (ad_xs, .inl (kd_xs, 10, .inl zd_xs)), (ad_ys, .inl (kd_ys, 10, .inl zd_ys))] := hD
  refine lv_if_ne (tgt := 43) hx hb d_Desk_touch_8 rfl (fun hc_8 => ?_) (fun hc_8 => ?_)
  · skip
    have hI := hI.trans (if_neg hc_8)
    refine lv_iconst (v := 1) hx hb d_Desk_touch_43 (by decide) ?_
    exact W.zret (v := 1) (ty := .boolean) hx hb hr (nr01 (Or.inr rfl)) (fun t ht hW => ⟨⟨1, (), rfl, ⟨(Option.some.inj hI).symm, (Or.inr rfl)⟩, by rw [ht]; exact hP, va_K.moved hW.alike hK, hD⟩, hS.F ht⟩) hS.2.2 d_Desk_touch_44
  · skip
    have hI := hI.trans (if_pos hc_8)
    refine lv_aload_n hx hb d_Desk_touch_11 rfl (lv_at hl 0 rfl) ?_
    refine lv_iload_n hx hb d_Desk_touch_12 rfl (lv_at hl 2 rfl) ?_
    refine lv_iload_n hx hb d_Desk_touch_13 rfl (lv_at hl 3 rfl) ?_
    refine lv_iload hx hb d_Desk_touch_14 (lv_at hl 4 rfl) ?_
    obtain ⟨p_16, hg_16, hI⟩ := ob_bd hI
    have hPc := hP.sub (ws' := [(ad, .inr (4, [.ref ad_xs, .ref ad_ys])), (ad_xs, .inl (kd_xs, 10, .inl zd_xs)), (ad_ys, .inl (kd_ys, 10, .inl zd_ys))]) [0, 1, 2] rfl
    have hDc := hD.sub (ws' := [(ad, .inr (4, [.ref ad_xs, .ref ad_ys])), (ad_xs, .inl (kd_xs, 10, .inl zd_xs)), (ad_ys, .inl (kd_ys, 10, .inl zd_ys))]) [0, 1, 2] (by decide) rfl
    have hKc := hK.sub (tys' := [(kd_xs, .int), (kd_ys, .int)]) [0, 1] rfl
    have hFc := va_free (wc := [(ad, .inr (4, [.ref ad_xs, .ref ad_ys])), (ad_xs, .inl (kd_xs, 10, .inl zd_xs)), (ad_ys, .inl (kd_ys, 10, .inl zd_ys))]) hD hS hA [0, 1, 2] rfl
    refine va_calli (va_runV (As := [.int v2, .int v3, .int v4]) (rest := []) ⟨hx, hb, hml, hown, hts⟩ (c_liesOnG l dC dI H.size ad ad_xs ad_ys kd_xs kd_ys zd_xs zd_ys v2 v3 v4 p_16 hg_16) (cwV 3 hts (gi4 mw_2_93 mw_2_63 mw_2_64 mw_1_5 mw_2_65) rfl rfl rfl (by decide +kernel) ⟨Nat.le_of_ble_eq_true rfl, Nat.le_of_ble_eq_true rfl⟩) ⟨fb_, va_recv (q0 := 0) (ci := 4) hK hP rfl rfl, pre_ hPc hKc hDc hN⟩ rfl rfl hl.1 rfl (lv_room (Nat.le_of_ble_eq_true rfl)) d_Desk_touch_16 ⟨Nat.le_of_ble_eq_true rfl, Nat.le_of_ble_eq_true rfl⟩) hS (fun q _ h => hFc q h) hFc (fun r_16 u t H locs ht hvm hp_16 hB hz1 hk1 hS => ?_)
    obtain ⟨hP1, -, hD1⟩ := hB
    rw [ht] at hP1
    obtain ⟨hP, hD⟩ := va_join (wr := []) (w1 := [(ad, .inr (4, [.ref ad_xs, .ref ad_ys])), (ad_xs, .inl (kd_xs, 10, .inl zd_xs)), (ad_ys, .inl (kd_ys, 10, .inl zd_ys))]) hP hD [0, 1, 2] [] rfl rfl (by decide) (by decide) hk1 hFc hP1 hD1
    obtain ⟨hp_16, hz_16⟩ := hp_16
    have hp_16 : (r_16) = p_16 := hp_16
    subst hp_16
    have hP : va_P (dC, dI) classes [(ad, .inr (4, [.ref ad_xs, .ref ad_ys])), (ad_xs, .inl (kd_xs, 10, .inl zd_xs)), (ad_ys, .inl (kd_ys, 10, .inl zd_ys))] H := hP
    have hD : va_D A [(ad, .inr (4, [.ref ad_xs, .ref ad_ys])), (ad_xs, .inl (kd_xs, 10, .inl zd_xs)), (ad_ys, .inl (kd_ys, 10, .inl zd_ys))] := hD
    refine lv_if_ne (tgt := 43) hx hb d_Desk_touch_19 rfl (fun hc_19 => ?_) (fun hc_19 => ?_)
    · skip
      have hI := hI.trans (if_neg hc_19)
      refine lv_iconst (v := 1) hx hb d_Desk_touch_43 (by decide) ?_
      exact W.zret (v := 1) (ty := .boolean) hx hb hr (nr01 (Or.inr rfl)) (fun t ht hW => ⟨⟨1, (), rfl, ⟨(Option.some.inj hI).symm, (Or.inr rfl)⟩, by rw [ht]; exact hP, va_K.moved hW.alike hK, hD⟩, hS.F ht⟩) hS.2.2 d_Desk_touch_44
    · skip
      have hI := hI.trans (if_pos hc_19)
      refine lv_aload_n hx hb d_Desk_touch_22 rfl (lv_at hl 0 rfl) ?_
      refine lv_iload_n hx hb d_Desk_touch_23 rfl (lv_at hl 3 rfl) ?_
      refine lv_iload_n hx hb d_Desk_touch_24 rfl (lv_at hl 1 rfl) ?_
      refine lv_iload_n hx hb d_Desk_touch_25 rfl (lv_at hl 2 rfl) ?_
      obtain ⟨p_26, hg_26, hI⟩ := ob_bd hI
      have hPc := hP.sub (ws' := [(ad, .inr (4, [.ref ad_xs, .ref ad_ys])), (ad_xs, .inl (kd_xs, 10, .inl zd_xs)), (ad_ys, .inl (kd_ys, 10, .inl zd_ys))]) [0, 1, 2] rfl
      have hDc := hD.sub (ws' := [(ad, .inr (4, [.ref ad_xs, .ref ad_ys])), (ad_xs, .inl (kd_xs, 10, .inl zd_xs)), (ad_ys, .inl (kd_ys, 10, .inl zd_ys))]) [0, 1, 2] (by decide) rfl
      have hKc := hK.sub (tys' := [(kd_xs, .int), (kd_ys, .int)]) [0, 1] rfl
      have hFc := va_free (wc := [(ad, .inr (4, [.ref ad_xs, .ref ad_ys])), (ad_xs, .inl (kd_xs, 10, .inl zd_xs)), (ad_ys, .inl (kd_ys, 10, .inl zd_ys))]) hD hS hA [0, 1, 2] rfl
      refine va_calli (va_runV (As := [.int v3, .int v1, .int v2]) (rest := []) ⟨hx, hb, hml, hown, hts⟩ (c_liesOnG l dC dI H.size ad ad_xs ad_ys kd_xs kd_ys zd_xs zd_ys v3 v1 v2 p_26 hg_26) (cwV 3 hts (gi4 mw_2_93 mw_2_63 mw_2_64 mw_1_5 mw_2_65) rfl rfl rfl (by decide +kernel) ⟨Nat.le_of_ble_eq_true rfl, Nat.le_of_ble_eq_true rfl⟩) ⟨fb_, va_recv (q0 := 0) (ci := 4) hK hP rfl rfl, pre_ hPc hKc hDc hN⟩ rfl rfl hl.1 rfl (lv_room (Nat.le_of_ble_eq_true rfl)) d_Desk_touch_26 ⟨Nat.le_of_ble_eq_true rfl, Nat.le_of_ble_eq_true rfl⟩) hS (fun q _ h => hFc q h) hFc (fun r_26 u t H locs ht hvm hp_26 hB hz1 hk1 hS => ?_)
      obtain ⟨hP1, -, hD1⟩ := hB
      rw [ht] at hP1
      obtain ⟨hP, hD⟩ := va_join (wr := []) (w1 := [(ad, .inr (4, [.ref ad_xs, .ref ad_ys])), (ad_xs, .inl (kd_xs, 10, .inl zd_xs)), (ad_ys, .inl (kd_ys, 10, .inl zd_ys))]) hP hD [0, 1, 2] [] rfl rfl (by decide) (by decide) hk1 hFc hP1 hD1
      obtain ⟨hp_26, hz_26⟩ := hp_26
      have hp_26 : (r_26) = p_26 := hp_26
      subst hp_26
      have hP : va_P (dC, dI) classes [(ad, .inr (4, [.ref ad_xs, .ref ad_ys])), (ad_xs, .inl (kd_xs, 10, .inl zd_xs)), (ad_ys, .inl (kd_ys, 10, .inl zd_ys))] H := hP
      have hD : va_D A [(ad, .inr (4, [.ref ad_xs, .ref ad_ys])), (ad_xs, .inl (kd_xs, 10, .inl zd_xs)), (ad_ys, .inl (kd_ys, 10, .inl zd_ys))] := hD
      refine lv_if_ne (tgt := 43) hx hb d_Desk_touch_29 rfl (fun hc_29 => ?_) (fun hc_29 => ?_)
      · skip
        have hI := hI.trans (if_neg hc_29)
        refine lv_iconst (v := 1) hx hb d_Desk_touch_43 (by decide) ?_
        exact W.zret (v := 1) (ty := .boolean) hx hb hr (nr01 (Or.inr rfl)) (fun t ht hW => ⟨⟨1, (), rfl, ⟨(Option.some.inj hI).symm, (Or.inr rfl)⟩, by rw [ht]; exact hP, va_K.moved hW.alike hK, hD⟩, hS.F ht⟩) hS.2.2 d_Desk_touch_44
      · skip
        have hI := hI.trans (if_pos hc_29)
        refine lv_aload_n hx hb d_Desk_touch_32 rfl (lv_at hl 0 rfl) ?_
        refine lv_iload hx hb d_Desk_touch_33 (lv_at hl 4 rfl) ?_
        refine lv_iload_n hx hb d_Desk_touch_35 rfl (lv_at hl 1 rfl) ?_
        refine lv_iload_n hx hb d_Desk_touch_36 rfl (lv_at hl 2 rfl) ?_
        obtain ⟨p_37, hg_37, hI⟩ := ob_bd hI
        have hPc := hP.sub (ws' := [(ad, .inr (4, [.ref ad_xs, .ref ad_ys])), (ad_xs, .inl (kd_xs, 10, .inl zd_xs)), (ad_ys, .inl (kd_ys, 10, .inl zd_ys))]) [0, 1, 2] rfl
        have hDc := hD.sub (ws' := [(ad, .inr (4, [.ref ad_xs, .ref ad_ys])), (ad_xs, .inl (kd_xs, 10, .inl zd_xs)), (ad_ys, .inl (kd_ys, 10, .inl zd_ys))]) [0, 1, 2] (by decide) rfl
        have hKc := hK.sub (tys' := [(kd_xs, .int), (kd_ys, .int)]) [0, 1] rfl
        have hFc := va_free (wc := [(ad, .inr (4, [.ref ad_xs, .ref ad_ys])), (ad_xs, .inl (kd_xs, 10, .inl zd_xs)), (ad_ys, .inl (kd_ys, 10, .inl zd_ys))]) hD hS hA [0, 1, 2] rfl
        refine va_calli (va_runV (As := [.int v4, .int v1, .int v2]) (rest := []) ⟨hx, hb, hml, hown, hts⟩ (c_liesOnG l dC dI H.size ad ad_xs ad_ys kd_xs kd_ys zd_xs zd_ys v4 v1 v2 p_37 hg_37) (cwV 3 hts (gi4 mw_2_93 mw_2_63 mw_2_64 mw_1_5 mw_2_65) rfl rfl rfl (by decide +kernel) ⟨Nat.le_of_ble_eq_true rfl, Nat.le_of_ble_eq_true rfl⟩) ⟨fb_, va_recv (q0 := 0) (ci := 4) hK hP rfl rfl, pre_ hPc hKc hDc hN⟩ rfl rfl hl.1 rfl (lv_room (Nat.le_of_ble_eq_true rfl)) d_Desk_touch_37 ⟨Nat.le_of_ble_eq_true rfl, Nat.le_of_ble_eq_true rfl⟩) hS (fun q _ h => hFc q h) hFc (fun r_37 u t H locs ht hvm hp_37 hB hz1 hk1 hS => ?_)
        obtain ⟨hP1, -, hD1⟩ := hB
        rw [ht] at hP1
        obtain ⟨hP, hD⟩ := va_join (wr := []) (w1 := [(ad, .inr (4, [.ref ad_xs, .ref ad_ys])), (ad_xs, .inl (kd_xs, 10, .inl zd_xs)), (ad_ys, .inl (kd_ys, 10, .inl zd_ys))]) hP hD [0, 1, 2] [] rfl rfl (by decide) (by decide) hk1 hFc hP1 hD1
        obtain ⟨hp_37, hz_37⟩ := hp_37
        have hp_37 : (r_37) = p_37 := hp_37
        subst hp_37
        have hP : va_P (dC, dI) classes [(ad, .inr (4, [.ref ad_xs, .ref ad_ys])), (ad_xs, .inl (kd_xs, 10, .inl zd_xs)), (ad_ys, .inl (kd_ys, 10, .inl zd_ys))] H := hP
        have hD : va_D A [(ad, .inr (4, [.ref ad_xs, .ref ad_ys])), (ad_xs, .inl (kd_xs, 10, .inl zd_xs)), (ad_ys, .inl (kd_ys, 10, .inl zd_ys))] := hD
        refine lv_if_eq (tgt := 45) hx hb d_Desk_touch_40 rfl (fun hc_40 => ?_) (fun hc_40 => ?_)
        · skip
          have hI := hI.trans (if_pos hc_40)
          refine lv_aload_n hx hb d_Desk_touch_45 rfl (lv_at hl 0 rfl) ?_
          refine lv_iload_n hx hb d_Desk_touch_46 rfl (lv_at hl 1 rfl) ?_
          refine lv_iload_n hx hb d_Desk_touch_47 rfl (lv_at hl 2 rfl) ?_
          refine lv_iload_n hx hb d_Desk_touch_48 rfl (lv_at hl 3 rfl) ?_
          obtain ⟨p_49, hg_49, hI⟩ := ob_bd hI
          have hPc := hP.sub (ws' := [(ad, .inr (4, [.ref ad_xs, .ref ad_ys])), (ad_xs, .inl (kd_xs, 10, .inl zd_xs)), (ad_ys, .inl (kd_ys, 10, .inl zd_ys))]) [0, 1, 2] rfl
          have hDc := hD.sub (ws' := [(ad, .inr (4, [.ref ad_xs, .ref ad_ys])), (ad_xs, .inl (kd_xs, 10, .inl zd_xs)), (ad_ys, .inl (kd_ys, 10, .inl zd_ys))]) [0, 1, 2] (by decide) rfl
          have hKc := hK.sub (tys' := [(kd_xs, .int), (kd_ys, .int)]) [0, 1] rfl
          have hFc := va_free (wc := [(ad, .inr (4, [.ref ad_xs, .ref ad_ys])), (ad_xs, .inl (kd_xs, 10, .inl zd_xs)), (ad_ys, .inl (kd_ys, 10, .inl zd_ys))]) hD hS hA [0, 1, 2] rfl
          refine va_calli (va_runV (As := [.int v1, .int v2, .int v3]) (rest := []) ⟨hx, hb, hml, hown, hts⟩ (c_turnG l dC dI H.size ad ad_xs ad_ys kd_xs kd_ys zd_xs zd_ys v1 v2 v3 p_49 hg_49) (cwV 3 hts (gi4 mw_2_66 mw_2_68 mw_p_21 mw_1_5 mw_2_69) rfl rfl rfl (by decide +kernel) ⟨Nat.le_of_ble_eq_true rfl, Nat.le_of_ble_eq_true rfl⟩) ⟨fb_, va_recv (q0 := 0) (ci := 4) hK hP rfl rfl, pre_ hPc hKc hDc hN⟩ rfl rfl hl.1 rfl (lv_room (Nat.le_of_ble_eq_true rfl)) d_Desk_touch_49 ⟨Nat.le_of_ble_eq_true rfl, Nat.le_of_ble_eq_true rfl⟩) hS (fun q _ h => hFc q h) hFc (fun r_49 u t H locs ht hvm hp_49 hB hz1 hk1 hS => ?_)
          obtain ⟨hP1, -, hD1⟩ := hB
          rw [ht] at hP1
          obtain ⟨hP, hD⟩ := va_join (wr := []) (w1 := [(ad, .inr (4, [.ref ad_xs, .ref ad_ys])), (ad_xs, .inl (kd_xs, 10, .inl zd_xs)), (ad_ys, .inl (kd_ys, 10, .inl zd_ys))]) hP hD [0, 1, 2] [] rfl rfl (by decide) (by decide) hk1 hFc hP1 hD1
          have hp_49 : (r_49) = p_49 := hp_49
          subst hp_49
          have hP : va_P (dC, dI) classes [(ad, .inr (4, [.ref ad_xs, .ref ad_ys])), (ad_xs, .inl (kd_xs, 10, .inl zd_xs)), (ad_ys, .inl (kd_ys, 10, .inl zd_ys))] H := hP
          have hD : va_D A [(ad, .inr (4, [.ref ad_xs, .ref ad_ys])), (ad_xs, .inl (kd_xs, 10, .inl zd_xs)), (ad_ys, .inl (kd_ys, 10, .inl zd_ys))] := hD
          refine lv_aload_n hx hb d_Desk_touch_52 rfl (lv_at hl 0 rfl) ?_
          refine lv_iload_n hx hb d_Desk_touch_53 rfl (lv_at hl 1 rfl) ?_
          refine lv_iload_n hx hb d_Desk_touch_54 rfl (lv_at hl 2 rfl) ?_
          refine lv_iload hx hb d_Desk_touch_55 (lv_at hl 4 rfl) ?_
          obtain ⟨p_57, hg_57, hI⟩ := ob_bd hI
          have hPc := hP.sub (ws' := [(ad, .inr (4, [.ref ad_xs, .ref ad_ys])), (ad_xs, .inl (kd_xs, 10, .inl zd_xs)), (ad_ys, .inl (kd_ys, 10, .inl zd_ys))]) [0, 1, 2] rfl
          have hDc := hD.sub (ws' := [(ad, .inr (4, [.ref ad_xs, .ref ad_ys])), (ad_xs, .inl (kd_xs, 10, .inl zd_xs)), (ad_ys, .inl (kd_ys, 10, .inl zd_ys))]) [0, 1, 2] (by decide) rfl
          have hKc := hK.sub (tys' := [(kd_xs, .int), (kd_ys, .int)]) [0, 1] rfl
          have hFc := va_free (wc := [(ad, .inr (4, [.ref ad_xs, .ref ad_ys])), (ad_xs, .inl (kd_xs, 10, .inl zd_xs)), (ad_ys, .inl (kd_ys, 10, .inl zd_ys))]) hD hS hA [0, 1, 2] rfl
          refine va_calli (va_runV (As := [.int v1, .int v2, .int v4]) (rest := [.int r_49]) ⟨hx, hb, hml, hown, hts⟩ (c_turnG l dC dI H.size ad ad_xs ad_ys kd_xs kd_ys zd_xs zd_ys v1 v2 v4 p_57 hg_57) (cwV 3 hts (gi4 mw_2_66 mw_2_68 mw_p_21 mw_1_5 mw_2_69) rfl rfl rfl (by decide +kernel) ⟨Nat.le_of_ble_eq_true rfl, Nat.le_of_ble_eq_true rfl⟩) ⟨fb_, va_recv (q0 := 0) (ci := 4) hK hP rfl rfl, pre_ hPc hKc hDc hN⟩ rfl rfl hl.1 rfl (lv_room (Nat.le_of_ble_eq_true rfl)) d_Desk_touch_57 ⟨Nat.le_of_ble_eq_true rfl, Nat.le_of_ble_eq_true rfl⟩) hS (fun q _ h => hFc q h) hFc (fun r_57 u t H locs ht hvm hp_57 hB hz1 hk1 hS => ?_)
          obtain ⟨hP1, -, hD1⟩ := hB
          rw [ht] at hP1
          obtain ⟨hP, hD⟩ := va_join (wr := []) (w1 := [(ad, .inr (4, [.ref ad_xs, .ref ad_ys])), (ad_xs, .inl (kd_xs, 10, .inl zd_xs)), (ad_ys, .inl (kd_ys, 10, .inl zd_ys))]) hP hD [0, 1, 2] [] rfl rfl (by decide) (by decide) hk1 hFc hP1 hD1
          have hp_57 : (r_57) = p_57 := hp_57
          subst hp_57
          have hP : va_P (dC, dI) classes [(ad, .inr (4, [.ref ad_xs, .ref ad_ys])), (ad_xs, .inl (kd_xs, 10, .inl zd_xs)), (ad_ys, .inl (kd_ys, 10, .inl zd_ys))] H := hP
          have hD : va_D A [(ad, .inr (4, [.ref ad_xs, .ref ad_ys])), (ad_xs, .inl (kd_xs, 10, .inl zd_xs)), (ad_ys, .inl (kd_ys, 10, .inl zd_ys))] := hD
          refine lv_imul hx hb d_Desk_touch_60 ?_
          refine lv_if_ge (tgt := 88) hx hb d_Desk_touch_61 rfl (fun hc_61 => ?_) (fun hc_61 => ?_)
          · skip
            have hI := hI.trans (if_pos hc_61)
            refine lv_iconst (v := 0) hx hb d_Desk_touch_88 (by decide) ?_
            exact W.zret (v := 0) (ty := .boolean) hx hb hr (nr01 (Or.inl rfl)) (fun t ht hW => ⟨⟨0, (), rfl, ⟨(Option.some.inj hI).symm, (Or.inl rfl)⟩, by rw [ht]; exact hP, va_K.moved hW.alike hK, hD⟩, hS.F ht⟩) hS.2.2 d_Desk_touch_89
          · skip
            have hI := hI.trans (if_neg hc_61)
            refine lv_aload_n hx hb d_Desk_touch_64 rfl (lv_at hl 0 rfl) ?_
            refine lv_iload_n hx hb d_Desk_touch_65 rfl (lv_at hl 3 rfl) ?_
            refine lv_iload hx hb d_Desk_touch_66 (lv_at hl 4 rfl) ?_
            refine lv_iload_n hx hb d_Desk_touch_68 rfl (lv_at hl 1 rfl) ?_
            obtain ⟨p_69, hg_69, hI⟩ := ob_bd hI
            have hPc := hP.sub (ws' := [(ad, .inr (4, [.ref ad_xs, .ref ad_ys])), (ad_xs, .inl (kd_xs, 10, .inl zd_xs)), (ad_ys, .inl (kd_ys, 10, .inl zd_ys))]) [0, 1, 2] rfl
            have hDc := hD.sub (ws' := [(ad, .inr (4, [.ref ad_xs, .ref ad_ys])), (ad_xs, .inl (kd_xs, 10, .inl zd_xs)), (ad_ys, .inl (kd_ys, 10, .inl zd_ys))]) [0, 1, 2] (by decide) rfl
            have hKc := hK.sub (tys' := [(kd_xs, .int), (kd_ys, .int)]) [0, 1] rfl
            have hFc := va_free (wc := [(ad, .inr (4, [.ref ad_xs, .ref ad_ys])), (ad_xs, .inl (kd_xs, 10, .inl zd_xs)), (ad_ys, .inl (kd_ys, 10, .inl zd_ys))]) hD hS hA [0, 1, 2] rfl
            refine va_calli (va_runV (As := [.int v3, .int v4, .int v1]) (rest := []) ⟨hx, hb, hml, hown, hts⟩ (c_turnG l dC dI H.size ad ad_xs ad_ys kd_xs kd_ys zd_xs zd_ys v3 v4 v1 p_69 hg_69) (cwV 3 hts (gi4 mw_2_66 mw_2_68 mw_p_21 mw_1_5 mw_2_69) rfl rfl rfl (by decide +kernel) ⟨Nat.le_of_ble_eq_true rfl, Nat.le_of_ble_eq_true rfl⟩) ⟨fb_, va_recv (q0 := 0) (ci := 4) hK hP rfl rfl, pre_ hPc hKc hDc hN⟩ rfl rfl hl.1 rfl (lv_room (Nat.le_of_ble_eq_true rfl)) d_Desk_touch_69 ⟨Nat.le_of_ble_eq_true rfl, Nat.le_of_ble_eq_true rfl⟩) hS (fun q _ h => hFc q h) hFc (fun r_69 u t H locs ht hvm hp_69 hB hz1 hk1 hS => ?_)
            obtain ⟨hP1, -, hD1⟩ := hB
            rw [ht] at hP1
            obtain ⟨hP, hD⟩ := va_join (wr := []) (w1 := [(ad, .inr (4, [.ref ad_xs, .ref ad_ys])), (ad_xs, .inl (kd_xs, 10, .inl zd_xs)), (ad_ys, .inl (kd_ys, 10, .inl zd_ys))]) hP hD [0, 1, 2] [] rfl rfl (by decide) (by decide) hk1 hFc hP1 hD1
            have hp_69 : (r_69) = p_69 := hp_69
            subst hp_69
            have hP : va_P (dC, dI) classes [(ad, .inr (4, [.ref ad_xs, .ref ad_ys])), (ad_xs, .inl (kd_xs, 10, .inl zd_xs)), (ad_ys, .inl (kd_ys, 10, .inl zd_ys))] H := hP
            have hD : va_D A [(ad, .inr (4, [.ref ad_xs, .ref ad_ys])), (ad_xs, .inl (kd_xs, 10, .inl zd_xs)), (ad_ys, .inl (kd_ys, 10, .inl zd_ys))] := hD
            refine lv_aload_n hx hb d_Desk_touch_72 rfl (lv_at hl 0 rfl) ?_
            refine lv_iload_n hx hb d_Desk_touch_73 rfl (lv_at hl 3 rfl) ?_
            refine lv_iload hx hb d_Desk_touch_74 (lv_at hl 4 rfl) ?_
            refine lv_iload_n hx hb d_Desk_touch_76 rfl (lv_at hl 2 rfl) ?_
            obtain ⟨p_77, hg_77, hI⟩ := ob_bd hI
            have hPc := hP.sub (ws' := [(ad, .inr (4, [.ref ad_xs, .ref ad_ys])), (ad_xs, .inl (kd_xs, 10, .inl zd_xs)), (ad_ys, .inl (kd_ys, 10, .inl zd_ys))]) [0, 1, 2] rfl
            have hDc := hD.sub (ws' := [(ad, .inr (4, [.ref ad_xs, .ref ad_ys])), (ad_xs, .inl (kd_xs, 10, .inl zd_xs)), (ad_ys, .inl (kd_ys, 10, .inl zd_ys))]) [0, 1, 2] (by decide) rfl
            have hKc := hK.sub (tys' := [(kd_xs, .int), (kd_ys, .int)]) [0, 1] rfl
            have hFc := va_free (wc := [(ad, .inr (4, [.ref ad_xs, .ref ad_ys])), (ad_xs, .inl (kd_xs, 10, .inl zd_xs)), (ad_ys, .inl (kd_ys, 10, .inl zd_ys))]) hD hS hA [0, 1, 2] rfl
            refine va_calli (va_runV (As := [.int v3, .int v4, .int v2]) (rest := [.int r_69]) ⟨hx, hb, hml, hown, hts⟩ (c_turnG l dC dI H.size ad ad_xs ad_ys kd_xs kd_ys zd_xs zd_ys v3 v4 v2 p_77 hg_77) (cwV 3 hts (gi4 mw_2_66 mw_2_68 mw_p_21 mw_1_5 mw_2_69) rfl rfl rfl (by decide +kernel) ⟨Nat.le_of_ble_eq_true rfl, Nat.le_of_ble_eq_true rfl⟩) ⟨fb_, va_recv (q0 := 0) (ci := 4) hK hP rfl rfl, pre_ hPc hKc hDc hN⟩ rfl rfl hl.1 rfl (lv_room (Nat.le_of_ble_eq_true rfl)) d_Desk_touch_77 ⟨Nat.le_of_ble_eq_true rfl, Nat.le_of_ble_eq_true rfl⟩) hS (fun q _ h => hFc q h) hFc (fun r_77 u t H locs ht hvm hp_77 hB hz1 hk1 hS => ?_)
            obtain ⟨hP1, -, hD1⟩ := hB
            rw [ht] at hP1
            obtain ⟨hP, hD⟩ := va_join (wr := []) (w1 := [(ad, .inr (4, [.ref ad_xs, .ref ad_ys])), (ad_xs, .inl (kd_xs, 10, .inl zd_xs)), (ad_ys, .inl (kd_ys, 10, .inl zd_ys))]) hP hD [0, 1, 2] [] rfl rfl (by decide) (by decide) hk1 hFc hP1 hD1
            have hp_77 : (r_77) = p_77 := hp_77
            subst hp_77
            have hP : va_P (dC, dI) classes [(ad, .inr (4, [.ref ad_xs, .ref ad_ys])), (ad_xs, .inl (kd_xs, 10, .inl zd_xs)), (ad_ys, .inl (kd_ys, 10, .inl zd_ys))] H := hP
            have hD : va_D A [(ad, .inr (4, [.ref ad_xs, .ref ad_ys])), (ad_xs, .inl (kd_xs, 10, .inl zd_xs)), (ad_ys, .inl (kd_ys, 10, .inl zd_ys))] := hD
            refine lv_imul hx hb d_Desk_touch_80 ?_
            refine lv_if_ge (tgt := 88) hx hb d_Desk_touch_81 rfl (fun hc_81 => ?_) (fun hc_81 => ?_)
            · skip
              have hI := hI.trans (if_pos hc_81)
              refine lv_iconst (v := 0) hx hb d_Desk_touch_88 (by decide) ?_
              exact W.zret (v := 0) (ty := .boolean) hx hb hr (nr01 (Or.inl rfl)) (fun t ht hW => ⟨⟨0, (), rfl, ⟨(Option.some.inj hI).symm, (Or.inl rfl)⟩, by rw [ht]; exact hP, va_K.moved hW.alike hK, hD⟩, hS.F ht⟩) hS.2.2 d_Desk_touch_89
            · skip
              have hI := hI.trans (if_neg hc_81)
              refine lv_iconst (v := 1) hx hb d_Desk_touch_84 (by decide) ?_
              refine lv_goto (tgt := 89) hx hb d_Desk_touch_85 rfl ?_
              exact W.zret (v := 1) (ty := .boolean) hx hb hr (nr01 (Or.inr rfl)) (fun t ht hW => ⟨⟨1, (), rfl, ⟨(Option.some.inj hI).symm, (Or.inr rfl)⟩, by rw [ht]; exact hP, va_K.moved hW.alike hK, hD⟩, hS.F ht⟩) hS.2.2 d_Desk_touch_89
        · skip
          have hI := hI.trans (if_neg hc_40)
          refine lv_iconst (v := 1) hx hb d_Desk_touch_43 (by decide) ?_
          exact W.zret (v := 1) (ty := .boolean) hx hb hr (nr01 (Or.inr rfl)) (fun t ht hW => ⟨⟨1, (), rfl, ⟨(Option.some.inj hI).symm, (Or.inr rfl)⟩, by rw [ht]; exact hP, va_K.moved hW.alike hK, hD⟩, hS.F ht⟩) hS.2.2 d_Desk_touch_44
set_option maxHeartbeats 4000000 in
set_option maxRecDepth 100000 in
theorem c_sameWayG (l : Launch) (dC : Nat → ClassId) (dI : Nat → Nat → Nat) (sz : Nat) (ad ad_xs ad_ys : Nat) (kd_xs kd_ys : ClassId) (zd_xs : Nat → Int32) (zd_ys : Nat → Int32) (v1 v2 v3 : Int32) (R : Int32) (hR : F_sameWayG zd_xs zd_ys v1 v2 v3 = some R) : Met l y_Desk_sameWay w_Desk_sameWay ({ frames := 1, cells := 0, slots := 0, locals := 23 }) (Pre_ dC dI sz [.ref ad, .int v1, .int v2, .int v3] [(ad, .inr (4, [.ref ad_xs, .ref ad_ys])), (ad_xs, .inl (kd_xs, 10, .inl zd_xs)), (ad_ys, .inl (kd_ys, 10, .inl zd_ys))] [(kd_xs, .int), (kd_ys, .int)]) (va_Qi (fun (r : Int32) (u : Unit) => (r = R) ∧ z01 r) (fun u t => End_ dC dI (va_A [(ad, .inr (4, [.ref ad_xs, .ref ad_ys])), (ad_xs, .inl (kd_xs, 10, .inl zd_xs)), (ad_ys, .inl (kd_ys, 10, .inl zd_ys))] sz) [(kd_xs, .int), (kd_ys, .int)] [(ad, .inr (4, [.ref ad_xs, .ref ad_ys])), (ad_xs, .inl (kd_xs, 10, .inl zd_xs)), (ad_ys, .inl (kd_ys, 10, .inl zd_ys))] t) (va_A [(ad, .inr (4, [.ref ad_xs, .ref ad_ys])), (ad_xs, .inl (kd_xs, 10, .inl zd_xs)), (ad_ys, .inl (kd_ys, 10, .inl zd_ys))] sz)) 0 0 (va_A [(ad, .inr (4, [.ref ad_xs, .ref ad_ys])), (ad_xs, .inl (kd_xs, 10, .inl zd_xs)), (ad_ys, .inl (kd_ys, 10, .inl zd_ys))] sz) := by
  refine Met.ofW (cc := b_Desk_sameWay) (maxL := 5) (ret := (some .boolean)) (by decide) rfl ?_
  intro p e s m args below meth c s₁ B hml hv
  obtain ⟨hargs, hsz, hP, hK, hD0, hN⟩ := hv
  have hx := B.exec
  have hb := B.bytes
  have hr := B.returns
  have hts := atoms_spec (ws := w_Desk_sameWay) B.pre
  have hown : s.vm.findClass R_Desk = some m.cls := findClass_of_methodNamed B.named
  have hlocks := B.notSynchronized
  subst hsz
  have hD := hD0.self (sz := s.heap.size)
  generalize hAe : va_A [(ad, .inr (4, [.ref ad_xs, .ref ad_ys])), (ad_xs, .inl (kd_xs, 10, .inl zd_xs)), (ad_ys, .inl (kd_ys, 10, .inl zd_ys))] s.heap.size = A at hD ⊢
  have hA : ∀ q : Nat, s.heap.size ≤ q → A q := fun q h => by rw [← hAe]; exact Or.inr h
  have hS : va_S A s.heap s.heap [] := va_S.rf
  have hl := lv_entry ([.ref ad, .int v1, .int v2, .int v3]) (n := 5) (Nat.le_of_ble_eq_true rfl)
  refine W.eq (congrArg (fun a => entryFrame m a 5) hargs) ?_
  rw [lg_entry_eq]
  generalize (lg_sl ([.ref ad, .int v1, .int v2, .int v3]) ++ List.replicate (5 - (lg_sl ([.ref ad, .int v1, .int v2, .int v3])).length) Slot.unset).toArray = ls at hl ⊢
  have hl : lv_has ls 5 [(0, .ref ad), (1, .int v1), (2, .int v2), (3, .int v3)] := hl
  generalize hH0 : ([] : List Loc) = locs at hS ⊢
  have hI := hR.symm
  rw [F_sameWayG] at hI
  refine lv_aload_n hx hb d_Desk_sameWay_0 rfl (lv_at hl 0 rfl) ?_
  refine va_get (D := (dC, dI)) (ci := 4) (v := .ref ad_xs) (C := R_Desk) (T := F_Desk) (N := 2) hx hb hts (fun w h => List.mem_cons_of_mem _ (in_Desk w h)) hown hK hP 0 rfl rfl 0 (by decide) (hts _ (List.mem_cons_of_mem _ mw_1_89)) (fun _ h9 => h9) rfl d_Desk_sameWay_1 ?_
  refine lv_iload_n hx hb d_Desk_sameWay_4 rfl (lv_at hl 2 rfl) ?_
  have hi_5 := ob_in hI
  have hI := ob_th hI
  refine va_iald (D := (dC, dI)) hx hb hK hP 1 0 rfl rfl hi_5 d_Desk_sameWay_5 ?_
  refine lv_aload_n hx hb d_Desk_sameWay_6 rfl (lv_at hl 0 rfl) ?_
  refine va_get (D := (dC, dI)) (ci := 4) (v := .ref ad_xs) (C := R_Desk) (T := F_Desk) (N := 2) hx hb hts (fun w h => List.mem_cons_of_mem _ (in_Desk w h)) hown hK hP 0 rfl rfl 0 (by decide) (hts _ (List.mem_cons_of_mem _ mw_1_89)) (fun _ h9 => h9) rfl d_Desk_sameWay_7 ?_
  refine lv_iload_n hx hb d_Desk_sameWay_10 rfl (lv_at hl 1 rfl) ?_
  have hi_11 := ob_in hI
  have hI := ob_th hI
  refine va_iald (D := (dC, dI)) hx hb hK hP 1 0 rfl rfl hi_11 d_Desk_sameWay_11 ?_
  refine lv_isub hx hb d_Desk_sameWay_12 ?_
  refine lv_aload_n hx hb d_Desk_sameWay_13 rfl (lv_at hl 0 rfl) ?_
  refine va_get (D := (dC, dI)) (ci := 4) (v := .ref ad_xs) (C := R_Desk) (T := F_Desk) (N := 2) hx hb hts (fun w h => List.mem_cons_of_mem _ (in_Desk w h)) hown hK hP 0 rfl rfl 0 (by decide) (hts _ (List.mem_cons_of_mem _ mw_1_89)) (fun _ h9 => h9) rfl d_Desk_sameWay_14 ?_
  refine lv_iload_n hx hb d_Desk_sameWay_17 rfl (lv_at hl 3 rfl) ?_
  have hi_18 := ob_in hI
  have hI := ob_th hI
  refine va_iald (D := (dC, dI)) hx hb hK hP 1 0 rfl rfl hi_18 d_Desk_sameWay_18 ?_
  refine lv_aload_n hx hb d_Desk_sameWay_19 rfl (lv_at hl 0 rfl) ?_
  refine va_get (D := (dC, dI)) (ci := 4) (v := .ref ad_xs) (C := R_Desk) (T := F_Desk) (N := 2) hx hb hts (fun w h => List.mem_cons_of_mem _ (in_Desk w h)) hown hK hP 0 rfl rfl 0 (by decide) (hts _ (List.mem_cons_of_mem _ mw_1_89)) (fun _ h9 => h9) rfl d_Desk_sameWay_20 ?_
  refine lv_iload_n hx hb d_Desk_sameWay_23 rfl (lv_at hl 1 rfl) ?_
  refine va_iald (D := (dC, dI)) hx hb hK hP 1 0 rfl rfl hi_11 d_Desk_sameWay_24 ?_
  refine lv_isub hx hb d_Desk_sameWay_25 ?_
  refine lv_imul hx hb d_Desk_sameWay_26 ?_
  refine lv_aload_n hx hb d_Desk_sameWay_27 rfl (lv_at hl 0 rfl) ?_
  refine va_get (D := (dC, dI)) (ci := 4) (v := .ref ad_ys) (C := R_Desk) (T := F_Desk) (N := 2) hx hb hts (fun w h => List.mem_cons_of_mem _ (in_Desk w h)) hown hK hP 0 rfl rfl 1 (by decide) (hts _ (List.mem_cons_of_mem _ mw_1_90)) (fun _ h9 => h9) rfl d_Desk_sameWay_28 ?_
  refine lv_iload_n hx hb d_Desk_sameWay_31 rfl (lv_at hl 2 rfl) ?_
  refine va_iald (D := (dC, dI)) hx hb hK hP 2 1 rfl rfl hi_5 d_Desk_sameWay_32 ?_
  refine lv_aload_n hx hb d_Desk_sameWay_33 rfl (lv_at hl 0 rfl) ?_
  refine va_get (D := (dC, dI)) (ci := 4) (v := .ref ad_ys) (C := R_Desk) (T := F_Desk) (N := 2) hx hb hts (fun w h => List.mem_cons_of_mem _ (in_Desk w h)) hown hK hP 0 rfl rfl 1 (by decide) (hts _ (List.mem_cons_of_mem _ mw_1_90)) (fun _ h9 => h9) rfl d_Desk_sameWay_34 ?_
  refine lv_iload_n hx hb d_Desk_sameWay_37 rfl (lv_at hl 1 rfl) ?_
  refine va_iald (D := (dC, dI)) hx hb hK hP 2 1 rfl rfl hi_11 d_Desk_sameWay_38 ?_
  refine lv_isub hx hb d_Desk_sameWay_39 ?_
  refine lv_aload_n hx hb d_Desk_sameWay_40 rfl (lv_at hl 0 rfl) ?_
  refine va_get (D := (dC, dI)) (ci := 4) (v := .ref ad_ys) (C := R_Desk) (T := F_Desk) (N := 2) hx hb hts (fun w h => List.mem_cons_of_mem _ (in_Desk w h)) hown hK hP 0 rfl rfl 1 (by decide) (hts _ (List.mem_cons_of_mem _ mw_1_90)) (fun _ h9 => h9) rfl d_Desk_sameWay_41 ?_
  refine lv_iload_n hx hb d_Desk_sameWay_44 rfl (lv_at hl 3 rfl) ?_
  refine va_iald (D := (dC, dI)) hx hb hK hP 2 1 rfl rfl hi_18 d_Desk_sameWay_45 ?_
  refine lv_aload_n hx hb d_Desk_sameWay_46 rfl (lv_at hl 0 rfl) ?_
  refine va_get (D := (dC, dI)) (ci := 4) (v := .ref ad_ys) (C := R_Desk) (T := F_Desk) (N := 2) hx hb hts (fun w h => List.mem_cons_of_mem _ (in_Desk w h)) hown hK hP 0 rfl rfl 1 (by decide) (hts _ (List.mem_cons_of_mem _ mw_1_90)) (fun _ h9 => h9) rfl d_Desk_sameWay_47 ?_
  refine lv_iload_n hx hb d_Desk_sameWay_50 rfl (lv_at hl 1 rfl) ?_
  refine va_iald (D := (dC, dI)) hx hb hK hP 2 1 rfl rfl hi_11 d_Desk_sameWay_51 ?_
  refine lv_isub hx hb d_Desk_sameWay_52 ?_
  refine lv_imul hx hb d_Desk_sameWay_53 ?_
  refine lv_iadd hx hb d_Desk_sameWay_54 ?_
  refine lv_istore (lv' := [(4, .int ((((zd_xs (Int32.toNatClampNeg v2)) - (zd_xs (Int32.toNatClampNeg v1))) * ((zd_xs (Int32.toNatClampNeg v3)) - (zd_xs (Int32.toNatClampNeg v1)))) + (((zd_ys (Int32.toNatClampNeg v2)) - (zd_ys (Int32.toNatClampNeg v1))) * ((zd_ys (Int32.toNatClampNeg v3)) - (zd_ys (Int32.toNatClampNeg v1)))))), (0, .ref ad), (1, .int v1), (2, .int v2), (3, .int v3)]) hx hb d_Desk_sameWay_55 hl (by decide) rfl (fun ls hl => ?_)
  refine lv_aload_n hx hb d_Desk_sameWay_57 rfl (lv_at hl 1 rfl) ?_
  refine lv_iload_n hx hb d_Desk_sameWay_58 rfl (lv_at hl 2 rfl) ?_
  refine lv_iload_n hx hb d_Desk_sameWay_59 rfl (lv_at hl 3 rfl) ?_
  refine lv_iload_n hx hb d_Desk_sameWay_60 rfl (lv_at hl 4 rfl) ?_
  obtain ⟨p_61, hg_61, hI⟩ := ob_bd hI
  have hPc := hP.sub (ws' := [(ad, .inr (4, [.ref ad_xs, .ref ad_ys])), (ad_xs, .inl (kd_xs, 10, .inl zd_xs)), (ad_ys, .inl (kd_ys, 10, .inl zd_ys))]) [0, 1, 2] rfl
  have hDc := hD.sub (ws' := [(ad, .inr (4, [.ref ad_xs, .ref ad_ys])), (ad_xs, .inl (kd_xs, 10, .inl zd_xs)), (ad_ys, .inl (kd_ys, 10, .inl zd_ys))]) [0, 1, 2] (by decide) rfl
  have hKc := hK.sub (tys' := [(kd_xs, .int), (kd_ys, .int)]) [0, 1] rfl
  have hFc := va_free (wc := [(ad, .inr (4, [.ref ad_xs, .ref ad_ys])), (ad_xs, .inl (kd_xs, 10, .inl zd_xs)), (ad_ys, .inl (kd_ys, 10, .inl zd_ys))]) hD hS hA [0, 1, 2] rfl
  refine va_calli (va_runV (As := [.int v1, .int v2, .int v3]) (rest := []) ⟨hx, hb, hml, hown, hts⟩ (c_turnG l dC dI s.heap.size ad ad_xs ad_ys kd_xs kd_ys zd_xs zd_ys v1 v2 v3 p_61 hg_61) (cwV 3 hts (gi4 mw_2_66 mw_2_68 mw_p_21 mw_1_5 mw_2_69) rfl rfl rfl (by decide +kernel) ⟨Nat.le_of_ble_eq_true rfl, Nat.le_of_ble_eq_true rfl⟩) ⟨fb_, va_recv (q0 := 0) (ci := 4) hK hP rfl rfl, pre_ hPc hKc hDc hN⟩ rfl rfl hl.1 rfl (lv_room (Nat.le_of_ble_eq_true rfl)) d_Desk_sameWay_61 ⟨Nat.le_of_ble_eq_true rfl, Nat.le_of_ble_eq_true rfl⟩) hS (fun q _ h => hFc q h) hFc (fun r_61 u t H locs ht hvm hp_61 hB hz1 hk1 hS => ?_)
  obtain ⟨hP1, -, hD1⟩ := hB
  rw [ht] at hP1
  obtain ⟨hP, hD⟩ := va_join (wr := []) (w1 := [(ad, .inr (4, [.ref ad_xs, .ref ad_ys])), (ad_xs, .inl (kd_xs, 10, .inl zd_xs)), (ad_ys, .inl (kd_ys, 10, .inl zd_ys))]) hP hD [0, 1, 2] [] rfl rfl (by decide) (by decide) hk1 hFc hP1 hD1
  have hp_61 : (r_61) = p_61 := hp_61
  subst hp_61
  have hP : va_P (dC, dI) classes [(ad, .inr (4, [.ref ad_xs, .ref ad_ys])), (ad_xs, .inl (kd_xs, 10, .inl zd_xs)), (ad_ys, .inl (kd_ys, 10, .inl zd_ys))] H := hP
  have hD : va_D A [(ad, .inr (4, [.ref ad_xs, .ref ad_ys])), (ad_xs, .inl (kd_xs, 10, .inl zd_xs)), (ad_ys, .inl (kd_ys, 10, .inl zd_ys))] := hD
  refine lv_if_ne (tgt := 76) hx hb d_Desk_sameWay_64 rfl (fun hc_64 => ?_) (fun hc_64 => ?_)
  · skip
    have hI := hI.trans (if_neg hc_64)
    refine lv_iconst (v := 0) hx hb d_Desk_sameWay_76 (by decide) ?_
    exact W.zret (v := 0) (ty := .boolean) hx hb hr (nr01 (Or.inl rfl)) (fun t ht hW => ⟨⟨0, (), rfl, ⟨(Option.some.inj hI).symm, (Or.inl rfl)⟩, by rw [ht]; exact hP, va_K.moved hW.alike hK, hD⟩, hS.F ht⟩) hS.2.2 d_Desk_sameWay_77
  · skip
    have hI := hI.trans (if_pos hc_64)
    refine lv_iload hx hb d_Desk_sameWay_67 (lv_at hl 0 rfl) ?_
    refine lv_if_le (tgt := 76) hx hb d_Desk_sameWay_69 rfl (fun hc_69 => ?_) (fun hc_69 => ?_)
    · skip
      have hI := hI.trans (if_pos hc_69)
      refine lv_iconst (v := 0) hx hb d_Desk_sameWay_76 (by decide) ?_
      exact W.zret (v := 0) (ty := .boolean) hx hb hr (nr01 (Or.inl rfl)) (fun t ht hW => ⟨⟨0, (), rfl, ⟨(Option.some.inj hI).symm, (Or.inl rfl)⟩, by rw [ht]; exact hP, va_K.moved hW.alike hK, hD⟩, hS.F ht⟩) hS.2.2 d_Desk_sameWay_77
    · skip
      have hI := hI.trans (if_neg hc_69)
      refine lv_iconst (v := 1) hx hb d_Desk_sameWay_72 (by decide) ?_
      refine lv_goto (tgt := 77) hx hb d_Desk_sameWay_73 rfl ?_
      exact W.zret (v := 1) (ty := .boolean) hx hb hr (nr01 (Or.inr rfl)) (fun t ht hW => ⟨⟨1, (), rfl, ⟨(Option.some.inj hI).symm, (Or.inr rfl)⟩, by rw [ht]; exact hP, va_K.moved hW.alike hK, hD⟩, hS.F ht⟩) hS.2.2 d_Desk_sameWay_77
set_option maxHeartbeats 4000000 in
set_option maxRecDepth 100000 in
theorem c_boxAreaG (l : Launch) (dC : Nat → ClassId) (dI : Nat → Nat → Nat) (sz : Nat) (ad ad_xs ad_ys : Nat) (kd_xs kd_ys : ClassId) (zd_xs : Nat → Int32) (zd_ys : Nat → Int32) (v1 : Int32) (R : Int32) (hR : F_boxAreaG zd_xs zd_ys v1 = some R) : Met l y_Desk_boxArea w_Desk_boxArea ({ frames := 1, cells := 0, slots := 0, locals := 21 }) (Pre_ dC dI sz [.ref ad, .int v1] [(ad, .inr (4, [.ref ad_xs, .ref ad_ys])), (ad_xs, .inl (kd_xs, 10, .inl zd_xs)), (ad_ys, .inl (kd_ys, 10, .inl zd_ys))] [(kd_xs, .int), (kd_ys, .int)]) (va_Qi (fun (r : Int32) (u : Unit) => r = R) (fun u t => End_ dC dI (va_A [(ad, .inr (4, [.ref ad_xs, .ref ad_ys])), (ad_xs, .inl (kd_xs, 10, .inl zd_xs)), (ad_ys, .inl (kd_ys, 10, .inl zd_ys))] sz) [(kd_xs, .int), (kd_ys, .int)] [(ad, .inr (4, [.ref ad_xs, .ref ad_ys])), (ad_xs, .inl (kd_xs, 10, .inl zd_xs)), (ad_ys, .inl (kd_ys, 10, .inl zd_ys))] t) (va_A [(ad, .inr (4, [.ref ad_xs, .ref ad_ys])), (ad_xs, .inl (kd_xs, 10, .inl zd_xs)), (ad_ys, .inl (kd_ys, 10, .inl zd_ys))] sz)) 0 0 (va_A [(ad, .inr (4, [.ref ad_xs, .ref ad_ys])), (ad_xs, .inl (kd_xs, 10, .inl zd_xs)), (ad_ys, .inl (kd_ys, 10, .inl zd_ys))] sz) := by
  refine Met.ofW (cc := b_Desk_boxArea) (maxL := 7) (ret := (some .int)) (by decide) rfl ?_
  intro p e s m args below meth c s₁ B hml hv
  obtain ⟨hargs, hsz, hP, hK, hD0, hN⟩ := hv
  have hx := B.exec
  have hb := B.bytes
  have hr := B.returns
  have hts := atoms_spec (ws := w_Desk_boxArea) B.pre
  have hown : s.vm.findClass R_Desk = some m.cls := findClass_of_methodNamed B.named
  have hlocks := B.notSynchronized
  subst hsz
  have hD := hD0.self (sz := s.heap.size)
  generalize hAe : va_A [(ad, .inr (4, [.ref ad_xs, .ref ad_ys])), (ad_xs, .inl (kd_xs, 10, .inl zd_xs)), (ad_ys, .inl (kd_ys, 10, .inl zd_ys))] s.heap.size = A at hD ⊢
  have hA : ∀ q : Nat, s.heap.size ≤ q → A q := fun q h => by rw [← hAe]; exact Or.inr h
  have hS : va_S A s.heap s.heap [] := va_S.rf
  have hl := lv_entry ([.ref ad, .int v1]) (n := 7) (Nat.le_of_ble_eq_true rfl)
  refine W.eq (congrArg (fun a => entryFrame m a 7) hargs) ?_
  rw [lg_entry_eq]
  generalize (lg_sl ([.ref ad, .int v1]) ++ List.replicate (7 - (lg_sl ([.ref ad, .int v1])).length) Slot.unset).toArray = ls at hl ⊢
  have hl : lv_has ls 7 [(0, .ref ad), (1, .int v1)] := hl
  generalize hH0 : ([] : List Loc) = locs at hS ⊢
  have hI := hR.symm
  rw [F_boxAreaG] at hI
  refine lv_bipush (v := 30) hx hb d_Desk_boxArea_0 (by decide) ?_
  refine lv_istore_n (lv' := [(2, .int 30), (0, .ref ad), (1, .int v1)]) hx hb d_Desk_boxArea_2 rfl hl (by decide) rfl (fun ls hl => ?_)
  refine lv_iconst (v := 0) hx hb d_Desk_boxArea_3 (by decide) ?_
  refine lv_istore_n (lv' := [(3, .int 0), (2, .int 30), (0, .ref ad), (1, .int v1)]) hx hb d_Desk_boxArea_4 rfl hl (by decide) rfl (fun ls hl => ?_)
  refine lv_bipush (v := 30) hx hb d_Desk_boxArea_5 (by decide) ?_
  refine lv_istore (lv' := [(4, .int 30), (3, .int 0), (2, .int 30), (0, .ref ad), (1, .int v1)]) hx hb d_Desk_boxArea_7 hl (by decide) rfl (fun ls hl => ?_)
  refine lv_iconst (v := 0) hx hb d_Desk_boxArea_9 (by decide) ?_
  refine lv_istore (lv' := [(5, .int 0), (4, .int 30), (3, .int 0), (2, .int 30), (0, .ref ad), (1, .int v1)]) hx hb d_Desk_boxArea_10 hl (by decide) rfl (fun ls hl => ?_)
  refine lv_iconst (v := 0) hx hb d_Desk_boxArea_12 (by decide) ?_
  refine lv_istore (lv' := [(6, .int 0), (5, .int 0), (4, .int 30), (3, .int 0), (2, .int 30), (0, .ref ad), (1, .int v1)]) hx hb d_Desk_boxArea_13 hl (by decide) rfl (fun ls hl => ?_)
  obtain ⟨K_15, hK_15⟩ : ∃ K : Int32 → Int32 → Int32 → Int32 → Option (Int32), K = (fun v2_15 v3_15 v4_15 v5_15 => some ((v3_15 - v2_15) * (v5_15 - v4_15))) := ⟨_, rfl⟩
  have X_15 : ∀ (k_15 : Nat) (v2_15 : Int32) (v3_15 : Int32) (v4_15 : Int32) (v5_15 : Int32) (H : Heap) (locs : List Loc) (ls : Array Slot), some R = K_15 v2_15 v3_15 v4_15 v5_15 → va_P (dC, dI) classes [(ad, .inr (4, [.ref ad_xs, .ref ad_ys])), (ad_xs, .inl (kd_xs, 10, .inl zd_xs)), (ad_ys, .inl (kd_ys, 10, .inl zd_ys))] H → va_D A [(ad, .inr (4, [.ref ad_xs, .ref ad_ys])), (ad_xs, .inl (kd_xs, 10, .inl zd_xs)), (ad_ys, .inl (kd_ys, 10, .inl zd_ys))] → va_S A s.heap H locs → lv_has ls 7 [(0, .ref ad), (1, .int v1), (2, .int v2_15), (3, .int v3_15), (4, .int v4_15), (5, .int v5_15), (6, .int (nI k_15))] → W p l e (headSpec w_Desk_boxArea ({ frames := 1, cells := 0, slots := 0, locals := 21 })).room s m args below meth c H locs 0 0 (MQ below (va_Qi (fun (r : Int32) (u : Unit) => r = R) (fun u t => End_ dC dI A [(kd_xs, .int), (kd_ys, .int)] [(ad, .inr (4, [.ref ad_xs, .ref ad_ys])), (ad_xs, .inl (kd_xs, 10, .inl zd_xs)), (ad_ys, .inl (kd_ys, 10, .inl zd_ys))] t) A) args s 0 0 A) (F0 m 89 ls []) := by
    intro k_15 v2_15 v3_15 v4_15 v5_15 H locs ls hI hP hD hS hl
    rw [hK_15] at hI
    refine lv_iload_n hx hb d_Desk_boxArea_89 rfl (lv_at hl 3 rfl) ?_
    refine lv_iload_n hx hb d_Desk_boxArea_90 rfl (lv_at hl 2 rfl) ?_
    refine lv_isub hx hb d_Desk_boxArea_91 ?_
    refine lv_iload hx hb d_Desk_boxArea_92 (lv_at hl 5 rfl) ?_
    refine lv_iload hx hb d_Desk_boxArea_94 (lv_at hl 4 rfl) ?_
    refine lv_isub hx hb d_Desk_boxArea_96 ?_
    refine lv_imul hx hb d_Desk_boxArea_97 ?_
    exact W.iret (v := (v3_15 - v2_15) * (v5_15 - v4_15)) hx hb hr (fun t ht hW => ⟨⟨(v3_15 - v2_15) * (v5_15 - v4_15), (), rfl, (Option.some.inj hI).symm, by rw [ht]; exact hP, va_K.moved hW.alike hK, hD⟩, hS.F ht⟩) hS.2.2 d_Desk_boxArea_98
  have L_15 : ∀ (n_15 k_15 : Nat) (v2_15 : Int32) (v3_15 : Int32) (v4_15 : Int32) (v5_15 : Int32) (H : Heap) (locs : List Loc) (ls : Array Slot), k_15 + n_15 = 10 → some R = F_boxAreaG_L15 K_15 zd_xs zd_ys v1 n_15 k_15 v2_15 v3_15 v4_15 v5_15 → va_P (dC, dI) classes [(ad, .inr (4, [.ref ad_xs, .ref ad_ys])), (ad_xs, .inl (kd_xs, 10, .inl zd_xs)), (ad_ys, .inl (kd_ys, 10, .inl zd_ys))] H → va_D A [(ad, .inr (4, [.ref ad_xs, .ref ad_ys])), (ad_xs, .inl (kd_xs, 10, .inl zd_xs)), (ad_ys, .inl (kd_ys, 10, .inl zd_ys))] → va_S A s.heap H locs → lv_has ls 7 [(0, .ref ad), (1, .int v1), (2, .int v2_15), (3, .int v3_15), (4, .int v4_15), (5, .int v5_15), (6, .int (nI k_15))] → W p l e (headSpec w_Desk_boxArea ({ frames := 1, cells := 0, slots := 0, locals := 21 })).room s m args below meth c H locs 0 0 (MQ below (va_Qi (fun (r : Int32) (u : Unit) => r = R) (fun u t => End_ dC dI A [(kd_xs, .int), (kd_ys, .int)] [(ad, .inr (4, [.ref ad_xs, .ref ad_ys])), (ad_xs, .inl (kd_xs, 10, .inl zd_xs)), (ad_ys, .inl (kd_ys, 10, .inl zd_ys))] t) A) args s 0 0 A) (F0 m 15 ls []) := by
    intro n_15
    induction n_15 with
    | zero =>
      intro k_15 v2_15 v3_15 v4_15 v5_15 H locs ls hkn_15 hI hP hD hS hl
      rw [F_boxAreaG_L15] at hI
      refine lv_iload hx hb d_Desk_boxArea_15 (lv_at hl 6 rfl) ?_
      refine lv_bipush (v := 10) hx hb d_Desk_boxArea_17 (by decide) ?_
      refine lv_icmp_ge (tgt := 89) hx hb d_Desk_boxArea_19 rfl (fun hc_19 => ?_) (fun hc_19 => absurd (z_exit rfl hkn_15) hc_19)
      have hl := lv_sub hl [0, 1, 2, 3, 4, 5, 6] rfl
      exact X_15 _ _ _ _ _ _ _ _ hI hP hD hS hl
    | succ n_15 ih_15 =>
      intro k_15 v2_15 v3_15 v4_15 v5_15 H locs ls hkn_15 hI hP hD hS hl
      rw [F_boxAreaG_L15] at hI
      refine lv_iload hx hb d_Desk_boxArea_15 (lv_at hl 6 rfl) ?_
      refine lv_bipush (v := 10) hx hb d_Desk_boxArea_17 (by decide) ?_
      refine lv_icmp_ge (tgt := 89) hx hb d_Desk_boxArea_19 rfl (fun hc_19 => absurd hc_19 (z_stay rfl hkn_15 (by decide))) (fun hc_19 => ?_)
      refine lv_iload_n hx hb d_Desk_boxArea_22 rfl (lv_at hl 1 rfl) ?_
      refine lv_iload hx hb d_Desk_boxArea_23 (lv_at hl 6 rfl) ?_
      have hPc := hP.sub (ws' := []) [] rfl
      have hDc := hD.sub (ws' := []) [] (by decide) rfl
      have hKc := hK.sub (tys' := []) [] rfl
      have hFc := va_free (wc := []) hD hS hA [] rfl
      refine va_calli (va_runSN (As := [.int v1, .int (nI k_15)]) (rest := []) ⟨hx, hb, hml, hown, hts⟩ (c_has l dC dI H.size v1 (nI k_15)) (⟨va_cnB 2 hts (gi0 mw_1_150) rfl rfl rfl (hN (R_Desk, 29, y_PS_has, R_PS) (by decide +kernel)) (hts _ (List.mem_cons_of_mem _ mw_1_1)) (by decide +kernel) ⟨Nat.le_of_ble_eq_true rfl, Nat.le_of_ble_eq_true rfl⟩, hts _ (List.mem_cons_of_mem _ mw_1_149), trivial⟩) ⟨fb_, pre_ hPc hKc hDc hN⟩ rfl rfl hl.1 rfl (lv_room (Nat.le_of_ble_eq_true rfl)) d_Desk_boxArea_25 ⟨Nat.le_of_ble_eq_true rfl, Nat.le_of_ble_eq_true rfl⟩) hS (fun q _ h => hFc q h) hFc (fun r_25 u t H locs ht hvm hp_25 hB hz1 hk1 hS => ?_)
      obtain ⟨hP1, -, hD1⟩ := hB
      rw [ht] at hP1
      obtain ⟨hP, hD⟩ := va_join (wr := [(ad, .inr (4, [.ref ad_xs, .ref ad_ys])), (ad_xs, .inl (kd_xs, 10, .inl zd_xs)), (ad_ys, .inl (kd_ys, 10, .inl zd_ys))]) (w1 := []) hP hD [] [0, 1, 2] rfl rfl (by decide) (by decide) hk1 hFc hP1 hD1
      have hp_25 : r_25 = f_has v1 (nI k_15) := hp_25
      subst hp_25
      have hP : va_P (dC, dI) classes [(ad, .inr (4, [.ref ad_xs, .ref ad_ys])), (ad_xs, .inl (kd_xs, 10, .inl zd_xs)), (ad_ys, .inl (kd_ys, 10, .inl zd_ys))] H := hP
      have hD : va_D A [(ad, .inr (4, [.ref ad_xs, .ref ad_ys])), (ad_xs, .inl (kd_xs, 10, .inl zd_xs)), (ad_ys, .inl (kd_ys, 10, .inl zd_ys))] := hD
      refine lv_if_eq (tgt := 83) hx hb d_Desk_boxArea_28 rfl (fun hc_28 => ?_) (fun hc_28 => ?_)
      · skip
        have hI := hI.trans (if_pos hc_28)
        refine lv_iinc (lv' := [(6, .int (nI (k_15 + 1))), (0, .ref ad), (1, .int v1), (2, .int v2_15), (3, .int v3_15), (4, .int v4_15), (5, .int v5_15)]) (k := 6) hx hb d_Desk_boxArea_83 hl rfl (z_inc _) (by decide) rfl (fun ls hl => ?_)
        refine lv_goto (tgt := 15) hx hb d_Desk_boxArea_86 rfl ?_
        have hl := lv_sub hl [1, 2, 3, 4, 5, 6, 0] rfl
        exact ih_15 _ _ _ _ _ _ _ _ (by omega) hI hP hD hS hl
      · skip
        have hI := hI.trans (if_neg hc_28)
        refine lv_iload_n hx hb d_Desk_boxArea_31 rfl (lv_at hl 2 rfl) ?_
        refine lv_aload_n hx hb d_Desk_boxArea_32 rfl (lv_at hl 0 rfl) ?_
        refine va_get (D := (dC, dI)) (ci := 4) (v := .ref ad_xs) (C := R_Desk) (T := F_Desk) (N := 2) hx hb hts (fun w h => List.mem_cons_of_mem _ (in_Desk w h)) hown hK hP 0 rfl rfl 0 (by decide) (hts _ (List.mem_cons_of_mem _ mw_1_89)) (fun _ h9 => h9) rfl d_Desk_boxArea_33 ?_
        refine lv_iload hx hb d_Desk_boxArea_36 (lv_at hl 6 rfl) ?_
        refine va_iald (D := (dC, dI)) hx hb hK hP 1 0 rfl rfl (vp_in_nI (by omega) (by decide)) d_Desk_boxArea_38 ?_
        refine lv_topi (fun y_38 e_38 => ?_)
        obtain rfl : y_38 = zd_xs k_15 := e_38.trans (by rw [nI_clamp (by omega)])
        refine va_mmin hx hb (hml.trans hl.1.symm) hown (hts _ (List.mem_cons_of_mem _ mw_2_73)) (hts _ (List.mem_cons_of_mem _ mw_2_74)) (hts _ (List.mem_cons_of_mem _ mw_1_15)) (hts _ (List.mem_cons_of_mem _ mw_2_75)) (Nat.le_of_ble_eq_true rfl) (Nat.le_of_ble_eq_true rfl) (Nat.le_of_ble_eq_true rfl) (Nat.le_of_ble_eq_true rfl) d_Desk_boxArea_39 ?_
        refine lv_istore_n (lv' := [(2, .int (if (zd_xs k_15) < v2_15 then (zd_xs k_15) else v2_15)), (0, .ref ad), (1, .int v1), (3, .int v3_15), (4, .int v4_15), (5, .int v5_15), (6, .int (nI k_15))]) hx hb d_Desk_boxArea_42 rfl hl (by decide) rfl (fun ls hl => ?_)
        refine lv_iload_n hx hb d_Desk_boxArea_43 rfl (lv_at hl 3 rfl) ?_
        refine lv_aload_n hx hb d_Desk_boxArea_44 rfl (lv_at hl 1 rfl) ?_
        refine va_get (D := (dC, dI)) (ci := 4) (v := .ref ad_xs) (C := R_Desk) (T := F_Desk) (N := 2) hx hb hts (fun w h => List.mem_cons_of_mem _ (in_Desk w h)) hown hK hP 0 rfl rfl 0 (by decide) (hts _ (List.mem_cons_of_mem _ mw_1_89)) (fun _ h9 => h9) rfl d_Desk_boxArea_45 ?_
        refine lv_iload hx hb d_Desk_boxArea_48 (lv_at hl 6 rfl) ?_
        refine va_iald (D := (dC, dI)) hx hb hK hP 1 0 rfl rfl (vp_in_nI (by omega) (by decide)) d_Desk_boxArea_50 ?_
        refine lv_topi (fun y_50 e_50 => ?_)
        obtain rfl : y_50 = zd_xs k_15 := e_50.trans (by rw [nI_clamp (by omega)])
        refine va_mmax hx hb (hml.trans hl.1.symm) hown (hts _ (List.mem_cons_of_mem _ mw_2_76)) (hts _ (List.mem_cons_of_mem _ mw_2_45)) (hts _ (List.mem_cons_of_mem _ mw_1_15)) (hts _ (List.mem_cons_of_mem _ mw_2_46)) (Nat.le_of_ble_eq_true rfl) (Nat.le_of_ble_eq_true rfl) (Nat.le_of_ble_eq_true rfl) (Nat.le_of_ble_eq_true rfl) d_Desk_boxArea_51 ?_
        refine lv_istore_n (lv' := [(3, .int (if v3_15 < (zd_xs k_15) then (zd_xs k_15) else v3_15)), (2, .int (if (zd_xs k_15) < v2_15 then (zd_xs k_15) else v2_15)), (0, .ref ad), (1, .int v1), (4, .int v4_15), (5, .int v5_15), (6, .int (nI k_15))]) hx hb d_Desk_boxArea_54 rfl hl (by decide) rfl (fun ls hl => ?_)
        refine lv_iload hx hb d_Desk_boxArea_55 (lv_at hl 4 rfl) ?_
        refine lv_aload_n hx hb d_Desk_boxArea_57 rfl (lv_at hl 2 rfl) ?_
        refine va_get (D := (dC, dI)) (ci := 4) (v := .ref ad_ys) (C := R_Desk) (T := F_Desk) (N := 2) hx hb hts (fun w h => List.mem_cons_of_mem _ (in_Desk w h)) hown hK hP 0 rfl rfl 1 (by decide) (hts _ (List.mem_cons_of_mem _ mw_1_90)) (fun _ h9 => h9) rfl d_Desk_boxArea_58 ?_
        refine lv_iload hx hb d_Desk_boxArea_61 (lv_at hl 6 rfl) ?_
        refine va_iald (D := (dC, dI)) hx hb hK hP 2 1 rfl rfl (vp_in_nI (by omega) (by decide)) d_Desk_boxArea_63 ?_
        refine lv_topi (fun y_63 e_63 => ?_)
        obtain rfl : y_63 = zd_ys k_15 := e_63.trans (by rw [nI_clamp (by omega)])
        refine va_mmin hx hb (hml.trans hl.1.symm) hown (hts _ (List.mem_cons_of_mem _ mw_2_73)) (hts _ (List.mem_cons_of_mem _ mw_2_74)) (hts _ (List.mem_cons_of_mem _ mw_1_15)) (hts _ (List.mem_cons_of_mem _ mw_2_75)) (Nat.le_of_ble_eq_true rfl) (Nat.le_of_ble_eq_true rfl) (Nat.le_of_ble_eq_true rfl) (Nat.le_of_ble_eq_true rfl) d_Desk_boxArea_64 ?_
        refine lv_istore (lv' := [(4, .int (if (zd_ys k_15) < v4_15 then (zd_ys k_15) else v4_15)), (3, .int (if v3_15 < (zd_xs k_15) then (zd_xs k_15) else v3_15)), (2, .int (if (zd_xs k_15) < v2_15 then (zd_xs k_15) else v2_15)), (0, .ref ad), (1, .int v1), (5, .int v5_15), (6, .int (nI k_15))]) hx hb d_Desk_boxArea_67 hl (by decide) rfl (fun ls hl => ?_)
        refine lv_iload hx hb d_Desk_boxArea_69 (lv_at hl 5 rfl) ?_
        refine lv_aload_n hx hb d_Desk_boxArea_71 rfl (lv_at hl 3 rfl) ?_
        refine va_get (D := (dC, dI)) (ci := 4) (v := .ref ad_ys) (C := R_Desk) (T := F_Desk) (N := 2) hx hb hts (fun w h => List.mem_cons_of_mem _ (in_Desk w h)) hown hK hP 0 rfl rfl 1 (by decide) (hts _ (List.mem_cons_of_mem _ mw_1_90)) (fun _ h9 => h9) rfl d_Desk_boxArea_72 ?_
        refine lv_iload hx hb d_Desk_boxArea_75 (lv_at hl 6 rfl) ?_
        refine va_iald (D := (dC, dI)) hx hb hK hP 2 1 rfl rfl (vp_in_nI (by omega) (by decide)) d_Desk_boxArea_77 ?_
        refine lv_topi (fun y_77 e_77 => ?_)
        obtain rfl : y_77 = zd_ys k_15 := e_77.trans (by rw [nI_clamp (by omega)])
        refine va_mmax hx hb (hml.trans hl.1.symm) hown (hts _ (List.mem_cons_of_mem _ mw_2_76)) (hts _ (List.mem_cons_of_mem _ mw_2_45)) (hts _ (List.mem_cons_of_mem _ mw_1_15)) (hts _ (List.mem_cons_of_mem _ mw_2_46)) (Nat.le_of_ble_eq_true rfl) (Nat.le_of_ble_eq_true rfl) (Nat.le_of_ble_eq_true rfl) (Nat.le_of_ble_eq_true rfl) d_Desk_boxArea_78 ?_
        refine lv_istore (lv' := [(5, .int (if v5_15 < (zd_ys k_15) then (zd_ys k_15) else v5_15)), (4, .int (if (zd_ys k_15) < v4_15 then (zd_ys k_15) else v4_15)), (3, .int (if v3_15 < (zd_xs k_15) then (zd_xs k_15) else v3_15)), (2, .int (if (zd_xs k_15) < v2_15 then (zd_xs k_15) else v2_15)), (0, .ref ad), (1, .int v1), (6, .int (nI k_15))]) hx hb d_Desk_boxArea_81 hl (by decide) rfl (fun ls hl => ?_)
        refine lv_iinc (lv' := [(6, .int (nI (k_15 + 1))), (5, .int (if v5_15 < (zd_ys k_15) then (zd_ys k_15) else v5_15)), (4, .int (if (zd_ys k_15) < v4_15 then (zd_ys k_15) else v4_15)), (3, .int (if v3_15 < (zd_xs k_15) then (zd_xs k_15) else v3_15)), (2, .int (if (zd_xs k_15) < v2_15 then (zd_xs k_15) else v2_15)), (0, .ref ad), (1, .int v1)]) (k := 6) hx hb d_Desk_boxArea_83 hl rfl (z_inc _) (by decide) rfl (fun ls hl => ?_)
        refine lv_goto (tgt := 15) hx hb d_Desk_boxArea_86 rfl ?_
        have hl := lv_sub hl [5, 6, 4, 3, 2, 1, 0] rfl
        exact ih_15 _ _ _ _ _ _ _ _ (by omega) hI hP hD hS hl
  have hl : lv_has ls 7 [(0, .ref ad), (1, .int v1), (2, .int 30), (3, .int 0), (4, .int 30), (5, .int 0), (6, .int (nI 0))] := by first | exact lv_sub hl [5, 6, 4, 3, 2, 1, 0] rfl | (rw [nI_succ]; exact lv_sub hl [5, 6, 4, 3, 2, 1, 0] rfl)
  exact L_15 10 0 _ _ _ _ _ _ _ (by omega) (by rw [hK_15]; exact hI) hP hD hS hl
