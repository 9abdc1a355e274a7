set_option maxHeartbeats 4000000 in
set_option maxRecDepth 100000 in
theorem c_put (l : Launch) (dC : Nat → ClassId) (dI : Nat → Nat → Nat) (sz : Nat) (ad ad_xs ad_ys : Nat) (kd_xs kd_ys : ClassId) (zd_xs : Nat → Int32) (zd_ys : Nat → Int32) (vi vx vy : Int32) (hin : vp_in vi 10) : Met l y_Desk_put w_Desk_put ({ frames := 0, cells := 0, slots := 0, locals := 0 }) (Pre_ dC dI sz [.ref ad, .int vi, .int vx, .int vy] [(ad, .inr (4, [.ref ad_xs, .ref ad_ys])), (ad_xs, .inl (kd_xs, 10, .inl zd_xs)), (ad_ys, .inl (kd_ys, 10, .inl zd_ys))] [(kd_xs, .int), (kd_ys, .int)]) (va_Qv (fun (u : (Nat → Int32) × (Nat → Int32)) => u.1 = upd zd_xs vi.toNatClampNeg vx ∧ u.2 = upd zd_ys vi.toNatClampNeg vy) (fun u t => End_ dC dI (va_A [(ad, .inr (4, [.ref ad_xs, .ref ad_ys])), (ad_xs, .inl (kd_xs, 10, .inl zd_xs)), (ad_ys, .inl (kd_ys, 10, .inl zd_ys))] sz) [(kd_xs, .int), (kd_ys, .int)] [(ad, .inr (4, [.ref ad_xs, .ref ad_ys])), (ad_xs, .inl (kd_xs, 10, .inl u.1)), (ad_ys, .inl (kd_ys, 10, .inl u.2))] t) (va_A [(ad, .inr (4, [.ref ad_xs, .ref ad_ys])), (ad_xs, .inl (kd_xs, 10, .inl zd_xs)), (ad_ys, .inl (kd_ys, 10, .inl zd_ys))] sz)) 0 0 (va_A [(ad, .inr (4, [.ref ad_xs, .ref ad_ys])), (ad_xs, .inl (kd_xs, 10, .inl zd_xs)), (ad_ys, .inl (kd_ys, 10, .inl zd_ys))] sz) := by
  refine Met.ofW (cc := b_Desk_put) (maxL := 4) (ret := none) (by decide) rfl ?_
  intro p e s m args below meth c s₁ B hml hv
  obtain ⟨hargs, hsz, hP, hK, hD0, hN⟩ := hv
  have hx := B.exec
  have hb := B.bytes
  have hr := B.returns
  have hts := atoms_spec (ws := w_Desk_put) B.pre
  have hown : s.vm.findClass R_Desk = some m.cls := findClass_of_methodNamed B.named
  have hlocks := B.notSynchronized
  subst hsz
  have hD := hD0.self (sz := s.heap.size)
  generalize hAe : va_A [(ad, .inr (4, [.ref ad_xs, .ref ad_ys])), (ad_xs, .inl (kd_xs, 10, .inl zd_xs)), (ad_ys, .inl (kd_ys, 10, .inl zd_ys))] s.heap.size = A at hD ⊢
  have hA : ∀ q : Nat, s.heap.size ≤ q → A q := fun q h => by rw [← hAe]; exact Or.inr h
  have hS : va_S A s.heap s.heap [] := va_S.rf
  have hl := lv_entry ([.ref ad, .int vi, .int vx, .int vy]) (n := 4) (Nat.le_of_ble_eq_true rfl)
  refine W.eq (congrArg (fun a => entryFrame m a 4) hargs) ?_
  rw [lg_entry_eq]
  generalize (lg_sl ([.ref ad, .int vi, .int vx, .int vy]) ++ List.replicate (4 - (lg_sl ([.ref ad, .int vi, .int vx, .int vy])).length) Slot.unset).toArray = ls at hl ⊢
  have hl : lv_has ls 4 [(0, .ref ad), (1, .int vi), (2, .int vx), (3, .int vy)] := hl
  generalize hH0 : ([] : List Loc) = locs at hS ⊢
  refine lv_aload_n hx hb d_Desk_put_0 rfl (lv_at hl 0 rfl) ?_
  refine va_get (D := (dC, dI)) (ci := 4) (v := .ref ad_xs) (C := R_Desk) (T := F_Desk) (N := 2) hx hb hts (fun w h => List.mem_cons_of_mem _ (in_Desk w h)) hown hK hP 0 rfl rfl 0 (by decide) (hts _ (List.mem_cons_of_mem _ mw_1_89)) (fun _ h9 => h9) rfl d_Desk_put_1 ?_
  refine lv_iload_n hx hb d_Desk_put_4 rfl (lv_at hl 1 rfl) ?_
  refine lv_iload_n hx hb d_Desk_put_5 rfl (lv_at hl 2 rfl) ?_
  refine va_iast (D := (dC, dI)) hx hb hK hP hD hS 1 0 rfl rfl (hin) d_Desk_put_6 (fun H locs hP hD hS => ?_)
  have hP : va_P (dC, dI) classes [(ad, .inr (4, [.ref ad_xs, .ref ad_ys])), (ad_xs, .inl (kd_xs, 10, .inl (upd zd_xs (Int32.toNatClampNeg vi) vx))), (ad_ys, .inl (kd_ys, 10, .inl zd_ys))] H := hP
  have hD : va_D A [(ad, .inr (4, [.ref ad_xs, .ref ad_ys])), (ad_xs, .inl (kd_xs, 10, .inl (upd zd_xs (Int32.toNatClampNeg vi) vx))), (ad_ys, .inl (kd_ys, 10, .inl zd_ys))] := hD
  refine lv_aload_n hx hb d_Desk_put_7 rfl (lv_at hl 0 rfl) ?_
  refine va_get (D := (dC, dI)) (ci := 4) (v := .ref ad_ys) (C := R_Desk) (T := F_Desk) (N := 2) hx hb hts (fun w h => List.mem_cons_of_mem _ (in_Desk w h)) hown hK hP 0 rfl rfl 1 (by decide) (hts _ (List.mem_cons_of_mem _ mw_1_90)) (fun _ h9 => h9) rfl d_Desk_put_8 ?_
  refine lv_iload_n hx hb d_Desk_put_11 rfl (lv_at hl 1 rfl) ?_
  refine lv_iload_n hx hb d_Desk_put_12 rfl (lv_at hl 3 rfl) ?_
  refine va_iast (D := (dC, dI)) hx hb hK hP hD hS 2 1 rfl rfl (hin) d_Desk_put_13 (fun H locs hP hD hS => ?_)
  have hP : va_P (dC, dI) classes [(ad, .inr (4, [.ref ad_xs, .ref ad_ys])), (ad_xs, .inl (kd_xs, 10, .inl (upd zd_xs (Int32.toNatClampNeg vi) vx))), (ad_ys, .inl (kd_ys, 10, .inl (upd zd_ys (Int32.toNatClampNeg vi) vy)))] H := hP
  have hD : va_D A [(ad, .inr (4, [.ref ad_xs, .ref ad_ys])), (ad_xs, .inl (kd_xs, 10, .inl (upd zd_xs (Int32.toNatClampNeg vi) vx))), (ad_ys, .inl (kd_ys, 10, .inl (upd zd_ys (Int32.toNatClampNeg vi) vy)))] := hD
  exact W.vret hx hb hr (fun t ht hW => ⟨⟨(upd zd_xs (Int32.toNatClampNeg vi) vx, upd zd_ys (Int32.toNatClampNeg vi) vy), rfl, ⟨rfl, rfl⟩, by rw [ht]; exact hP, va_K.moved hW.alike hK, hD⟩, hS.F ht⟩) hS.2.2 d_Desk_put_14
set_option maxHeartbeats 4000000 in
set_option maxRecDepth 100000 in
theorem c_across (l : Launch) (dC : Nat → ClassId) (dI : Nat → Nat → Nat) (sz : Nat) (ad ad_xs ad_ys : Nat) (kd_xs kd_ys : ClassId) (zd_xs : Nat → Int32) (zd_ys : Nat → Int32) (vi : Int32) (hin : vp_in vi 10) : Met l y_Desk_across w_Desk_across ({ frames := 0, cells := 0, slots := 0, locals := 0 }) (Pre_ dC dI sz [.ref ad, .int vi] [(ad, .inr (4, [.ref ad_xs, .ref ad_ys])), (ad_xs, .inl (kd_xs, 10, .inl zd_xs)), (ad_ys, .inl (kd_ys, 10, .inl zd_ys))] [(kd_xs, .int), (kd_ys, .int)]) (va_Qi (fun (r : Int32) (u : Unit) => r = zd_xs vi.toNatClampNeg) (fun u t => End_ dC dI (va_A [(ad, .inr (4, [.ref ad_xs, .ref ad_ys])), (ad_xs, .inl (kd_xs, 10, .inl zd_xs)), (ad_ys, .inl (kd_ys, 10, .inl zd_ys))] sz) [(kd_xs, .int), (kd_ys, .int)] [(ad, .inr (4, [.ref ad_xs, .ref ad_ys])), (ad_xs, .inl (kd_xs, 10, .inl zd_xs)), (ad_ys, .inl (kd_ys, 10, .inl zd_ys))] t) (va_A [(ad, .inr (4, [.ref ad_xs, .ref ad_ys])), (ad_xs, .inl (kd_xs, 10, .inl zd_xs)), (ad_ys, .inl (kd_ys, 10, .inl zd_ys))] sz)) 0 0 (va_A [(ad, .inr (4, [.ref ad_xs, .ref ad_ys])), (ad_xs, .inl (kd_xs, 10, .inl zd_xs)), (ad_ys, .inl (kd_ys, 10, .inl zd_ys))] sz) := by
  refine Met.ofW (cc := b_Desk_across) (maxL := 2) (ret := (some .int)) (by decide) rfl ?_
  intro p e s m args below meth c s₁ B hml hv
  obtain ⟨hargs, hsz, hP, hK, hD0, hN⟩ := hv
  have hx := B.exec
  have hb := B.bytes
  have hr := B.returns
  have hts := atoms_spec (ws := w_Desk_across) B.pre
  have hown : s.vm.findClass R_Desk = some m.cls := findClass_of_methodNamed B.named
  have hlocks := B.notSynchronized
  subst hsz
  have hD := hD0.self (sz := s.heap.size)
  generalize hAe : va_A [(ad, .inr (4, [.ref ad_xs, .ref ad_ys])), (ad_xs, .inl (kd_xs, 10, .inl zd_xs)), (ad_ys, .inl (kd_ys, 10, .inl zd_ys))] s.heap.size = A at hD ⊢
  have hA : ∀ q : Nat, s.heap.size ≤ q → A q := fun q h => by rw [← hAe]; exact Or.inr h
  have hS : va_S A s.heap s.heap [] := va_S.rf
  have hl := lv_entry ([.ref ad, .int vi]) (n := 2) (Nat.le_of_ble_eq_true rfl)
  refine W.eq (congrArg (fun a => entryFrame m a 2) hargs) ?_
  rw [lg_entry_eq]
  generalize (lg_sl ([.ref ad, .int vi]) ++ List.replicate (2 - (lg_sl ([.ref ad, .int vi])).length) Slot.unset).toArray = ls at hl ⊢
  have hl : lv_has ls 2 [(0, .ref ad), (1, .int vi)] := hl
  generalize hH0 : ([] : List Loc) = locs at hS ⊢
  refine lv_aload_n hx hb d_Desk_across_0 rfl (lv_at hl 0 rfl) ?_
  refine va_get (D := (dC, dI)) (ci := 4) (v := .ref ad_xs) (C := R_Desk) (T := F_Desk) (N := 2) hx hb hts (fun w h => List.mem_cons_of_mem _ (in_Desk w h)) hown hK hP 0 rfl rfl 0 (by decide) (hts _ (List.mem_cons_of_mem _ mw_1_89)) (fun _ h9 => h9) rfl d_Desk_across_1 ?_
  refine lv_iload_n hx hb d_Desk_across_4 rfl (lv_at hl 1 rfl) ?_
  refine va_iald (D := (dC, dI)) hx hb hK hP 1 0 rfl rfl (hin) d_Desk_across_5 ?_
  exact W.iret (v := zd_xs (Int32.toNatClampNeg vi)) hx hb hr (fun t ht hW => ⟨⟨zd_xs (Int32.toNatClampNeg vi), (), rfl, rfl, by rw [ht]; exact hP, va_K.moved hW.alike hK, hD⟩, hS.F ht⟩) hS.2.2 d_Desk_across_6
set_option maxHeartbeats 4000000 in
set_option maxRecDepth 100000 in
theorem c_upward (l : Launch) (dC : Nat → ClassId) (dI : Nat → Nat → Nat) (sz : Nat) (ad ad_xs ad_ys : Nat) (kd_xs kd_ys : ClassId) (zd_xs : Nat → Int32) (zd_ys : Nat → Int32) (vi : Int32) (hin : vp_in vi 10) : Met l y_Desk_upward w_Desk_upward ({ frames := 0, cells := 0, slots := 0, locals := 0 }) (Pre_ dC dI sz [.ref ad, .int vi] [(ad, .inr (4, [.ref ad_xs, .ref ad_ys])), (ad_xs, .inl (kd_xs, 10, .inl zd_xs)), (ad_ys, .inl (kd_ys, 10, .inl zd_ys))] [(kd_xs, .int), (kd_ys, .int)]) (va_Qi (fun (r : Int32) (u : Unit) => r = zd_ys vi.toNatClampNeg) (fun u t => End_ dC dI (va_A [(ad, .inr (4, [.ref ad_xs, .ref ad_ys])), (ad_xs, .inl (kd_xs, 10, .inl zd_xs)), (ad_ys, .inl (kd_ys, 10, .inl zd_ys))] sz) [(kd_xs, .int), (kd_ys, .int)] [(ad, .inr (4, [.ref ad_xs, .ref ad_ys])), (ad_xs, .inl (kd_xs, 10, .inl zd_xs)), (ad_ys, .inl (kd_ys, 10, .inl zd_ys))] t) (va_A [(ad, .inr (4, [.ref ad_xs, .ref ad_ys])), (ad_xs, .inl (kd_xs, 10, .inl zd_xs)), (ad_ys, .inl (kd_ys, 10, .inl zd_ys))] sz)) 0 0 (va_A [(ad, .inr (4, [.ref ad_xs, .ref ad_ys])), (ad_xs, .inl (kd_xs, 10, .inl zd_xs)), (ad_ys, .inl (kd_ys, 10, .inl zd_ys))] sz) := by
  refine Met.ofW (cc := b_Desk_upward) (maxL := 2) (ret := (some .int)) (by decide) rfl ?_
  intro p e s m args below meth c s₁ B hml hv
  obtain ⟨hargs, hsz, hP, hK, hD0, hN⟩ := hv
  have hx := B.exec
  have hb := B.bytes
  have hr := B.returns
  have hts := atoms_spec (ws := w_Desk_upward) B.pre
  have hown : s.vm.findClass R_Desk = some m.cls := findClass_of_methodNamed B.named
  have hlocks := B.notSynchronized
  subst hsz
  have hD := hD0.self (sz := s.heap.size)
  generalize hAe : va_A [(ad, .inr (4, [.ref ad_xs, .ref ad_ys])), (ad_xs, .inl (kd_xs, 10, .inl zd_xs)), (ad_ys, .inl (kd_ys, 10, .inl zd_ys))] s.heap.size = A at hD ⊢
  have hA : ∀ q : Nat, s.heap.size ≤ q → A q := fun q h => by rw [← hAe]; exact Or.inr h
  have hS : va_S A s.heap s.heap [] := va_S.rf
  have hl := lv_entry ([.ref ad, .int vi]) (n := 2) (Nat.le_of_ble_eq_true rfl)
  refine W.eq (congrArg (fun a => entryFrame m a 2) hargs) ?_
  rw [lg_entry_eq]
  generalize (lg_sl ([.ref ad, .int vi]) ++ List.replicate (2 - (lg_sl ([.ref ad, .int vi])).length) Slot.unset).toArray = ls at hl ⊢
  have hl : lv_has ls 2 [(0, .ref ad), (1, .int vi)] := hl
  generalize hH0 : ([] : List Loc) = locs at hS ⊢
  refine lv_aload_n hx hb d_Desk_upward_0 rfl (lv_at hl 0 rfl) ?_
  refine va_get (D := (dC, dI)) (ci := 4) (v := .ref ad_ys) (C := R_Desk) (T := F_Desk) (N := 2) hx hb hts (fun w h => List.mem_cons_of_mem _ (in_Desk w h)) hown hK hP 0 rfl rfl 1 (by decide) (hts _ (List.mem_cons_of_mem _ mw_1_90)) (fun _ h9 => h9) rfl d_Desk_upward_1 ?_
  refine lv_iload_n hx hb d_Desk_upward_4 rfl (lv_at hl 1 rfl) ?_
  refine va_iald (D := (dC, dI)) hx hb hK hP 2 1 rfl rfl (hin) d_Desk_upward_5 ?_
  exact W.iret (v := zd_ys (Int32.toNatClampNeg vi)) hx hb hr (fun t ht hW => ⟨⟨zd_ys (Int32.toNatClampNeg vi), (), rfl, rfl, by rw [ht]; exact hP, va_K.moved hW.alike hK, hD⟩, hS.F ht⟩) hS.2.2 d_Desk_upward_6
