theorem faces_W {le mo near : Nat → Int32} {bl cl : Int32} {dep en re hi al op : Nat → Int32} {nb lb : Int32} {b : Nat → Int64} {X : Nat → Int32 → Prop} (h : Ok (F_facesT nb lb le mo near bl cl dep en re hi al op) (fun R => PH R.2 ∧ (R.1 = 0 ∨ R.1 = 2) ∧ X R.1 R.2.1)) : Ok (F_facesW nb lb le mo near bl cl dep en re hi al op b) (fun R => HI R.2.2.2.2.2.2.2.1 ∧ ((R.1 = 1 ∧ ∃ z, X 2 z) ∨ (R.1 = 0 ∧ ∃ z, X 0 z ∧ R.2.2.2.2.2.2.2.2.2.2 0 = Int32.toInt64 z))) :=
  ok_bind h (fun p hp => ok_if (fun h0 => ok_some ⟨hp.1, Or.inr ⟨rfl, p.2.1, by rw [← h0]; exact hp.2.2, rfl⟩⟩) (fun h0 => ok_if (fun h3 => ok_some ⟨hp.1, Or.inl ⟨rfl, p.2.1, by rw [← h3]; exact hp.2.2⟩⟩) (fun h3 => (hp.2.1.elim h0 h3).elim)))
def FV (lb nb : Int32) (N : Nat) : Int32 := ((nI (cf (bit lb) 24 0) - nI (cf (bit nb) 10 0)) + nI N) + 1
theorem st_faces (zx_nodeBits : Int32) (zx_lineBits : Int32) (zx_lessEnd : Nat → Int32) (zx_moreEnd : Nat → Int32) (zx_web_near : Nat → Int32) (zx_planeTest_backLines : Int32) (zx_planeTest_clash : Int32) (zx_planeTest_depthOf : Nat → Int32) (zx_planeTest_endingAt : Nat → Int32) (zx_planeTest_returns : Nat → Int32) (zx_planeTest_highest : Nat → Int32) (zx_planeTest_alike : Nat → Int32) (zx_planeTest_opposed : Nat → Int32) (zx_palette_there : Int32) (zx_palette_allowed : Int32) (zx_palette_shades : Nat → Int32) (zx_desk_xs : Nat → Int32) (zx_desk_ys : Nat → Int32) (zm_thrown : Int32) (zm_many : Int32) (zm_there : Nat → Int32) (zm_ones : Nat → Int32) (zm_others : Nat → Int32) (zm_xs : Nat → Int32) (zm_ys : Nat → Int32) (zm_a : Nat → Int32) (zm_b : Nat → Int32) (zm_from : Nat → Int32) (zm_to : Nat → Int32) (zm_way : Nat → Int32) (zm_depth : Nat → Int32) (zm_above : Nat → Int32) (zm_pile : Nat → Int32) (zm_next : Nat → Int32) (zm_leader : Nat → Int32) (zm_turned : Nat → Int32) (zm_piece : Nat → Int32) (zm_numbers : Nat → Int32) (zm_row : Nat → Int32) (zb : Nat → Int64) (hv : Inv zx_nodeBits zx_lineBits zx_lessEnd zx_moreEnd zx_desk_xs zx_desk_ys zm_there zm_ones zm_others zm_xs zm_ys zm_from zm_to zx_planeTest_highest) : ∃ Rx, F_facesW zx_nodeBits zx_lineBits zx_lessEnd zx_moreEnd zx_web_near zx_planeTest_backLines zx_planeTest_clash zx_planeTest_depthOf zx_planeTest_endingAt zx_planeTest_returns zx_planeTest_highest zx_planeTest_alike zx_planeTest_opposed zb = some Rx ∧ ∃ Rm, F_facesM zm_there zm_ones zm_others zm_a zm_b zm_from zm_to zm_way zm_depth zm_above zm_pile zm_next zm_leader zm_turned zm_piece = some Rm ∧ (Rm.2.1 = Rx.1) ∧ (Rx.1 = 0 → Rx.2.2.2.2.2.2.2.2.2.2 0 = Int32.toInt64 Rm.1) ∧ Inv zx_nodeBits zx_lineBits zx_lessEnd zx_moreEnd zx_desk_xs zx_desk_ys zm_there zm_ones zm_others zm_xs zm_ys Rm.2.2.2.2.2.1 Rm.2.2.2.2.2.2.1 Rx.2.2.2.2.2.2.2.1 := by
  obtain ⟨N, _, k1, k2⟩ := pc_all hv
  have cL := cntL_eq (inv_live hv)
  have cN := cntN_eq hv.2.2.1
  have bL : f_bc zx_lineBits = nI (cf (bit zx_lineBits) 24 0) := bc_lt (by decide) hv.2.1
  have bN : f_bc zx_nodeBits = nI (cf (bit zx_nodeBits) 10 0) := bc_lt (by decide) hv.1
  refine two_ok (faces_W (X := fun t x => (t = 2 ∧ ¬ ZZ (gA zx_lineBits zx_lessEnd zx_moreEnd)) ∨ (t = 0 ∧ ZZ (gA zx_lineBits zx_lessEnd zx_moreEnd) ∧ x = FV zx_lineBits zx_nodeBits N)) ?_) (Q := fun R => FT R.2.2.2.2.2.1 R.2.2.2.2.2.2.1 ∧ ((R.2.1 = 1 ∧ ¬ ZZ (gA zx_lineBits zx_lessEnd zx_moreEnd)) ∨ (R.2.1 = 0 ∧ ZZ (gA zx_lineBits zx_lessEnd zx_moreEnd) ∧ R.1 = FV zx_lineBits zx_nodeBits N))) ?_ (fun a b h1 h2 => ⟨?_, fun z => ?_, inv_rep hv h2.1 h1.1⟩)
  · refine ok_bind (canDraw_sem (LU_of hv) (HI_of hv)) (fun p hp => ?_)
    have h0 := z0_of hp.1.2 hp.2
    refine ok_if (fun c => ok_some ⟨hp.1.1, Or.inr rfl, Or.inl ⟨rfl, h0.mp c⟩⟩) (fun c => ok_bind (k1 _) (fun q hq => ok_some ⟨hp.1.1, Or.inl rfl, Or.inr ⟨rfl, Classical.byContradiction (fun z => c (h0.mpr z)), ?_⟩⟩))
    show ((f_bc zx_lineBits - f_bc zx_nodeBits) + q.1) + 1 = _
    rw [hq, bL, bN]; rfl
  · unfold F_facesM
    rw [LB_of hv, Option.bind_some]
    refine ok_bind (isDrawable_sem (LU_ofM hv) (FT_of hv)) (fun q hq => ?_)
    have h0 := z0_of hq.1.1 (hq.2.trans (ZE_ofM hv _ (fun l h => h)))
    by_cases c : q.1 = 0
    · rw [if_pos c]
      refine ok_bind (⟨_, ref_1 0 0, rfl⟩ : Ok (F_refusedM 1 0 0) (fun R => R = (1, 1))) (fun R hR => ?_)
      subst hR
      exact ok_if (fun z => absurd (show (1 : Int32) = 0 from z) (by decide)) (fun _ => ok_some ⟨hq.1.2, Or.inl ⟨rfl, h0.mp c⟩⟩)
    · rw [if_neg c]
      refine ok_bind (⟨_, ref_0, rfl⟩ : Ok (F_refusedM 0 0 0) (fun R => R = (0, 0))) (fun R hR => ?_)
      subst hR
      refine ok_if (fun _ => ?_) (fun z => absurd rfl z)
      rw [cL, Option.bind_some, cN, Option.bind_some]
      refine ok_bind (k2 _) (fun r hr => ok_some ⟨hq.1.2, Or.inr ⟨rfl, Classical.byContradiction (fun z => c (h0.mpr z)), ?_⟩⟩)
      show ((nI (cf (bit zx_lineBits) 24 0) - nI (cf (bit zx_nodeBits) 10 0)) + r.1) + 1 = _
      rw [hr]; rfl
  · rcases h1.2 with ⟨e, _, ⟨_, z⟩ | ⟨z, _⟩⟩ | ⟨e, _, ⟨z, _⟩ | ⟨_, z, _⟩, _⟩
    · rcases h2.2 with ⟨e', z'⟩ | ⟨e', z', _⟩
      · rw [e, e']
      · exact absurd z' z
    · cases z
    · cases z
    · rcases h2.2 with ⟨e', z'⟩ | ⟨e', z', _⟩
      · exact absurd z z'
      · rw [e, e']
  · rcases h1.2 with ⟨e, _⟩ | ⟨_, x, ⟨y, _⟩ | ⟨_, z1, z2⟩, z3⟩
    · rw [e] at z; exact absurd z (by decide)
    · cases y
    · rcases h2.2 with ⟨_, z'⟩ | ⟨_, _, z4⟩
      · exact absurd z1 z'
      · rw [z3, z2, z4]
theorem could_W {le mo near : Nat → Int32} {bl cl : Int32} {dep en re hi al op : Nat → Int32} {nb lb v w : Int32} {b : Nat → Int64} {X : Nat → Int32 → Prop} (h : Ok (F_couldT nb lb le mo near bl cl dep en re hi al op v w) (fun R => PH R.2 ∧ (R.1 = 0 ∨ R.1 = 3 ∨ R.1 = 4) ∧ X R.1 R.2.1)) : Ok (F_couldW nb lb le mo near bl cl dep en re hi al op b v w) (fun R => HI R.2.2.2.2.2.2.2.1 ∧ ((R.1 = 1 ∧ ∃ z, X 3 z) ∨ (R.1 = 2 ∧ ∃ z, X 4 z) ∨ (R.1 = 0 ∧ ∃ z, X 0 z ∧ R.2.2.2.2.2.2.2.2.2.2 0 = if z = 0 then 0 else 1))) :=
  ok_bind h (fun p hp => ok_if (fun h0 => ok_if (fun c => ok_some ⟨hp.1, Or.inr (Or.inr ⟨rfl, p.2.1, by rw [← h0]; exact hp.2.2, by rw [if_pos c]; rfl⟩)⟩) (fun c => ok_some ⟨hp.1, Or.inr (Or.inr ⟨rfl, p.2.1, by rw [← h0]; exact hp.2.2, by rw [if_neg c]; rfl⟩)⟩)) (fun h0 => ok_if (fun h3 => ok_some ⟨hp.1, Or.inl ⟨rfl, p.2.1, by rw [← h3]; exact hp.2.2⟩⟩) (fun h3 => ok_if (fun h4 => ok_some ⟨hp.1, Or.inr (Or.inl ⟨rfl, p.2.1, by rw [← h4]; exact hp.2.2⟩)⟩) (fun h4 => (hp.2.1.elim h0 (fun q => q.elim h3 h4)).elim))))
theorem could_M1 {nb lb : Int32} {le mo dx dy mt on ot mx my fr to hi : Nat → Int32} (hv : Inv nb lb le mo dx dy mt on ot mx my fr to hi) {ma mb way dep abo pile nxt ld tu : Nat → Int32} {m v w : Int32} (h : f_nit nb v = 0 ∨ f_nit nb w = 0) : Ok (F_couldM m mt on ot ma mb fr to way dep abo pile nxt ld tu v w) (fun R => PF R ∧ R.2.1 = 1) := by
  unfold F_couldM
  rw [isThere_eq hv.2.2.1, isThere_eq hv.2.2.1, Option.bind_some]
  refine ok_bind (Q := fun j => j = 1) (ok_if (fun _ => ok_some rfl) (fun h1 => ?_)) (fun j hj => ok_bind (Q := fun _ => True) (ok_if (fun _ => ok_some trivial) (fun _ => ok_bind (Q := fun _ => True) (by
    rcases lineB_eq on ot v w with ⟨e, _⟩ | ⟨l, _, _, e⟩
    · exact ⟨_, e, trivial⟩
    · exact ⟨_, e, trivial⟩) (fun x _ => ok_if (fun _ => ok_some trivial) (fun _ => ok_some trivial)))) (fun j2 _ => ?_))
  · rw [Option.bind_some]
    exact ok_if (fun _ => ok_some rfl) (fun h2 => (h.elim h1 h2).elim)
  · subst hj
    refine ok_bind (⟨_, ref_1 j2 0, rfl⟩ : Ok (F_refusedM 1 j2 0) (fun R => R = (1, 1))) (fun R hR => ?_)
    subst hR
    exact ok_if (fun z => absurd (show (1 : Int32) = 0 from z) (by decide)) (fun _ => ok_some ⟨FT_of hv, rfl⟩)
theorem could_M2 {nb lb : Int32} {le mo dx dy mt on ot mx my fr to hi : Nat → Int32} (hv : Inv nb lb le mo dx dy mt on ot mx my fr to hi) {ma mb way dep abo pile nxt ld tu : Nat → Int32} {m : Int32} {i j : Nat} (hi : i < 10) (hj : j < 10) (e1 : f_nit nb (nI i) = 1) (e2 : f_nit nb (nI j) = 1) (h : i = j ∨ gA lb on ot i j) : Ok (F_couldM m mt on ot ma mb fr to way dep abo pile nxt ld tu (nI i) (nI j)) (fun R => PF R ∧ R.2.1 = 2) := by
  unfold F_couldM
  rw [isThere_eq hv.2.2.1, isThere_eq hv.2.2.1, Option.bind_some]
  refine ok_bind (Q := fun j => j = 0) (ok_if (fun c => absurd (e1.symm.trans c) (by decide)) (fun _ => ?_)) (fun x hx => ok_bind (Q := fun y => y = 1) (ok_if (fun _ => ok_some rfl) (fun hne => ?_)) (fun j2 hj2 => ?_))
  · rw [Option.bind_some]
    exact ok_if (fun c => absurd (e2.symm.trans c) (by decide)) (fun _ => ok_some rfl)
  · have hg : gA lb on ot i j := h.resolve_left (fun e => hne (by rw [e]))
    obtain ⟨l, hl, hj'⟩ := (jm_gA hv (show i < 11 by omega) (show j < 11 by omega)).mpr hg
    rcases lineB_eq on ot (nI i) (nI j) with ⟨e, hn⟩ | ⟨l', hl', _, e⟩
    · exact absurd hj' (hn l hl)
    · rw [e, Option.bind_some, if_neg (nI_nn (by omega))]
      exact ok_some rfl
  · subst hx
    subst hj2
    refine ok_bind (⟨_, ref_2 0, rfl⟩ : Ok (F_refusedM 0 1 0) (fun R => R = (1, 2))) (fun R hR => ?_)
    subst hR
    exact ok_if (fun z => absurd (show (1 : Int32) = 0 from z) (by decide)) (fun _ => ok_some ⟨FT_of hv, rfl⟩)
theorem could_M0 {nb lb : Int32} {le mo dx dy mt on ot mx my fr to hi : Nat → Int32} (hv : Inv nb lb le mo dx dy mt on ot mx my fr to hi) {ma mb way dep abo pile nxt ld tu : Nat → Int32} {m : Int32} {i j : Nat} (hi : i < 10) (hj : j < 10) (e1 : f_nit nb (nI i) = 1) (e2 : f_nit nb (nI j) = 1) (hij : i ≠ j) (h : ¬ gA lb on ot i j) : Ok (F_couldM m mt on ot ma mb fr to way dep abo pile nxt ld tu (nI i) (nI j)) (fun R => PF R ∧ R.2.1 = 0 ∧ z01 R.1 ∧ (R.1 = 1 ↔ ZZ (adp (gA lb on ot) i j))) := by
  unfold F_couldM
  rw [isThere_eq hv.2.2.1, isThere_eq hv.2.2.1, Option.bind_some]
  refine ok_bind (Q := fun j => j = 0) (ok_if (fun c => absurd (e1.symm.trans c) (by decide)) (fun _ => ?_)) (fun x hx => ok_bind (Q := fun y => y = 0) (ok_if (fun c => absurd ((nI_eq_iff (by omega) (by omega)).mp c) hij) (fun hne => ?_)) (fun j2 hj2 => ?_))
  · rw [Option.bind_some]
    exact ok_if (fun c => absurd (e2.symm.trans c) (by decide)) (fun _ => ok_some rfl)
  · rcases lineB_eq on ot (nI i) (nI j) with ⟨e, hn⟩ | ⟨l', hl', hj', e⟩
    · rw [e, Option.bind_some, if_pos (by decide)]
      exact ok_some rfl
    · exact absurd ((jm_gA hv (show i < 11 by omega) (show j < 11 by omega)).mp ⟨l', hl', hj'⟩) h
  · subst hx
    subst hj2
    refine ok_bind (⟨_, ref_0, rfl⟩ : Ok (F_refusedM 0 0 0) (fun R => R = (0, 0))) (fun R hR => ?_)
    subst hR
    refine ok_if (fun _ => ?_) (fun z => absurd rfl z)
    refine ok_bind (couldHave_sem (LB_of hv) (LU_ofM hv) (FT_of hv) (by omega) (by omega) hij h) (fun q hq => ?_)
    have h0 := z0_of hq.1.1 hq.2
    exact ok_if (fun c => ok_some ⟨hq.1.2, rfl, Or.inl rfl, fun z => absurd (show (0 : Int32) = 1 from z) (by decide), fun z => absurd z (h0.mp c)⟩) (fun c => ok_some ⟨hq.1.2, rfl, Or.inr rfl, fun _ => Classical.byContradiction (fun z => c (h0.mpr z)), fun _ => rfl⟩)
theorem st_could (zx_nodeBits : Int32) (zx_lineBits : Int32) (zx_lessEnd : Nat → Int32) (zx_moreEnd : Nat → Int32) (zx_web_near : Nat → Int32) (zx_planeTest_backLines : Int32) (zx_planeTest_clash : Int32) (zx_planeTest_depthOf : Nat → Int32) (zx_planeTest_endingAt : Nat → Int32) (zx_planeTest_returns : Nat → Int32) (zx_planeTest_highest : Nat → Int32) (zx_planeTest_alike : Nat → Int32) (zx_planeTest_opposed : Nat → Int32) (zx_palette_there : Int32) (zx_palette_allowed : Int32) (zx_palette_shades : Nat → Int32) (zx_desk_xs : Nat → Int32) (zx_desk_ys : Nat → Int32) (zm_thrown : Int32) (zm_many : Int32) (zm_there : Nat → Int32) (zm_ones : Nat → Int32) (zm_others : Nat → Int32) (zm_xs : Nat → Int32) (zm_ys : Nat → Int32) (zm_a : Nat → Int32) (zm_b : Nat → Int32) (zm_from : Nat → Int32) (zm_to : Nat → Int32) (zm_way : Nat → Int32) (zm_depth : Nat → Int32) (zm_above : Nat → Int32) (zm_pile : Nat → Int32) (zm_next : Nat → Int32) (zm_leader : Nat → Int32) (zm_turned : Nat → Int32) (zm_piece : Nat → Int32) (zm_numbers : Nat → Int32) (zm_row : Nat → Int32) (zb : Nat → Int64) (p0 p1 : Int32) (hv : Inv zx_nodeBits zx_lineBits zx_lessEnd zx_moreEnd zx_desk_xs zx_desk_ys zm_there zm_ones zm_others zm_xs zm_ys zm_from zm_to zx_planeTest_highest) : ∃ Rx, F_couldW zx_nodeBits zx_lineBits zx_lessEnd zx_moreEnd zx_web_near zx_planeTest_backLines zx_planeTest_clash zx_planeTest_depthOf zx_planeTest_endingAt zx_planeTest_returns zx_planeTest_highest zx_planeTest_alike zx_planeTest_opposed zb p0 p1 = some Rx ∧ ∃ Rm, F_couldM zm_many zm_there zm_ones zm_others zm_a zm_b zm_from zm_to zm_way zm_depth zm_above zm_pile zm_next zm_leader zm_turned p0 p1 = some Rm ∧ (Rm.2.1 = Rx.1) ∧ (Rx.1 = 0 → Rx.2.2.2.2.2.2.2.2.2.2 0 = if Rm.1 = 0 then 0 else 1) ∧ Inv zx_nodeBits zx_lineBits zx_lessEnd zx_moreEnd zx_desk_xs zx_desk_ys zm_there zm_ones zm_others zm_xs zm_ys Rm.2.2.2.2.2.1 Rm.2.2.2.2.2.2.1 Rx.2.2.2.2.2.2.2.1 := by
  have gg := gA_eq hv (v := zx_lineBits) (fun l h => h)
  rcases nit_cases zx_nodeBits p0 with ⟨e0, _⟩ | ⟨i, hi, rfl, hbi, e0⟩
  · refine two_ok (could_W (X := fun t _ => t = 3) ?_) (could_M1 hv (Or.inl e0)) (fun a b h1 h2 => ⟨?_, fun z => ?_, inv_rep hv h2.1 h1.1⟩)
    · unfold F_couldT
      rw [if_pos e0]
      exact ok_some ⟨HI_of hv, Or.inr (Or.inl rfl), rfl⟩
    · rcases h1.2 with ⟨e, _⟩ | ⟨_, _, e⟩ | ⟨_, _, e, _⟩
      · rw [e, h2.2]
      · cases e
      · cases e
    · rcases h1.2 with ⟨e, _⟩ | ⟨_, _, e⟩ | ⟨_, _, e, _⟩
      · rw [e] at z; exact absurd z (by decide)
      · cases e
      · cases e
  · rcases nit_cases zx_nodeBits p1 with ⟨e1, _⟩ | ⟨j, hj, rfl, hbj, e1⟩
    · refine two_ok (could_W (X := fun t _ => t = 3) ?_) (could_M1 hv (Or.inr e1)) (fun a b h1 h2 => ⟨?_, fun z => ?_, inv_rep hv h2.1 h1.1⟩)
      · unfold F_couldT
        rw [if_neg (by rw [e0]; decide), if_pos e1]
        exact ok_some ⟨HI_of hv, Or.inr (Or.inl rfl), rfl⟩
      · rcases h1.2 with ⟨e, _⟩ | ⟨_, _, e⟩ | ⟨_, _, e, _⟩
        · rw [e, h2.2]
        · cases e
        · cases e
      · rcases h1.2 with ⟨e, _⟩ | ⟨_, _, e⟩ | ⟨_, _, e, _⟩
        · rw [e] at z; exact absurd z (by decide)
        · cases e
        · cases e
    · by_cases hd : i = j ∨ gA zx_lineBits zx_lessEnd zx_moreEnd i j
      · refine two_ok (could_W (X := fun t _ => t = 4) ?_) (could_M2 hv hi hj e0 e1 (hd.imp_right (fun q => (gg i j).mp q))) (fun a b h1 h2 => ⟨?_, fun z => ?_, inv_rep hv h2.1 h1.1⟩)
        · unfold F_couldT
          rw [if_neg (by rw [e0]; decide), if_neg (by rw [e1]; decide)]
          refine ok_if (fun _ => ok_some ⟨HI_of hv, Or.inr (Or.inr rfl), rfl⟩) (fun hne => ?_)
          have hij : i ≠ j := fun e => hne (by rw [e])
          have jg := jn_gA (LU_of hv) hi hj hij
          rcases joined_eq zx_lineBits zx_lessEnd zx_moreEnd (nI i) (nI j) with h | h
          · exact absurd (jg.mpr (hd.resolve_left hij)) h.2
          · rw [h.1, Option.bind_some, if_neg n10]
            exact ok_some ⟨HI_of hv, Or.inr (Or.inr rfl), rfl⟩
        · rcases h1.2 with ⟨_, _, e⟩ | ⟨e, _⟩ | ⟨_, _, e, _⟩
          · cases e
          · rw [e, h2.2]
          · cases e
        · rcases h1.2 with ⟨_, _, e⟩ | ⟨e, _⟩ | ⟨_, _, e, _⟩
          · cases e
          · rw [e] at z; exact absurd z (by decide)
          · cases e
      · have hij : i ≠ j := fun e => hd (Or.inl e)
        have hng : ¬ gA zx_lineBits zx_lessEnd zx_moreEnd i j := fun e => hd (Or.inr e)
        refine two_ok (could_W (X := fun t x => t = 0 ∧ z01 x ∧ (x = 1 ↔ ZZ (adp (gA zx_lineBits zx_lessEnd zx_moreEnd) i j))) ?_) (could_M0 hv hi hj e0 e1 hij (fun q => hng ((gg i j).mpr q))) (fun a b h1 h2 => ⟨?_, fun z => ?_, inv_rep hv h2.1 h1.1⟩)
        · unfold F_couldT
          rw [if_neg (by rw [e0]; decide), if_neg (by rw [e1]; decide), if_neg (fun q => hij ((nI_eq_iff (by omega) (by omega)).mp q))]
          have jg := jn_gA (LU_of hv) hi hj hij
          rcases joined_eq zx_lineBits zx_lessEnd zx_moreEnd (nI i) (nI j) with h | h
          · rw [h.1, Option.bind_some, if_pos rfl]
            exact ok_bind (canDrawWith_sem (by omega) (by omega) hij (LU_of hv) (HI_of hv)) (fun p hp => ok_some ⟨hp.1.1, Or.inl rfl, rfl, hp.1.2, hp.2⟩)
          · exact absurd (jg.mp h.2) hng
        · rcases h1.2 with ⟨_, _, e, _⟩ | ⟨_, _, e, _⟩ | ⟨e, _⟩
          · cases e
          · cases e
          · rw [e, h2.2.1]
        · rcases h1.2 with ⟨_, _, e, _⟩ | ⟨_, _, e, _⟩ | ⟨_, x, ⟨_, e1, e2⟩, e3⟩
          · cases e
          · cases e
          · rw [e3, z_uq e1 h2.2.2.1 e2 (h2.2.2.2.trans (ZZ.cg (fun a b => adp_cg (fun a b => (gg a b).symm) i j a b)))]
def adq (ad : Nat → Nat → Prop) (s : Int32) (k x y : Nat) : Prop := ad x y ∨ (x = 10 ∧ y < k ∧ bit s y = true) ∨ (y = 10 ∧ x < k ∧ bit s x = true)
theorem adq_s1 {ad : Nat → Nat → Prop} {s : Int32} {k : Nat} (hb : bit s k = true) (x y : Nat) : adp (adq ad s k) 10 k x y ↔ adq ad s (k + 1) x y := by
  unfold adp adq
  constructor
  · rintro ((h | ⟨h1, h2, h3⟩ | ⟨h1, h2, h3⟩) | ⟨h1, h2⟩ | ⟨h1, h2⟩)
    · exact Or.inl h
    · exact Or.inr (Or.inl ⟨h1, by omega, h3⟩)
    · exact Or.inr (Or.inr ⟨h1, by omega, h3⟩)
    · exact Or.inr (Or.inl ⟨h1, by omega, by rw [h2]; exact hb⟩)
    · exact Or.inr (Or.inr ⟨h2, by omega, by rw [h1]; exact hb⟩)
  · rintro (h | ⟨h1, h2, h3⟩ | ⟨h1, h2, h3⟩)
    · exact Or.inl (Or.inl h)
    · by_cases c : y = k
      · exact Or.inr (Or.inl ⟨h1, c⟩)
      · exact Or.inl (Or.inr (Or.inl ⟨h1, by omega, h3⟩))
    · by_cases c : x = k
      · exact Or.inr (Or.inr ⟨c, h1⟩)
      · exact Or.inl (Or.inr (Or.inr ⟨h1, by omega, h3⟩))
theorem adq_s0 {ad : Nat → Nat → Prop} {s : Int32} {k : Nat} (hb : ¬ bit s k = true) (x y : Nat) : adq ad s k x y ↔ adq ad s (k + 1) x y := by
  unfold adq
  constructor
  · rintro (h | ⟨h1, h2, h3⟩ | ⟨h1, h2, h3⟩)
    · exact Or.inl h
    · exact Or.inr (Or.inl ⟨h1, by omega, h3⟩)
    · exact Or.inr (Or.inr ⟨h1, by omega, h3⟩)
  · rintro (h | ⟨h1, h2, h3⟩ | ⟨h1, h2, h3⟩)
    · exact Or.inl h
    · by_cases c : y = k
      · rw [c] at h3; exact absurd h3 hb
      · exact Or.inr (Or.inl ⟨h1, by omega, h3⟩)
    · by_cases c : x = k
      · rw [c] at h3; exact absurd h3 hb
      · exact Or.inr (Or.inr ⟨h1, by omega, h3⟩)
theorem adp_sw {ad : Nat → Nat → Prop} {p q : Nat} (x y : Nat) : adp ad p q x y ↔ adp ad q p x y := by
  unfold adp
  constructor
  · rintro (h | h | h)
    · exact Or.inl h
    · exact Or.inr (Or.inr h)
    · exact Or.inr (Or.inl h)
  · rintro (h | h | h)
    · exact Or.inl h
    · exact Or.inr (Or.inr h)
    · exact Or.inr (Or.inl h)
theorem WN.cg {u : Nat → Int32} {ad ad' : Nat → Nat → Prop} (h : WN u ad) (he : ∀ a b, ad a b ↔ ad' a b) : WN u ad' := ⟨h.1, fun i j => (h.2 i j).trans (he i j)⟩
theorem around31_S {K : (Nat → Int32) → Option (Nat × TX)} {P : Nat × TX → Prop} {ad : Nat → Nat → Prop} {v : Int32} (hK : ∀ w, WN w (adq ad v 10) → Ok (K w) P) : ∀ (n k : Nat) (w : Nat → Int32), k + n = 10 → WN w (adq ad v k) → Ok (F_aroundT_L31 K v n k w) P
  | 0, k, w, hk, h => by
    have : k = 10 := by omega
    subst this
    rw [F_aroundT_L31]; exact hK w h
  | n + 1, k, w, hk, h => by
    rw [F_aroundT_L31]
    refine ok_if (fun c => around31_S hK n (k + 1) w (by omega) (h.cg (adq_s0 (fun q => ?_)))) (fun c => ok_bind (join_sem h (a := 10) (by decide) (show k < 11 by omega)) (fun u hu => around31_S hK n (k + 1) u (by omega) (hu.cg (adq_s1 (bitT (by omega) c)))))
    have := (has0_iff (by omega)).mp c
    rw [q] at this; cases this
theorem around37_S {P : TM2 → Prop} {K : Int32 → (Nat → Int32) → (Nat → Int32) → Option TM2} {ad : Nat → Nat → Prop} (hlt : ∀ a b, ad a b → a < 10 ∧ b < 10) {v : Int32} (hK : ∀ M ma mb, M ≤ 34 → LD_ M (adq ad v 10) ma mb → Ok (K (nI M) ma mb) P) : ∀ (n k M : Nat) (ma mb : Nat → Int32), k + n = 10 → M ≤ 24 + k → LD_ M (adq ad v k) ma mb → Ok (F_aroundM_L37 K v n k (nI M) ma mb) P
  | 0, k, M, ma, mb, h1, h2, h => by
    have : k = 10 := by omega
    subst this
    rw [F_aroundM_L37]; exact hK M ma mb (by omega) h
  | n + 1, k, M, ma, mb, h1, h2, h => by
    rw [F_aroundM_L37]
    refine ok_if (fun c => ?_) (fun c => around37_S hlt hK n (k + 1) M ma mb (by omega) (by omega) (h.cg (adq_s0 (fun q => c ((bit1_iff (by omega)).mpr q)))))
    refine ok_bind (layLine_sem (q := 10) (by omega) h (show k < 11 by omega) (by decide) (by omega) (fun z => ?_)) (fun p hp => ?_)
    · rcases z with z | ⟨z, _⟩ | ⟨_, z, _⟩
      · have := (hlt _ _ z).2; omega
      · omega
      · omega
    · rw [hp.1]
      exact around37_S hlt hK n (k + 1) (M + 1) _ _ (by omega) (by omega) (hp.2.cg (fun a b => (adp_sw a b).trans (adq_s1 ((bit1_iff (by omega)).mp c) a b)))
theorem adq0 {ad : Nat → Nat → Prop} {s : Int32} (x y : Nat) : ad x y ↔ adq ad s 0 x y := ⟨Or.inl, fun h => by
  rcases h with h | ⟨_, h, _⟩ | ⟨_, h, _⟩
  · exact h
  · exact absurd h (Nat.not_lt_zero _)
  · exact absurd h (Nat.not_lt_zero _)⟩
theorem around_W {le mo near : Nat → Int32} {bl cl : Int32} {dep en re hi al op : Nat → Int32} {nb lb v : Int32} {b : Nat → Int64} {X : Nat → Int32 → Prop} (h : Ok (F_aroundT nb lb le mo near bl cl dep en re hi al op v) (fun R => PH R.2 ∧ (R.1 = 0 ∨ R.1 = 3) ∧ X R.1 R.2.1)) : Ok (F_aroundW nb lb le mo near bl cl dep en re hi al op b v) (fun R => HI R.2.2.2.2.2.2.2.1 ∧ ((R.1 = 1 ∧ ∃ z, X 3 z) ∨ (R.1 = 0 ∧ ∃ z, X 0 z ∧ R.2.2.2.2.2.2.2.2.2.2 0 = if z = 0 then 0 else 1))) :=
  ok_bind h (fun p hp => ok_if (fun h0 => ok_if (fun c => ok_some ⟨hp.1, Or.inr ⟨rfl, p.2.1, by rw [← h0]; exact hp.2.2, by rw [if_pos c]; rfl⟩⟩) (fun c => ok_some ⟨hp.1, Or.inr ⟨rfl, p.2.1, by rw [← h0]; exact hp.2.2, by rw [if_neg c]; rfl⟩⟩)) (fun h0 => ok_if (fun h3 => ok_some ⟨hp.1, Or.inl ⟨rfl, p.2.1, by rw [← h3]; exact hp.2.2⟩⟩) (fun h3 => (hp.2.1.elim h0 h3).elim)))
theorem st_around (zx_nodeBits : Int32) (zx_lineBits : Int32) (zx_lessEnd : Nat → Int32) (zx_moreEnd : Nat → Int32) (zx_web_near : Nat → Int32) (zx_planeTest_backLines : Int32) (zx_planeTest_clash : Int32) (zx_planeTest_depthOf : Nat → Int32) (zx_planeTest_endingAt : Nat → Int32) (zx_planeTest_returns : Nat → Int32) (zx_planeTest_highest : Nat → Int32) (zx_planeTest_alike : Nat → Int32) (zx_planeTest_opposed : Nat → Int32) (zx_palette_there : Int32) (zx_palette_allowed : Int32) (zx_palette_shades : Nat → Int32) (zx_desk_xs : Nat → Int32) (zx_desk_ys : Nat → Int32) (zm_thrown : Int32) (zm_many : Int32) (zm_there : Nat → Int32) (zm_ones : Nat → Int32) (zm_others : Nat → Int32) (zm_xs : Nat → Int32) (zm_ys : Nat → Int32) (zm_a : Nat → Int32) (zm_b : Nat → Int32) (zm_from : Nat → Int32) (zm_to : Nat → Int32) (zm_way : Nat → Int32) (zm_depth : Nat → Int32) (zm_above : Nat → Int32) (zm_pile : Nat → Int32) (zm_next : Nat → Int32) (zm_leader : Nat → Int32) (zm_turned : Nat → Int32) (zm_piece : Nat → Int32) (zm_numbers : Nat → Int32) (zm_row : Nat → Int32) (zb : Nat → Int64) (p0 : Int32) (hv : Inv zx_nodeBits zx_lineBits zx_lessEnd zx_moreEnd zx_desk_xs zx_desk_ys zm_there zm_ones zm_others zm_xs zm_ys zm_from zm_to zx_planeTest_highest) : ∃ Rx, F_aroundW zx_nodeBits zx_lineBits zx_lessEnd zx_moreEnd zx_web_near zx_planeTest_backLines zx_planeTest_clash zx_planeTest_depthOf zx_planeTest_endingAt zx_planeTest_returns zx_planeTest_highest zx_planeTest_alike zx_planeTest_opposed zb p0 = some Rx ∧ ∃ Rm, F_aroundM zm_many zm_there zm_ones zm_others zm_a zm_b zm_from zm_to zm_way zm_depth zm_above zm_pile zm_next zm_leader zm_turned p0 = some Rm ∧ (Rm.2.1 = Rx.1) ∧ (Rx.1 = 0 → Rx.2.2.2.2.2.2.2.2.2.2 0 = if Rm.1 = 0 then 0 else 1) ∧ Inv zx_nodeBits zx_lineBits zx_lessEnd zx_moreEnd zx_desk_xs zx_desk_ys zm_there zm_ones zm_others zm_xs zm_ys Rm.2.2.2.2.2.1 Rm.2.2.2.2.2.2.1 Rx.2.2.2.2.2.2.2.1 := by
  have gg := gA_eq hv (v := zx_lineBits) (fun l h => h)
  by_cases c : p0 &&& (zx_nodeBits ^^^ (-1)) = 0
  · refine two_ok (around_W (X := fun t x => t = 0 ∧ z01 x ∧ (x = 1 ↔ ZZ (adq (gA zx_lineBits zx_lessEnd zx_moreEnd) p0 10))) ?_) (Q := fun R => PF R ∧ R.2.1 = 0 ∧ z01 R.1 ∧ (R.1 = 1 ↔ ZZ (adq (gA zx_lineBits zm_ones zm_others) p0 10))) ?_ (fun a b h1 h2 => ⟨?_, fun z => ?_, inv_rep hv h2.1 h1.1⟩)
    · unfold F_aroundT
      rw [if_pos c]
      refine ok_bind (spin_sem (LU_of hv)) (fun u hu => around31_S (ad := gA zx_lineBits zx_lessEnd zx_moreEnd) (fun w hw => ok_bind (passes_sem _ _ _ _ _ _ _ _ w (HI_of hv) (hw.wb (fun a b q => ?_) (fun a b q => ?_)) hw.1) (fun q hq => ok_some ⟨hq.1.2, Or.inl rfl, rfl, hq.1.1, hq.2.trans (ZZ.cg hw.2)⟩)) 10 0 u rfl (hu.cg adq0))
      · rcases q with q | ⟨q1, q2, _⟩ | ⟨q1, q2, _⟩
        · exact (gA_lt (LU_of hv) q).2.2
        · omega
        · omega
      · rcases q with q | q | q
        · exact Or.inl (gA_sy q)
        · exact Or.inr (Or.inr q)
        · exact Or.inr (Or.inl q)
    · unfold F_aroundM
      rw [NB_of hv, Option.bind_some, LB_of hv, if_pos c]
      refine ok_bind (⟨_, ref_0, rfl⟩ : Ok (F_refusedM 0 0 0) (fun R => R = (0, 0))) (fun R hR => ?_)
      subst hR
      refine ok_if (fun _ => ?_) (fun z => absurd rfl z)
      rw [Option.bind_some]
      refine ok_bind (lay_sem (LU_ofM hv)) (fun p hp => ?_)
      obtain ⟨M, hM, e, hl⟩ := hp
      rw [e]
      refine around37_S (fun a b q => ⟨(gA_lt (LU_ofM hv) q).1, (gA_lt (LU_ofM hv) q).2.1⟩) (fun M ma mb hM h => ?_) 10 0 M _ _ rfl (by omega) (hl.cg adq0)
      obtain ⟨A, B, hE, hab⟩ := h
      exact ok_bind (flat_sem (by omega) hE hab (FT_of hv)) (fun q hq => ok_some ⟨hq.1.2, rfl, hq.1.1, hq.2⟩)
    · rcases h1.2 with ⟨_, _, e, _⟩ | ⟨e, _⟩
      · cases e
      · rw [e, h2.2.1]
    · rcases h1.2 with ⟨_, _, e, _⟩ | ⟨_, x, ⟨_, e1, e2⟩, e3⟩
      · cases e
      · rw [e3, z_uq e1 h2.2.2.1 e2 (h2.2.2.2.trans (ZZ.cg (fun a b => by unfold adq; rw [gg a b])))]
  · refine two_ok (around_W (X := fun t _ => t = 3) ?_) (Q := fun R => PF R ∧ R.2.1 = 1) ?_ (fun a b h1 h2 => ⟨?_, fun z => ?_, inv_rep hv h2.1 h1.1⟩)
    · unfold F_aroundT
      rw [if_neg c]
      exact ok_some ⟨HI_of hv, Or.inr rfl, rfl⟩
    · unfold F_aroundM
      rw [NB_of hv, Option.bind_some, if_neg c]
      refine ok_bind (⟨_, ref_1 0 0, rfl⟩ : Ok (F_refusedM 1 0 0) (fun R => R = (1, 1))) (fun R hR => ?_)
      subst hR
      exact ok_if (fun z => absurd (show (1 : Int32) = 0 from z) (by decide)) (fun _ => ok_some ⟨FT_of hv, rfl⟩)
    · rcases h1.2 with ⟨e, _⟩ | ⟨_, _, e, _⟩
      · rw [e, h2.2]
      · cases e
    · rcases h1.2 with ⟨e, _⟩ | ⟨_, _, e, _⟩
      · rw [e] at z; exact absurd z (by decide)
      · cases e
