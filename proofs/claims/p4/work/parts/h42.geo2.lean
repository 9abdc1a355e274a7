theorem GI_of {nb lb : Int32} {le mo dx dy mt on ot mx my fr to hi : Nat → Int32} (hv : Inv nb lb le mo dx dy mt on ot mx my fr to hi) : GI lb le mo on ot mx my := by
  obtain ⟨h1, h2, h3, h4, h5, h6, h7, h8, h9⟩ := id hv
  refine ⟨fun i hi => ?_, fun i hi => ?_, inv_live hv, fun l hl hb => ?_⟩
  · obtain ⟨x, y, q1, q2, q3, q4, q5, q6⟩ := h7 i hi
    exact ⟨x, q1, q5⟩
  · obtain ⟨x, y, q1, q2, q3, q4, q5, q6⟩ := h7 i hi
    exact ⟨y, q2, q6⟩
  · obtain ⟨a, b, q1, q2, q3, q4, q5, q6, q7, q8⟩ := h5 l hl hb
    exact ⟨a, b, q1, q2, q5, q6, q7, q8⟩
theorem eq_turnG {x y x' y' : Nat → Int32} (hx : ∀ i, i < 10 → x i = x' i) (hy : ∀ i, i < 10 → y i = y' i) (a b c : Int32) : F_turnG x y a b c = F_turnG x' y' a b c := by
  unfold F_turnG
  by_cases h2 : inb b 10 = true
  · by_cases h1 : inb a 10 = true
    · by_cases h3 : inb c 10 = true
      · obtain ⟨i, hi, rfl⟩ := inb_cases (by decide) h1
        obtain ⟨j, hj, rfl⟩ := inb_cases (by decide) h2
        obtain ⟨k, hk, rfl⟩ := inb_cases (by decide) h3
        rw [nI_clamp (by omega), nI_clamp (by omega), nI_clamp (by omega), hx i hi, hx j hj, hx k hk, hy i hi, hy j hj, hy k hk]
      · rw [if_pos h2, if_pos h1, if_neg h3, if_pos h2, if_pos h1, if_neg h3]
    · rw [if_pos h2, if_neg h1, if_pos h2, if_neg h1]
  · rw [if_neg h2, if_neg h2]
theorem eq_liesOn {x y x' y' : Nat → Int32} (hx : ∀ i, i < 10 → x i = x' i) (hy : ∀ i, i < 10 → y i = y' i) (a b c : Int32) : F_liesOnG x y a b c = F_liesOnG x' y' a b c := by
  unfold F_liesOnG
  rw [eq_turnG hx hy]
  by_cases h1 : inb a 10 = true
  · by_cases h2 : inb b 10 = true
    · by_cases h3 : inb c 10 = true
      · obtain ⟨i, hi, rfl⟩ := inb_cases (by decide) h1
        obtain ⟨j, hj, rfl⟩ := inb_cases (by decide) h2
        obtain ⟨k, hk, rfl⟩ := inb_cases (by decide) h3
        rw [nI_clamp (by omega), nI_clamp (by omega), nI_clamp (by omega), hx i hi, hx j hj, hx k hk, hy i hi, hy j hj, hy k hk]
      · simp only [if_pos h1, if_pos h2, if_neg h3]
    · simp only [if_pos h1, if_neg h2]
  · simp only [if_neg h1]
theorem eq_touch {x y x' y' : Nat → Int32} (hx : ∀ i, i < 10 → x i = x' i) (hy : ∀ i, i < 10 → y i = y' i) (a b c d : Int32) : F_touchG x y a b c d = F_touchG x' y' a b c d := by
  unfold F_touchG
  rw [eq_liesOn hx hy, eq_liesOn hx hy, eq_liesOn hx hy, eq_liesOn hx hy, eq_turnG hx hy, eq_turnG hx hy, eq_turnG hx hy, eq_turnG hx hy]
theorem eq_sameWay {x y x' y' : Nat → Int32} (hx : ∀ i, i < 10 → x i = x' i) (hy : ∀ i, i < 10 → y i = y' i) (a b c : Int32) : F_sameWayG x y a b c = F_sameWayG x' y' a b c := by
  unfold F_sameWayG
  rw [eq_turnG hx hy]
  by_cases h1 : inb a 10 = true
  · by_cases h2 : inb b 10 = true
    · by_cases h3 : inb c 10 = true
      · obtain ⟨i, hi, rfl⟩ := inb_cases (by decide) h1
        obtain ⟨j, hj, rfl⟩ := inb_cases (by decide) h2
        obtain ⟨k, hk, rfl⟩ := inb_cases (by decide) h3
        rw [nI_clamp (by omega), nI_clamp (by omega), nI_clamp (by omega), hx i hi, hx j hj, hx k hk, hy i hi, hy j hj, hy k hk]
      · simp only [if_pos h1, if_pos h2, if_neg h3]
    · simp only [if_pos h1, if_neg h2]
  · simp only [if_neg h1]
theorem eq_meetW {le mo x y x' y' : Nat → Int32} (hx : ∀ i, i < 10 → x i = x' i) (hy : ∀ i, i < 10 → y i = y' i) (l m : Int32) : F_meetWronglyG le mo x y l m = F_meetWronglyG le mo x' y' l m := by
  unfold F_meetWronglyG
  simp only [eq_touch hx hy, eq_sameWay hx hy]
theorem eq_wm14 {K : Int32 → Option Int32} {lb : Int32} {le mo x y x' y' : Nat → Int32} (hx : ∀ i, i < 10 → x i = x' i) (hy : ∀ i, i < 10 → y i = y' i) (k4 : Nat) : ∀ (n k : Nat) (v : Int32), F_wrongMeetingsG_L14 K lb le mo x y k4 n k v = F_wrongMeetingsG_L14 K lb le mo x' y' k4 n k v
  | 0, k, v => by rw [F_wrongMeetingsG_L14, F_wrongMeetingsG_L14]
  | n + 1, k, v => by
    rw [F_wrongMeetingsG_L14, F_wrongMeetingsG_L14, eq_meetW hx hy]
    simp only [eq_wm14 hx hy k4 n (k + 1)]
theorem eq_wm4 {K : Int32 → Option Int32} {lb : Int32} {le mo x y x' y' : Nat → Int32} (hx : ∀ i, i < 10 → x i = x' i) (hy : ∀ i, i < 10 → y i = y' i) : ∀ (n k : Nat) (v : Int32), F_wrongMeetingsG_L4 K lb le mo x y n k v = F_wrongMeetingsG_L4 K lb le mo x' y' n k v
  | 0, k, v => by rw [F_wrongMeetingsG_L4, F_wrongMeetingsG_L4]
  | n + 1, k, v => by
    rw [F_wrongMeetingsG_L4, F_wrongMeetingsG_L4, eq_wm14 hx hy]
    simp only [eq_wm4 hx hy n (k + 1)]
theorem eq_wm {lb : Int32} {le mo x y x' y' : Nat → Int32} (hx : ∀ i, i < 10 → x i = x' i) (hy : ∀ i, i < 10 → y i = y' i) : F_wrongMeetingsG lb le mo x y = F_wrongMeetingsG lb le mo x' y' := eq_wm4 hx hy 24 0 0
theorem dxy {nb lb : Int32} {le mo dx dy mt on ot mx my fr to hi : Nat → Int32} (hv : Inv nb lb le mo dx dy mt on ot mx my fr to hi) : (∀ i, i < 10 → dx i = mx i) ∧ ∀ i, i < 10 → dy i = my i := by
  refine ⟨fun i hi => ?_, fun i hi => ?_⟩ <;> (obtain ⟨x, y, _, _, q3, q4, q5, q6⟩ := hv.2.2.2.2.2.2.1 i hi) 
  · rw [q3, q5]
  · rw [q4, q6]
theorem far_ (p : Int32) (h0 : ¬ p < 0) (h1 : ¬ (30 : Int32) < p) : ∃ n : Nat, n ≤ 30 ∧ p = nI n := by
  obtain ⟨j, hj, e⟩ := vp_in_of (in_of (c := 31) 31 rfl (by decide) h0 (fun h => h1 (by
    rw [Int32.le_iff_toInt_le, show (31 : Int32).toInt = 31 by decide] at h
    rw [Int32.lt_iff_toInt_lt, show (30 : Int32).toInt = 30 by decide]
    omega))) (by decide)
  exact ⟨j, by omega, e⟩
theorem st_place (zx_nodeBits : Int32) (zx_lineBits : Int32) (zx_lessEnd : Nat → Int32) (zx_moreEnd : Nat → Int32) (zx_web_near : Nat → Int32) (zx_planeTest_backLines : Int32) (zx_planeTest_clash : Int32) (zx_planeTest_depthOf : Nat → Int32) (zx_planeTest_endingAt : Nat → Int32) (zx_planeTest_returns : Nat → Int32) (zx_planeTest_highest : Nat → Int32) (zx_planeTest_alike : Nat → Int32) (zx_planeTest_opposed : Nat → Int32) (zx_palette_there : Int32) (zx_palette_allowed : Int32) (zx_palette_shades : Nat → Int32) (zx_desk_xs : Nat → Int32) (zx_desk_ys : Nat → Int32) (zm_thrown : Int32) (zm_many : Int32) (zm_there : Nat → Int32) (zm_ones : Nat → Int32) (zm_others : Nat → Int32) (zm_xs : Nat → Int32) (zm_ys : Nat → Int32) (zm_a : Nat → Int32) (zm_b : Nat → Int32) (zm_from : Nat → Int32) (zm_to : Nat → Int32) (zm_way : Nat → Int32) (zm_depth : Nat → Int32) (zm_above : Nat → Int32) (zm_pile : Nat → Int32) (zm_next : Nat → Int32) (zm_leader : Nat → Int32) (zm_turned : Nat → Int32) (zm_piece : Nat → Int32) (zm_numbers : Nat → Int32) (zm_row : Nat → Int32) (zb : Nat → Int64) (p0 p1 p2 : Int32) (hv : Inv zx_nodeBits zx_lineBits zx_lessEnd zx_moreEnd zx_desk_xs zx_desk_ys zm_there zm_ones zm_others zm_xs zm_ys zm_from zm_to zx_planeTest_highest) : ∃ Rx, F_placeW zx_lineBits zx_lessEnd zx_moreEnd zx_desk_xs zx_desk_ys zb p0 p1 p2 = some Rx ∧ ∃ Rm, F_placeM zm_ones zm_others zm_xs zm_ys p0 p1 p2 = some Rm ∧ (Rm.2.1 = Rx.1) ∧ (Rx.1 = 0 → Rx.2.2.2 0 = Int32.toInt64 Rm.1) ∧ Inv zx_nodeBits zx_lineBits zx_lessEnd zx_moreEnd Rx.2.1 Rx.2.2.1 zm_there zm_ones zm_others Rm.2.2.1 Rm.2.2.2 zm_from zm_to zx_planeTest_highest := by
  obtain ⟨h1, h2, h3, h4, h5, h6, h7, h8, h9⟩ := id hv
  have bad1 : f_isNN p0 = 0 → F_placeW zx_lineBits zx_lessEnd zx_moreEnd zx_desk_xs zx_desk_ys zb p0 p1 p2 = some (1, zx_desk_xs, zx_desk_ys, zb) ∧ F_placeM zm_ones zm_others zm_xs zm_ys p0 p1 p2 = some (0, 1, zm_xs, zm_ys) := by
    intro h
    constructor
    · unfold F_placeW F_placeT
      rw [if_pos h]; rfl
    · unfold F_placeM
      rw [if_pos h]
      simp only [Option.bind_some, n10, ↓reduceIte]
      rw [ref_1]; rfl
  rcases isNN_cases p0 with h | ⟨i, hi, rfl⟩
  · exact ⟨_, (bad1 h).1, _, (bad1 h).2, rfl, fun q => (by first | exact (n10 q).elim | exact (n20 q).elim | exact (n30 q).elim), hv⟩
  have hnn : ¬ f_isNN (nI i) = 0 := by rw [isNN_1_ i hi]; decide
  have bad2 : ((if p1 < 0 then (1 : Int32) else (if 30 < p1 then 1 else (if p2 < 0 then 1 else (if p2 ≤ 30 then 0 else 1)))) = 1) → F_placeT zx_lineBits zx_lessEnd zx_moreEnd zx_desk_xs zx_desk_ys (nI i) p1 p2 = some (4, 0, zx_desk_xs, zx_desk_ys) → ∃ Rx, F_placeW zx_lineBits zx_lessEnd zx_moreEnd zx_desk_xs zx_desk_ys zb (nI i) p1 p2 = some Rx ∧ ∃ Rm, F_placeM zm_ones zm_others zm_xs zm_ys (nI i) p1 p2 = some Rm ∧ (Rm.2.1 = Rx.1) ∧ (Rx.1 = 0 → Rx.2.2.2 0 = Int32.toInt64 Rm.1) ∧ Inv zx_nodeBits zx_lineBits zx_lessEnd zx_moreEnd Rx.2.1 Rx.2.2.1 zm_there zm_ones zm_others Rm.2.2.1 Rm.2.2.2 zm_from zm_to zx_planeTest_highest := by
    intro q1 q2
    refine ⟨(2, zx_desk_xs, zx_desk_ys, zb), ?_, (0, 2, zm_xs, zm_ys), ?_, rfl, fun q => (by first | exact (n10 q).elim | exact (n20 q).elim | exact (n30 q).elim), hv⟩
    · unfold F_placeW
      rw [q2]; rfl
    · unfold F_placeM
      rw [if_neg hnn, q1]
      simp only [Option.bind_some, n10, ↓reduceIte]
      rw [ref_2]; rfl
  have hT : F_placeT zx_lineBits zx_lessEnd zx_moreEnd zx_desk_xs zx_desk_ys (nI i) p1 p2 = (if p1 < 0 then some (4, 0, zx_desk_xs, zx_desk_ys) else (if 30 < p1 then some (4, 0, zx_desk_xs, zx_desk_ys) else (if p2 < 0 then some (4, 0, zx_desk_xs, zx_desk_ys) else (if p2 ≤ 30 then ((F_putG zx_desk_xs zx_desk_ys (nI i) p1 p2).bind (fun p_54 => ((F_wrongMeetingsG zx_lineBits zx_lessEnd zx_moreEnd p_54.1 p_54.2).bind (fun p_58 => some (0, p_58, p_54.1, p_54.2))))) else some (4, 0, zx_desk_xs, zx_desk_ys))))) := by
    unfold F_placeT
    rw [if_neg hnn]
  by_cases c1 : p1 < 0
  · rw [if_pos c1] at bad2 hT; exact bad2 rfl hT
  by_cases c2 : (30 : Int32) < p1
  · rw [if_neg c1, if_pos c2] at bad2 hT; exact bad2 rfl hT
  by_cases c3 : p2 < 0
  · rw [if_neg c1, if_neg c2, if_pos c3] at bad2 hT; exact bad2 rfl hT
  by_cases c4 : p2 ≤ 30
  · rw [if_neg c1, if_neg c2, if_neg c3, if_pos c4] at hT
    obtain ⟨x, hx, rfl⟩ := far_ p1 c1 c2
    obtain ⟨y, hy, rfl⟩ := far_ p2 c3 (fun h => by
      rw [Int32.lt_iff_toInt_lt] at h; rw [Int32.le_iff_toInt_le] at c4; omega)
    have h7' : ∀ j, j < 10 → ∃ x' y' : Nat, x' ≤ 30 ∧ y' ≤ 30 ∧ upd zx_desk_xs i (nI x) j = nI x' ∧ upd zx_desk_ys i (nI y) j = nI y' ∧ upd zm_xs i (nI x) j = nI x' ∧ upd zm_ys i (nI y) j = nI y' := by
      intro j hj
      by_cases e : j = i
      · subst e; exact ⟨x, y, hx, hy, pk_us, pk_us, pk_us, pk_us⟩
      · rw [pk_un e, pk_un e, pk_un e, pk_un e]; exact h7 j hj
    have hv' : Inv zx_nodeBits zx_lineBits zx_lessEnd zx_moreEnd (upd zx_desk_xs i (nI x)) (upd zx_desk_ys i (nI y)) zm_there zm_ones zm_others (upd zm_xs i (nI x)) (upd zm_ys i (nI y)) zm_from zm_to zx_planeTest_highest := ⟨h1, h2, h3, h4, h5, h6, h7', h8, h9⟩
    obtain ⟨r, e1, e2⟩ := meets_eq (GI_of hv')
    rw [← eq_wm (dxy hv').1 (dxy hv').2] at e1
    refine ⟨(0, upd zx_desk_xs i (nI x), upd zx_desk_ys i (nI y), vp_updL zb 0 (Int32.toInt64 r)), ?_, (r, 0, upd zm_xs i (nI x), upd zm_ys i (nI y)), ?_, rfl, fun _ => out_eq (f := zb) rfl, hv'⟩
    · unfold F_placeW
      rw [hT]
      unfold F_putG
      rw [if_pos (inb_nI hi (by decide)), nI_clamp (by omega), Option.bind_some]
      show (((F_wrongMeetingsG zx_lineBits zx_lessEnd zx_moreEnd (upd zx_desk_xs i (nI x)) (upd zx_desk_ys i (nI y))).bind _).bind _) = _
      rw [e1]; rfl
    · unfold F_placeM
      rw [if_neg hnn, if_neg c1, if_neg c2, if_neg c3, if_pos c4]
      simp only [Option.bind_some, n10, ↓reduceIte]
      rw [ref_0]
      simp only [Option.bind_some, ↓reduceIte]
      rw [if_pos (inb_nI hi (by decide)), nI_clamp (by omega), e2]; rfl
  · rw [if_neg c1, if_neg c2, if_neg c3, if_neg c4] at bad2 hT; exact bad2 rfl hT
theorem st_at (zx_nodeBits : Int32) (zx_lineBits : Int32) (zx_lessEnd : Nat → Int32) (zx_moreEnd : Nat → Int32) (zx_web_near : Nat → Int32) (zx_planeTest_backLines : Int32) (zx_planeTest_clash : Int32) (zx_planeTest_depthOf : Nat → Int32) (zx_planeTest_endingAt : Nat → Int32) (zx_planeTest_returns : Nat → Int32) (zx_planeTest_highest : Nat → Int32) (zx_planeTest_alike : Nat → Int32) (zx_planeTest_opposed : Nat → Int32) (zx_palette_there : Int32) (zx_palette_allowed : Int32) (zx_palette_shades : Nat → Int32) (zx_desk_xs : Nat → Int32) (zx_desk_ys : Nat → Int32) (zm_thrown : Int32) (zm_many : Int32) (zm_there : Nat → Int32) (zm_ones : Nat → Int32) (zm_others : Nat → Int32) (zm_xs : Nat → Int32) (zm_ys : Nat → Int32) (zm_a : Nat → Int32) (zm_b : Nat → Int32) (zm_from : Nat → Int32) (zm_to : Nat → Int32) (zm_way : Nat → Int32) (zm_depth : Nat → Int32) (zm_above : Nat → Int32) (zm_pile : Nat → Int32) (zm_next : Nat → Int32) (zm_leader : Nat → Int32) (zm_turned : Nat → Int32) (zm_piece : Nat → Int32) (zm_numbers : Nat → Int32) (zm_row : Nat → Int32) (zb : Nat → Int64) (p0 p1 : Int32) (hv : Inv zx_nodeBits zx_lineBits zx_lessEnd zx_moreEnd zx_desk_xs zx_desk_ys zm_there zm_ones zm_others zm_xs zm_ys zm_from zm_to zx_planeTest_highest) : ∃ Rx, F_atW zx_desk_xs zx_desk_ys zb p0 p1 = some Rx ∧ ∃ Rm, F_atM zm_xs zm_ys p0 p1 = some Rm ∧ (Rm.2 = Rx.1) ∧ (Rx.1 = 0 → Rx.2 0 = Int32.toInt64 Rm.1) ∧ Inv zx_nodeBits zx_lineBits zx_lessEnd zx_moreEnd zx_desk_xs zx_desk_ys zm_there zm_ones zm_others zm_xs zm_ys zm_from zm_to zx_planeTest_highest := by
  obtain ⟨h1, h2, h3, h4, h5, h6, h7, h8, h9⟩ := id hv
  have tag : ∀ a : Int32, ¬ a = 0 → ¬ a = 1 → (if a < 0 then (1 : Int32) else if a ≤ 1 then 0 else 1) = 1 := by
    intro p1 w0 w1
    by_cases c0 : p1 < 0
    · rw [if_pos c0]
    · rw [if_neg c0, if_neg]
      rw [Int32.lt_iff_toInt_lt] at c0
      rw [Int32.le_iff_toInt_le]
      have e0 : p1.toInt ≠ (0 : Int32).toInt := fun e => w0 (Int32.toInt_inj.mp e)
      have e1 : p1.toInt ≠ (1 : Int32).toInt := fun e => w1 (Int32.toInt_inj.mp e)
      have t0 : (0 : Int32).toInt = 0 := by decide
      have t1 : (1 : Int32).toInt = 1 := by decide
      rw [t0] at c0 e0
      rw [t1] at e1 ⊢
      omega
  rcases isNN_cases p0 with h | ⟨i, hi, rfl⟩
  · refine ⟨(1, zb), ?_, (0, 1), ?_, rfl, fun q => (by first | exact (n10 q).elim | exact (n20 q).elim | exact (n30 q).elim), hv⟩
    · unfold F_atW F_atT
      rw [if_pos h]; rfl
    · unfold F_atM
      rw [if_pos h]
      simp only [Option.bind_some, n10, ↓reduceIte]
      rw [ref_1]; rfl
  have hnn : ¬ f_isNN (nI i) = 0 := by rw [isNN_1_ i hi]; decide
  by_cases w0 : p1 = 0
  · subst w0
    refine ⟨(0, vp_updL zb 0 (Int32.toInt64 (zx_desk_xs i))), ?_, (zm_xs i, 0), ?_, rfl, fun _ => ?_, hv⟩
    · unfold F_atW F_atT F_acrossG
      rw [if_neg hnn, if_pos (inb_nI hi (by decide)), nI_clamp (by omega)]; rfl
    · unfold F_atM
      rw [if_neg hnn, wh0]
      dsimp only
      rw [ref_0]
      simp only [Option.bind_some, n10, ↓reduceIte, inb_nI hi (show 10 < 2 ^ 31 by decide), nI_clamp (show i < 2 ^ 31 by omega)]
    · exact out_eq (f := zb) ((dxy hv).1 i hi)
  by_cases w1 : p1 = 1
  · subst w1
    refine ⟨(0, vp_updL zb 0 (Int32.toInt64 (zx_desk_ys i))), ?_, (zm_ys i, 0), ?_, rfl, fun _ => ?_, hv⟩
    · unfold F_atW F_atT F_upwardG
      rw [if_neg hnn, if_pos (inb_nI hi (by decide)), nI_clamp (by omega)]; rfl
    · unfold F_atM
      rw [if_neg hnn, wh1]
      dsimp only
      rw [ref_0]
      simp only [Option.bind_some, n10, ↓reduceIte, inb_nI hi (show 10 < 2 ^ 31 by decide), nI_clamp (show i < 2 ^ 31 by omega)]
    · exact out_eq (f := zb) ((dxy hv).2 i hi)
  · refine ⟨(1, zb), ?_, (0, 1), ?_, rfl, fun q => (by first | exact (n10 q).elim | exact (n20 q).elim | exact (n30 q).elim), hv⟩
    · unfold F_atW F_atT
      rw [if_neg hnn, if_neg w0, if_neg w1]; rfl
    · unfold F_atM
      rw [if_neg hnn, tag p1 w0 w1]
      simp only [Option.bind_some, n10, ↓reduceIte]
      rw [ref_1]; rfl
