theorem st_meets (zx_nodeBits : Int32) (zx_lineBits : Int32) (zx_lessEnd : Nat → Int32) (zx_moreEnd : Nat → Int32) (zx_web_near : Nat → Int32) (zx_planeTest_backLines : Int32) (zx_planeTest_clash : Int32) (zx_planeTest_depthOf : Nat → Int32) (zx_planeTest_endingAt : Nat → Int32) (zx_planeTest_returns : Nat → Int32) (zx_planeTest_highest : Nat → Int32) (zx_planeTest_alike : Nat → Int32) (zx_planeTest_opposed : Nat → Int32) (zx_palette_there : Int32) (zx_palette_allowed : Int32) (zx_palette_shades : Nat → Int32) (zx_desk_xs : Nat → Int32) (zx_desk_ys : Nat → Int32) (zm_thrown : Int32) (zm_many : Int32) (zm_there : Nat → Int32) (zm_ones : Nat → Int32) (zm_others : Nat → Int32) (zm_xs : Nat → Int32) (zm_ys : Nat → Int32) (zm_a : Nat → Int32) (zm_b : Nat → Int32) (zm_from : Nat → Int32) (zm_to : Nat → Int32) (zm_way : Nat → Int32) (zm_depth : Nat → Int32) (zm_above : Nat → Int32) (zm_pile : Nat → Int32) (zm_next : Nat → Int32) (zm_leader : Nat → Int32) (zm_turned : Nat → Int32) (zm_piece : Nat → Int32) (zm_numbers : Nat → Int32) (zm_row : Nat → Int32) (zb : Nat → Int64) (p0 p1 : Int32) (hv : Inv zx_nodeBits zx_lineBits zx_lessEnd zx_moreEnd zx_desk_xs zx_desk_ys zm_there zm_ones zm_others zm_xs zm_ys zm_from zm_to zx_planeTest_highest) : ∃ Rx, F_meetsW zx_lineBits zx_lessEnd zx_moreEnd zx_desk_xs zx_desk_ys zb p0 p1 = some Rx ∧ ∃ Rm, F_meetsM zm_ones zm_others zm_xs zm_ys p0 p1 = some Rm ∧ (Rm.2 = Rx.1) ∧ (Rx.1 = 0 → Rx.2 0 = if Rm.1 = 0 then 0 else 1) ∧ Inv zx_nodeBits zx_lineBits zx_lessEnd zx_moreEnd zx_desk_xs zx_desk_ys zm_there zm_ones zm_others zm_xs zm_ys zm_from zm_to zx_planeTest_highest := by
  obtain ⟨h1, h2, h3, h4, h5, h6, h7, h8, h9⟩ := id hv
  have hM : F_meetsM zm_ones zm_others zm_xs zm_ys p0 p1 = ((F_refusedM (if f_lit zx_lineBits p0 = 0 then 1 else if f_lit zx_lineBits p1 = 0 then 1 else 0) (if p0 = p1 then 1 else 0) 0).bind (fun p_33 => (if p_33.1 = 0 then ((F_meetNowM zm_ones zm_others zm_xs zm_ys p0 p1).bind (fun p_42 => (if p_42 = 0 then some ((0 : Int32), p_33.2) else some ((1 : Int32), p_33.2)))) else some ((0 : Int32), p_33.2)))) := by
    unfold F_meetsM
    rw [inv_isLine hv, inv_isLine hv, Option.bind_some]
    by_cases c : f_lit zx_lineBits p0 = 0
    · (first | rw [if_pos c, if_pos c] | rw [if_pos c]); rfl
    · rw [if_neg c, if_neg c, Option.bind_some]
      by_cases d : f_lit zx_lineBits p1 = 0
      · (first | rw [if_pos d, if_pos d] | rw [if_pos d]); rfl
      · (first | rw [if_neg d, if_neg d] | rw [if_neg d]); rfl
  have bad : f_lit zx_lineBits p0 = 0 ∨ f_lit zx_lineBits p1 = 0 → F_meetsM zm_ones zm_others zm_xs zm_ys p0 p1 = some (0, 1) ∧ F_meetsW zx_lineBits zx_lessEnd zx_moreEnd zx_desk_xs zx_desk_ys zb p0 p1 = some (1, zb) := by
    intro hc
    have e : (if f_lit zx_lineBits p0 = 0 then (1 : Int32) else if f_lit zx_lineBits p1 = 0 then 1 else 0) = 1 := by
      by_cases c : f_lit zx_lineBits p0 = 0
      · rw [if_pos c]
      · rw [if_neg c, if_pos (hc.resolve_left c)]
    refine ⟨by rw [hM, e, ref_1]; rfl, ?_⟩
    unfold F_meetsW F_meetsT
    by_cases c : f_lit zx_lineBits p0 = 0
    · rw [if_pos c]; rfl
    · rw [if_neg c, if_pos (hc.resolve_left c)]; rfl
  rcases lit_cases zx_lineBits p0 with ⟨e0, _⟩ | ⟨l, hl, rfl, hbl, e0⟩
  · exact ⟨_, (bad (Or.inl e0)).2, _, (bad (Or.inl e0)).1, rfl, fun q => (by first | exact (n10 q).elim | exact (n20 q).elim | exact (n30 q).elim), hv⟩
  rcases lit_cases zx_lineBits p1 with ⟨e1, _⟩ | ⟨m, hm, rfl, hbm, e1⟩
  · exact ⟨_, (bad (Or.inr e1)).2, _, (bad (Or.inr e1)).1, rfl, fun q => (by first | exact (n10 q).elim | exact (n20 q).elim | exact (n30 q).elim), hv⟩
  rw [e0, e1, if_neg (by decide), if_neg (by decide)] at hM
  by_cases hlm : nI l = nI m
  · rw [if_pos hlm, ref_2] at hM
    refine ⟨(2, zb), ?_, _, hM, rfl, fun q => (by first | exact (n10 q).elim | exact (n20 q).elim | exact (n30 q).elim), hv⟩
    unfold F_meetsW F_meetsT
    rw [e0, e1, if_neg (by decide), if_neg (by decide), if_pos hlm]; rfl
  · rw [if_neg hlm, ref_0] at hM
    obtain ⟨r, hz, g1, g2⟩ := meet_both (GI_of hv) hl hm hbl hbm
    rw [← eq_meetW (dxy hv).1 (dxy hv).2] at g1
    rw [g2] at hM
    have hW : F_meetsT zx_lineBits zx_lessEnd zx_moreEnd zx_desk_xs zx_desk_ys (nI l) (nI m) = some (0, r) := by
      unfold F_meetsT
      rw [e0, e1, if_neg (by decide), if_neg (by decide), if_neg hlm, g1]; rfl
    rcases hz with rfl | rfl
    · refine ⟨(0, vp_updL zb 0 0), ?_, (0, 0), hM, rfl, fun _ => rfl, hv⟩
      unfold F_meetsW
      rw [hW]; rfl
    · refine ⟨(0, vp_updL zb 0 1), ?_, (1, 0), hM, rfl, fun _ => rfl, hv⟩
      unfold F_meetsW
      rw [hW]; rfl
def LW (nb lb : Int32) (on ot x y : Nat → Int32) (i : Nat) : Prop := (∃ j, j < 10 ∧ j ≠ i ∧ bit nb j = true ∧ x i = x j ∧ y i = y j) ∨ ∃ l, l < 24 ∧ bit lb l = true ∧ on l ≠ nI i ∧ ot l ≠ nI i ∧ F_isOnM x y (on l) (ot l) (nI i) = some 1
theorem on01 (x y : Nat → Int32) {i a b : Nat} (hi : i < 10) (ha : a < 10) (hb : b < 10) : ∃ r, z01 r ∧ F_liesOnG x y (nI i) (nI a) (nI b) = some r ∧ F_isOnM x y (nI a) (nI b) (nI i) = some r := by
  refine ⟨_, ?_, liesOn_eq x y hi ha hb, isOn_eq x y hi ha hb⟩
  split
  · exact Or.inr rfl
  · exact Or.inl rfl
theorem lwG46_L {lb : Int32} {le mo on ot x y : Nat → Int32} (h : GI lb le mo on ot x y) {i : Nat} (hi : i < 10) : ∀ (n k : Nat), k + n = 24 → ∃ r, F_liesWronglyG_L46 (fun _ => some 0) lb le mo x y (nI i) n k = some r ∧ z01 r ∧ (r = 1 ↔ ∃ l, k ≤ l ∧ l < 24 ∧ bit lb l = true ∧ on l ≠ nI i ∧ ot l ≠ nI i ∧ F_isOnM x y (on l) (ot l) (nI i) = some 1)
  | 0, k, hk => ⟨0, by rw [F_liesWronglyG_L46], Or.inl rfl, by
      constructor
      · intro h; exact absurd h (by decide)
      · rintro ⟨l, h1, h2, _⟩; omega⟩
  | n + 1, k, hk => by
    obtain ⟨r, e, hz, hr⟩ := lwG46_L h hi n (k + 1) (by omega)
    have step : ¬ (bit lb k = true ∧ on k ≠ nI i ∧ ot k ≠ nI i ∧ F_isOnM x y (on k) (ot k) (nI i) = some 1) → (r = 1 ↔ ∃ l, k ≤ l ∧ l < 24 ∧ bit lb l = true ∧ on l ≠ nI i ∧ ot l ≠ nI i ∧ F_isOnM x y (on l) (ot l) (nI i) = some 1) := by
      intro hn
      rw [hr]
      constructor
      · rintro ⟨l, h1, h2, h3⟩; exact ⟨l, by omega, h2, h3⟩
      · rintro ⟨l, h1, h2, h3⟩
        refine ⟨l, ?_, h2, h3⟩
        by_cases c : l = k
        · rw [c] at h3; exact absurd h3 hn
        · omega
    rw [F_liesWronglyG_L46]
    cases hb : bit lb k with
    | false =>
      rw [if_pos ((has0_iff (by omega)).mpr hb)]
      exact ⟨r, e, hz, step (fun h9 => by rw [hb] at h9; exact absurd h9.1 (by decide))⟩
    | true =>
      rw [if_neg (has_no (by omega) hb), isEnd_eq (by omega), Option.bind_some]
      obtain ⟨a, b, q1, q2, q3, q4, q5, q6⟩ := h.2.2.2 k (by omega) hb
      by_cases c : le k = nI i ∨ mo k = nI i
      · rw [if_pos c, if_neg (by decide)]
        refine ⟨r, e, hz, step (fun h9 => ?_)⟩
        rw [q3, q4, ← q5, ← q6] at c
        exact c.elim h9.2.1 h9.2.2.1
      · rw [if_neg c, if_pos rfl, q3, q4]
        obtain ⟨s, hs, g1, g2⟩ := on01 x y hi (show a < 10 by omega) q2
        rw [g1, Option.bind_some]
        rcases hs with rfl | rfl
        · rw [if_pos rfl]
          refine ⟨r, e, hz, step (fun h9 => ?_)⟩
          have := h9.2.2.2
          rw [q5, q6, g2] at this
          exact absurd this (by decide)
        · rw [if_neg (by decide)]
          refine ⟨1, rfl, Or.inr rfl, fun _ => ⟨k, Nat.le_refl _, by omega, hb, ?_, ?_, by rw [q5, q6]; exact g2⟩, fun _ => rfl⟩
          · rw [q5, ← q3]; exact fun h9 => c (Or.inl h9)
          · rw [q6, ← q4]; exact fun h9 => c (Or.inr h9)
theorem same_eq (x y : Nat → Int32) {i j : Nat} (hi : i < 10) (hj : j < 10) : F_samePlaceG x y (nI i) (nI j) = some (if x i = x j ∧ y i = y j then 1 else 0) := by
  unfold F_samePlaceG
  rw [if_pos (inb_nI hi (by decide)), if_pos (inb_nI hj (by decide)), nI_clamp (by omega), nI_clamp (by omega)]
  by_cases c : x i = x j
  · rw [if_pos c]
    by_cases d : y i = y j
    · rw [if_pos d, if_pos ⟨c, d⟩]
    · rw [if_neg d, if_neg (fun h => d h.2)]
  · rw [if_neg c, if_neg (fun h => c h.1)]
theorem lwG2_L {K : Unit → Option Int32} {nb : Int32} {x y : Nat → Int32} {i : Nat} (hi : i < 10) {s : Int32} (hK : K () = some s) (hs : z01 s) : ∀ (n k : Nat), k + n = 10 → ∃ r, F_liesWronglyG_L2 K nb x y (nI i) n k = some r ∧ z01 r ∧ (r = 1 ↔ (∃ j, k ≤ j ∧ j < 10 ∧ j ≠ i ∧ bit nb j = true ∧ x i = x j ∧ y i = y j) ∨ s = 1)
  | 0, k, hk => ⟨s, by rw [F_liesWronglyG_L2]; exact hK, hs, by
      constructor
      · intro h; exact Or.inr h
      · rintro (⟨j, h1, h2, _⟩ | h)
        · omega
        · exact h⟩
  | n + 1, k, hk => by
    obtain ⟨r, e, hz, hr⟩ := lwG2_L (x := x) (y := y) (nb := nb) hi hK hs n (k + 1) (by omega)
    have step : ¬ (k ≠ i ∧ bit nb k = true ∧ x i = x k ∧ y i = y k) → (r = 1 ↔ (∃ j, k ≤ j ∧ j < 10 ∧ j ≠ i ∧ bit nb j = true ∧ x i = x j ∧ y i = y j) ∨ s = 1) := by
      intro hn
      rw [hr]
      constructor
      · rintro (⟨l, h1, h2, h3⟩ | h)
        · exact Or.inl ⟨l, by omega, h2, h3⟩
        · exact Or.inr h
      · rintro (⟨l, h1, h2, h3⟩ | h)
        · refine Or.inl ⟨l, ?_, h2, h3⟩
          by_cases c : l = k
          · rw [c] at h3; exact absurd h3 hn
          · omega
        · exact Or.inr h
    rw [F_liesWronglyG_L2]
    by_cases c : nI k = nI i
    · rw [if_pos c]
      rw [nI_eq_iff (by omega) (by omega)] at c
      exact ⟨r, e, hz, step (fun h9 => h9.1 c)⟩
    · rw [if_neg c]
      cases hb : bit nb k with
      | false =>
        rw [if_pos ((has0_iff (by omega)).mpr hb)]
        exact ⟨r, e, hz, step (fun h9 => by rw [hb] at h9; exact absurd h9.2.1 (by decide))⟩
      | true =>
        rw [if_neg (has_no (by omega) hb), same_eq x y hi (by omega), Option.bind_some]
        by_cases d : x i = x k ∧ y i = y k
        · rw [if_pos d, if_neg (by decide)]
          refine ⟨1, rfl, Or.inr rfl, fun _ => Or.inl ⟨k, Nat.le_refl _, by omega, fun h9 => c (by rw [h9]), hb, d⟩, fun _ => rfl⟩
        · rw [if_neg d, if_pos rfl]
          exact ⟨r, e, hz, step (fun h9 => d h9.2.2)⟩
theorem lwG_eq {nb lb : Int32} {le mo on ot x y : Nat → Int32} (h : GI lb le mo on ot x y) {i : Nat} (hi : i < 10) : ∃ r, F_liesWronglyG nb lb le mo x y (nI i) = some r ∧ z01 r ∧ (r = 1 ↔ LW nb lb on ot x y i) := by
  obtain ⟨s, e, hs, hr⟩ := lwG46_L h hi 24 0 rfl
  obtain ⟨r, e2, hz, hr2⟩ := lwG2_L (K := fun _ => F_liesWronglyG_L46 (fun _ => some 0) lb le mo x y (nI i) 24 0) (nb := nb) (x := x) (y := y) hi e hs 10 0 rfl
  refine ⟨r, e2, hz, ?_⟩
  rw [hr2, hr]
  unfold LW
  constructor
  · rintro (⟨j, _, h2⟩ | ⟨l, _, h2⟩)
    · exact Or.inl ⟨j, h2⟩
    · exact Or.inr ⟨l, h2⟩
  · rintro (⟨j, h2⟩ | ⟨l, h2⟩)
    · exact Or.inl ⟨j, Nat.zero_le _, h2⟩
    · exact Or.inr ⟨l, Nat.zero_le _, h2⟩
theorem lwM4_L {K : Int32 → Option Int32} {lb : Int32} {le mo on ot x y : Nat → Int32} (h : GI lb le mo on ot x y) {i : Nat} (hi : i < 10) : ∀ (n k : Nat) (v : Int32), k + n = 24 → z01 v → ∃ r, F_liesWronglyM_L4 K on ot x y (nI i) n k v = K r ∧ z01 r ∧ (r = 1 ↔ v = 1 ∨ ∃ l, k ≤ l ∧ l < 24 ∧ bit lb l = true ∧ on l ≠ nI i ∧ ot l ≠ nI i ∧ F_isOnM x y (on l) (ot l) (nI i) = some 1)
  | 0, k, v, hk, hv => ⟨v, by rw [F_liesWronglyM_L4], hv, by
      constructor
      · intro h; exact Or.inl h
      · rintro (h | ⟨l, h1, h2, _⟩)
        · exact h
        · omega⟩
  | n + 1, k, v, hk, hv => by
    have go : ∀ v', z01 v' → (v' = 1 ↔ v = 1 ∨ (bit lb k = true ∧ on k ≠ nI i ∧ ot k ≠ nI i ∧ F_isOnM x y (on k) (ot k) (nI i) = some 1)) → ∃ r, F_liesWronglyM_L4 K on ot x y (nI i) n (k + 1) v' = K r ∧ z01 r ∧ (r = 1 ↔ v = 1 ∨ ∃ l, k ≤ l ∧ l < 24 ∧ bit lb l = true ∧ on l ≠ nI i ∧ ot l ≠ nI i ∧ F_isOnM x y (on l) (ot l) (nI i) = some 1) := by
      intro v' hv' hq
      obtain ⟨r, e, hz, hr⟩ := lwM4_L (K := K) h hi n (k + 1) v' (by omega) hv'
      refine ⟨r, e, hz, ?_⟩
      rw [hr, hq]
      constructor
      · rintro ((h | h) | ⟨l, h1, h2, h3⟩)
        · exact Or.inl h
        · exact Or.inr ⟨k, Nat.le_refl _, by omega, h⟩
        · exact Or.inr ⟨l, by omega, h2, h3⟩
      · rintro (h | ⟨l, h1, h2, h3⟩)
        · exact Or.inl (Or.inl h)
        · by_cases c : l = k
          · rw [c] at h3; exact Or.inl (Or.inr h3)
          · exact Or.inr ⟨l, by omega, h2, h3⟩
    rw [F_liesWronglyM_L4]
    rcases hv with rfl | rfl
    · rw [if_pos rfl]
      cases hb : bit lb k with
      | false =>
        rw [if_pos ((h.2.2.1 k (by omega)).mpr hb)]
        exact go 0 (Or.inl rfl) ⟨fun h9 => absurd h9 (by decide), fun h9 => h9.elim id (fun h8 => by rw [hb] at h8; exact absurd h8.1 (by decide))⟩
      | true =>
        rw [if_neg (iff_no (h.2.2.1 k (by omega)) hb)]
        obtain ⟨a, b, q1, q2, q3, q4, q5, q6⟩ := h.2.2.2 k (by omega) hb
        by_cases c : on k = nI i
        · rw [if_pos c]
          exact go 0 (Or.inl rfl) ⟨fun h9 => absurd h9 (by decide), fun h9 => h9.elim id (fun h8 => absurd c h8.2.1)⟩
        · rw [if_neg c]
          by_cases d : ot k = nI i
          · rw [if_pos d]
            exact go 0 (Or.inl rfl) ⟨fun h9 => absurd h9 (by decide), fun h9 => h9.elim id (fun h8 => absurd d h8.2.2.1)⟩
          · rw [if_neg d]
            obtain ⟨s, hs, g1, g2⟩ := on01 x y hi (show a < 10 by omega) q2
            rw [← q5, ← q6] at g2
            rw [g2, Option.bind_some]
            rcases hs with rfl | rfl
            · rw [if_pos rfl]
              exact go 0 (Or.inl rfl) ⟨fun h9 => absurd h9 (by decide), fun h9 => h9.elim id (fun h8 => by rw [g2] at h8; exact absurd h8.2.2.2 (by decide))⟩
            · rw [if_neg (by decide)]
              exact go 1 (Or.inr rfl) ⟨fun _ => Or.inr ⟨hb, c, d, g2⟩, fun _ => rfl⟩
    · rw [if_neg (by decide)]
      exact go 1 (Or.inr rfl) ⟨fun _ => Or.inl rfl, fun _ => rfl⟩
theorem lwM77_L {K : Int32 → Option Int32} {nb : Int32} {mt x y : Nat → Int32} (hm : ∀ i, i < 10 → mt i = if bit nb i = true then 1 else 0) {i : Nat} (hi : i < 10) : ∀ (n k : Nat) (v : Int32), k + n = 10 → z01 v → ∃ r, F_liesWronglyM_L77 K mt x y (nI i) n k v = K r ∧ z01 r ∧ (r = 1 ↔ v = 1 ∨ ∃ j, k ≤ j ∧ j < 10 ∧ j ≠ i ∧ bit nb j = true ∧ x i = x j ∧ y i = y j)
  | 0, k, v, hk, hv => ⟨v, by rw [F_liesWronglyM_L77], hv, by
      constructor
      · intro h; exact Or.inl h
      · rintro (h | ⟨l, h1, h2, _⟩)
        · exact h
        · omega⟩
  | n + 1, k, v, hk, hv => by
    have go : ∀ v', z01 v' → (v' = 1 ↔ v = 1 ∨ (k ≠ i ∧ bit nb k = true ∧ x i = x k ∧ y i = y k)) → ∃ r, F_liesWronglyM_L77 K mt x y (nI i) n (k + 1) v' = K r ∧ z01 r ∧ (r = 1 ↔ v = 1 ∨ ∃ j, k ≤ j ∧ j < 10 ∧ j ≠ i ∧ bit nb j = true ∧ x i = x j ∧ y i = y j) := by
      intro v' hv' hq
      obtain ⟨r, e, hz, hr⟩ := lwM77_L (K := K) (x := x) (y := y) hm hi n (k + 1) v' (by omega) hv'
      refine ⟨r, e, hz, ?_⟩
      rw [hr, hq]
      constructor
      · rintro ((h | h) | ⟨l, h1, h2, h3⟩)
        · exact Or.inl h
        · exact Or.inr ⟨k, Nat.le_refl _, by omega, h⟩
        · exact Or.inr ⟨l, by omega, h2, h3⟩
      · rintro (h | ⟨l, h1, h2, h3⟩)
        · exact Or.inl (Or.inl h)
        · by_cases c : l = k
          · rw [c] at h3; exact Or.inl (Or.inr h3)
          · exact Or.inr ⟨l, by omega, h2, h3⟩
    rw [F_liesWronglyM_L77]
    rcases hv with rfl | rfl
    · rw [if_pos rfl]
      by_cases c : nI k = nI i
      · rw [if_pos c]
        rw [nI_eq_iff (by omega) (by omega)] at c
        exact go 0 (Or.inl rfl) ⟨fun h9 => absurd h9 (by decide), fun h9 => h9.elim id (fun h8 => absurd c h8.1)⟩
      · rw [if_neg c, hm k (by omega)]
        cases hb : bit nb k with
        | false =>
          rw [if_neg (by decide : ¬ false = true), if_pos rfl]
          exact go 0 (Or.inl rfl) ⟨fun h9 => absurd h9 (by decide), fun h9 => h9.elim id (fun h8 => by rw [hb] at h8; exact absurd h8.2.1 (by decide))⟩
        | true =>
          rw [if_pos rfl, if_neg (by decide), if_pos (inb_nI hi (by decide)), nI_clamp (by omega)]
          by_cases d : x k = x i
          · rw [if_pos d]
            by_cases f : y k = y i
            · rw [if_pos f]
              exact go 1 (Or.inr rfl) ⟨fun _ => Or.inr ⟨fun h9 => c (by rw [h9]), hb, d.symm, f.symm⟩, fun _ => rfl⟩
            · rw [if_neg f]
              exact go 0 (Or.inl rfl) ⟨fun h9 => absurd h9 (by decide), fun h9 => h9.elim id (fun h8 => absurd h8.2.2.2.symm f)⟩
          · rw [if_neg d]
            exact go 0 (Or.inl rfl) ⟨fun h9 => absurd h9 (by decide), fun h9 => h9.elim id (fun h8 => absurd h8.2.2.1.symm d)⟩
    · rw [if_neg (by decide)]
      exact go 1 (Or.inr rfl) ⟨fun _ => Or.inl rfl, fun _ => rfl⟩
theorem lwM_eq {nb lb : Int32} {le mo mt on ot x y : Nat → Int32} (h : GI lb le mo on ot x y) (hm : ∀ i, i < 10 → mt i = if bit nb i = true then 1 else 0) {i : Nat} (hi : i < 10) : ∃ r, F_liesWronglyM mt on ot x y (nI i) = some r ∧ z01 r ∧ (r = 1 ↔ LW nb lb on ot x y i) := by
  unfold F_liesWronglyM
  obtain ⟨s, e, hs, hr⟩ := lwM4_L (K := fun v2_4 => (F_liesWronglyM_L77 (fun v2_77 => (if is01 v2_77 = true then some (v2_77) else none)) mt x y (nI i) 10 0 v2_4)) h hi 24 0 0 rfl (Or.inl rfl)
  obtain ⟨r, e2, hz, hr2⟩ := lwM77_L (K := fun v2_77 => (if is01 v2_77 = true then some (v2_77) else none)) (x := x) (y := y) hm hi 10 0 s rfl hs
  refine ⟨r, by rw [e, e2, if_pos (is01_of hz)], hz, ?_⟩
  rw [hr2, hr]
  unfold LW
  constructor
  · rintro ((h | ⟨l, _, h2⟩) | ⟨j, _, h2⟩)
    · exact absurd h (by decide)
    · exact Or.inr ⟨l, h2⟩
    · exact Or.inl ⟨j, h2⟩
  · rintro (⟨j, h2⟩ | ⟨l, h2⟩)
    · exact Or.inr ⟨j, Nat.zero_le _, h2⟩
    · exact Or.inl (Or.inr ⟨l, Nat.zero_le _, h2⟩)
theorem eq_lw46 {K : Unit → Option Int32} {lb : Int32} {le mo x y x' y' : Nat → Int32} (hx : ∀ i, i < 10 → x i = x' i) (hy : ∀ i, i < 10 → y i = y' i) (v : Int32) : ∀ (n k : Nat), F_liesWronglyG_L46 K lb le mo x y v n k = F_liesWronglyG_L46 K lb le mo x' y' v n k
  | 0, k => by rw [F_liesWronglyG_L46, F_liesWronglyG_L46]
  | n + 1, k => by
    rw [F_liesWronglyG_L46, F_liesWronglyG_L46, eq_liesOn hx hy, eq_lw46 hx hy v n (k + 1)]
theorem eq_same {x y x' y' : Nat → Int32} (hx : ∀ i, i < 10 → x i = x' i) (hy : ∀ i, i < 10 → y i = y' i) (a b : Int32) : F_samePlaceG x y a b = F_samePlaceG x' y' a b := by
  unfold F_samePlaceG
  by_cases h1 : inb a 10 = true
  · by_cases h2 : inb b 10 = true
    · obtain ⟨i, hi, rfl⟩ := inb_cases (by decide) h1
      obtain ⟨j, hj, rfl⟩ := inb_cases (by decide) h2
      rw [nI_clamp (by omega), nI_clamp (by omega), hx i hi, hx j hj, hy i hi, hy j hj]
    · simp only [if_pos h1, if_neg h2]
  · simp only [if_neg h1]
theorem eq_lw2 {K : Unit → Option Int32} {nb : Int32} {x y x' y' : Nat → Int32} (hx : ∀ i, i < 10 → x i = x' i) (hy : ∀ i, i < 10 → y i = y' i) (v : Int32) : ∀ (n k : Nat), F_liesWronglyG_L2 K nb x y v n k = F_liesWronglyG_L2 K nb x' y' v n k
  | 0, k => by rw [F_liesWronglyG_L2, F_liesWronglyG_L2]
  | n + 1, k => by
    rw [F_liesWronglyG_L2, F_liesWronglyG_L2, eq_same hx hy, eq_lw2 hx hy v n (k + 1)]
theorem eq_lw {nb lb : Int32} {le mo x y x' y' : Nat → Int32} (hx : ∀ i, i < 10 → x i = x' i) (hy : ∀ i, i < 10 → y i = y' i) (v : Int32) : F_liesWronglyG nb lb le mo x y v = F_liesWronglyG nb lb le mo x' y' v := by
  unfold F_liesWronglyG
  rw [eq_lw2 hx hy]
  simp only [eq_lw46 hx hy]
theorem eq_wrong {K : Int32 → Option Int32} {nb lb : Int32} {le mo x y x' y' : Nat → Int32} (hx : ∀ i, i < 10 → x i = x' i) (hy : ∀ i, i < 10 → y i = y' i) : ∀ (n k : Nat) (v : Int32), F_wrongG_L4 K nb lb le mo x y n k v = F_wrongG_L4 K nb lb le mo x' y' n k v
  | 0, k, v => by rw [F_wrongG_L4, F_wrongG_L4]
  | n + 1, k, v => by
    rw [F_wrongG_L4, F_wrongG_L4, eq_lw hx hy]
    simp only [eq_wrong hx hy n (k + 1)]
theorem wrong_L {K K' : Int32 → Option Int32} {nb lb : Int32} {le mo mt on ot x y : Nat → Int32} (h : GI lb le mo on ot x y) (hm : ∀ i, i < 10 → mt i = if bit nb i = true then 1 else 0) : ∀ (n k : Nat) (v : Int32), k + n = 10 → ∃ r, F_wrongG_L4 K nb lb le mo x y n k v = K r ∧ F_wrongNodesM_L4 K' mt on ot x y n k v = K' r
  | 0, k, v, _ => ⟨v, by rw [F_wrongG_L4], by rw [F_wrongNodesM_L4]⟩
  | n + 1, k, v, hk => by
    have ih := fun v => wrong_L (K := K) (K' := K') h hm n (k + 1) v (by omega)
    rw [F_wrongG_L4, F_wrongNodesM_L4, hm k (by omega)]
    cases hb : bit nb k with
    | false =>
      rw [if_pos ((has0_iff (by omega)).mpr hb), if_neg (by decide : ¬ false = true), if_pos rfl]
      exact ih v
    | true =>
      rw [if_neg (has_no (by omega) hb), if_pos rfl, if_neg (by decide)]
      obtain ⟨r, e1, z1, w1⟩ := lwG_eq (nb := nb) h (show k < 10 by omega)
      obtain ⟨s, e2, z2, w2⟩ := lwM_eq h hm (show k < 10 by omega)
      have hrs : r = s := by
        have : r = 1 ↔ s = 1 := w1.trans w2.symm
        rcases z1 with rfl | rfl <;> rcases z2 with rfl | rfl
        · rfl
        · exact (this.mpr rfl)
        · exact (this.mp rfl).symm
        · rfl
      rw [e1, e2, hrs]
      simp only [Option.bind_some]
      by_cases c : s = 0
      · (first | rw [if_pos c, if_pos c] | rw [if_pos c]); exact ih v
      · (first | rw [if_neg c, if_neg c] | rw [if_neg c]); exact ih (v + 1)
theorem wrong_eq {nb lb : Int32} {le mo mt on ot x y : Nat → Int32} (h : GI lb le mo on ot x y) (hm : ∀ i, i < 10 → mt i = if bit nb i = true then 1 else 0) : ∃ r, F_wrongG nb lb le mo x y = some r ∧ F_wrongNodesM mt on ot x y = some r :=
  wrong_L (K := fun v => some v) (K' := fun v => some v) h hm 10 0 0 rfl
theorem eq_wr {nb lb : Int32} {le mo x y x' y' : Nat → Int32} (hx : ∀ i, i < 10 → x i = x' i) (hy : ∀ i, i < 10 → y i = y' i) : F_wrongG nb lb le mo x y = F_wrongG nb lb le mo x' y' := eq_wrong hx hy 10 0 0
theorem st_wrong (zx_nodeBits : Int32) (zx_lineBits : Int32) (zx_lessEnd : Nat → Int32) (zx_moreEnd : Nat → Int32) (zx_web_near : Nat → Int32) (zx_planeTest_backLines : Int32) (zx_planeTest_clash : Int32) (zx_planeTest_depthOf : Nat → Int32) (zx_planeTest_endingAt : Nat → Int32) (zx_planeTest_returns : Nat → Int32) (zx_planeTest_highest : Nat → Int32) (zx_planeTest_alike : Nat → Int32) (zx_planeTest_opposed : Nat → Int32) (zx_palette_there : Int32) (zx_palette_allowed : Int32) (zx_palette_shades : Nat → Int32) (zx_desk_xs : Nat → Int32) (zx_desk_ys : Nat → Int32) (zm_thrown : Int32) (zm_many : Int32) (zm_there : Nat → Int32) (zm_ones : Nat → Int32) (zm_others : Nat → Int32) (zm_xs : Nat → Int32) (zm_ys : Nat → Int32) (zm_a : Nat → Int32) (zm_b : Nat → Int32) (zm_from : Nat → Int32) (zm_to : Nat → Int32) (zm_way : Nat → Int32) (zm_depth : Nat → Int32) (zm_above : Nat → Int32) (zm_pile : Nat → Int32) (zm_next : Nat → Int32) (zm_leader : Nat → Int32) (zm_turned : Nat → Int32) (zm_piece : Nat → Int32) (zm_numbers : Nat → Int32) (zm_row : Nat → Int32) (zb : Nat → Int64) (hv : Inv zx_nodeBits zx_lineBits zx_lessEnd zx_moreEnd zx_desk_xs zx_desk_ys zm_there zm_ones zm_others zm_xs zm_ys zm_from zm_to zx_planeTest_highest) : ∃ Rx, F_wrongG zx_nodeBits zx_lineBits zx_lessEnd zx_moreEnd zx_desk_xs zx_desk_ys = some Rx ∧ ∃ Rm, F_wrongM zm_there zm_ones zm_others zm_xs zm_ys = some Rm ∧ (Rx = Rm.1) ∧ Inv zx_nodeBits zx_lineBits zx_lessEnd zx_moreEnd zx_desk_xs zx_desk_ys zm_there zm_ones zm_others zm_xs zm_ys zm_from zm_to zx_planeTest_highest := by
  obtain ⟨r, e1, e2⟩ := wrong_eq (GI_of hv) hv.2.2.1
  rw [← eq_wr (dxy hv).1 (dxy hv).2] at e1
  exact ⟨r, e1, (r, 0), by unfold F_wrongM; rw [e2]; rfl, rfl, hv⟩
theorem st_flat (zx_nodeBits : Int32) (zx_lineBits : Int32) (zx_lessEnd : Nat → Int32) (zx_moreEnd : Nat → Int32) (zx_web_near : Nat → Int32) (zx_planeTest_backLines : Int32) (zx_planeTest_clash : Int32) (zx_planeTest_depthOf : Nat → Int32) (zx_planeTest_endingAt : Nat → Int32) (zx_planeTest_returns : Nat → Int32) (zx_planeTest_highest : Nat → Int32) (zx_planeTest_alike : Nat → Int32) (zx_planeTest_opposed : Nat → Int32) (zx_palette_there : Int32) (zx_palette_allowed : Int32) (zx_palette_shades : Nat → Int32) (zx_desk_xs : Nat → Int32) (zx_desk_ys : Nat → Int32) (zm_thrown : Int32) (zm_many : Int32) (zm_there : Nat → Int32) (zm_ones : Nat → Int32) (zm_others : Nat → Int32) (zm_xs : Nat → Int32) (zm_ys : Nat → Int32) (zm_a : Nat → Int32) (zm_b : Nat → Int32) (zm_from : Nat → Int32) (zm_to : Nat → Int32) (zm_way : Nat → Int32) (zm_depth : Nat → Int32) (zm_above : Nat → Int32) (zm_pile : Nat → Int32) (zm_next : Nat → Int32) (zm_leader : Nat → Int32) (zm_turned : Nat → Int32) (zm_piece : Nat → Int32) (zm_numbers : Nat → Int32) (zm_row : Nat → Int32) (zb : Nat → Int64) (hv : Inv zx_nodeBits zx_lineBits zx_lessEnd zx_moreEnd zx_desk_xs zx_desk_ys zm_there zm_ones zm_others zm_xs zm_ys zm_from zm_to zx_planeTest_highest) : ∃ Rx, F_flatG zx_nodeBits zx_lineBits zx_lessEnd zx_moreEnd zx_desk_xs zx_desk_ys = some Rx ∧ ∃ Rm, F_flatM zm_there zm_ones zm_others zm_xs zm_ys = some Rm ∧ (Rx = Rm.1) ∧ Inv zx_nodeBits zx_lineBits zx_lessEnd zx_moreEnd zx_desk_xs zx_desk_ys zm_there zm_ones zm_others zm_xs zm_ys zm_from zm_to zx_planeTest_highest := by
  obtain ⟨r, e1, e2⟩ := wrong_eq (GI_of hv) hv.2.2.1
  rw [← eq_wr (dxy hv).1 (dxy hv).2] at e1
  obtain ⟨s, g1, g2⟩ := meets_eq (GI_of hv)
  rw [← eq_wm (dxy hv).1 (dxy hv).2] at g1
  unfold F_flatG F_flatM
  rw [e1, e2, g1, g2]
  simp only [Option.bind_some]
  by_cases c : s = 0
  · (first | rw [if_pos c, if_pos c] | rw [if_pos c])
    by_cases d : r = 0
    · (first | rw [if_pos d, if_pos d] | rw [if_pos d]); exact ⟨_, rfl, _, rfl, rfl, hv⟩
    · (first | rw [if_neg d, if_neg d] | rw [if_neg d]); exact ⟨_, rfl, _, rfl, rfl, hv⟩
  · (first | rw [if_neg c, if_neg c] | rw [if_neg c]); exact ⟨_, rfl, _, rfl, rfl, hv⟩
def BI (nb : Int32) (k : Nat) (a b c d a' b' c' d' : Int32) : Prop := (a = 30 ∧ b = 0 ∧ c = 30 ∧ d = 0 ∧ a' = 31 ∧ b' = -1 ∧ c' = 31 ∧ d' = -1 ∧ ∀ i, i < k → bit nb i = false) ∨ (a' = a ∧ b' = b ∧ c' = c ∧ d' = d ∧ (∃ i, i < k ∧ bit nb i = true) ∧ ∃ z : Nat, z ≤ 30 ∧ b = nI z)
theorem swap_lt {α : Type} (x a : Int32) (p q : α) : (if x < a then p else q) = (if a ≤ x then q else p) := by
  by_cases h : x < a
  · rw [if_pos h, if_neg (fun h2 => by rw [Int32.lt_iff_toInt_lt] at h; rw [Int32.le_iff_toInt_le] at h2; omega)]
  · rw [if_neg h, if_pos (by rw [Int32.lt_iff_toInt_lt] at h; rw [Int32.le_iff_toInt_le]; omega)]
theorem first30_ : ∀ z : Nat, z ≤ 30 → (if nI z < 30 then nI z else 30) = nI z ∧ (if (0 : Int32) < nI z then nI z else 0) = nI z ∧ (if (31 : Int32) ≤ nI z then 31 else nI z) = nI z ∧ (if nI z ≤ -1 then (-1 : Int32) else nI z) = nI z := by decide +kernel
theorem box_L {K : Int32 → Int32 → Int32 → Int32 → Option Int32} {K' : Int32 → Int32 → Int32 → Int32 → Option (Int32 × Int32)} {nb : Int32} {mt x y : Nat → Int32} (hx : PL x) (hy : PL y) (hm : ∀ i, i < 10 → mt i = if bit nb i = true then 1 else 0) : ∀ (n k : Nat) (a b c d a' b' c' d' : Int32), k + n = 10 → BI nb k a b c d a' b' c' d' →
    ∃ A B C D A' B' C' D', F_boxAreaG_L15 K x y nb n k a b c d = K A B C D ∧ F_boxM_L19 K' mt x y n k a' b' c' d' = K' A' B' C' D' ∧ BI nb 10 A B C D A' B' C' D'
  | 0, k, a, b, c, d, a', b', c', d', hk, h => ⟨a, b, c, d, a', b', c', d', by rw [F_boxAreaG_L15], by rw [F_boxM_L19], by rw [show 10 = k by omega]; exact h⟩
  | n + 1, k, a, b, c, d, a', b', c', d', hk, h => by
    rw [F_boxAreaG_L15, F_boxM_L19, hm k (by omega)]
    cases hb : bit nb k with
    | false =>
      rw [if_pos ((has0_iff (by omega)).mpr hb)]
      simp only [if_neg (by decide : ¬ false = true), if_true, ite_true]
      refine box_L hx hy hm n (k + 1) a b c d a' b' c' d' (by omega) ?_
      rcases h with ⟨q1, q2, q3, q4, q5, q6, q7, q8, q9⟩ | ⟨q1, q2, q3, q4, ⟨i, q5, q6⟩, q7⟩
      · refine Or.inl ⟨q1, q2, q3, q4, q5, q6, q7, q8, fun i hi => ?_⟩
        by_cases c : i = k
        · rw [c]; exact hb
        · exact q9 i (by omega)
      · exact Or.inr ⟨q1, q2, q3, q4, ⟨i, by omega, q6⟩, q7⟩
    | true =>
      rw [if_neg (has_no (by omega) hb)]
      simp only [if_true, ite_true, if_neg (by decide : ¬ (1 : Int32) = 0)]
      obtain ⟨u, hu, eu⟩ := hx k (by omega)
      obtain ⟨v, hv, ev⟩ := hy k (by omega)
      refine box_L hx hy hm n (k + 1) _ _ _ _ _ _ _ _ (by omega) (Or.inr ?_)
      rcases h with ⟨rfl, rfl, rfl, rfl, rfl, rfl, rfl, rfl, _⟩ | ⟨rfl, rfl, rfl, rfl, _, z, hz, ez⟩
      · rw [eu, ev, (first30_ u hu).1, (first30_ u hu).2.1, (first30_ u hu).2.2.1, (first30_ u hu).2.2.2, (first30_ v hv).1, (first30_ v hv).2.1, (first30_ v hv).2.2.1, (first30_ v hv).2.2.2]
        exact ⟨rfl, rfl, rfl, rfl, ⟨k, by omega, hb⟩, u, hu, rfl⟩
      · refine ⟨(swap_lt _ _ _ _).symm, (swap_lt _ _ _ _).symm, (swap_lt _ _ _ _).symm, (swap_lt _ _ _ _).symm, ⟨k, by omega, hb⟩, ?_⟩
        split
        · exact ⟨u, hu, eu⟩
        · exact ⟨z, hz, ez⟩
theorem eq_box {K : Int32 → Int32 → Int32 → Int32 → Option Int32} {nb : Int32} {x y x' y' : Nat → Int32} (hx : ∀ i, i < 10 → x i = x' i) (hy : ∀ i, i < 10 → y i = y' i) : ∀ (n k : Nat) (a b c d : Int32), k + n = 10 → F_boxAreaG_L15 K x y nb n k a b c d = F_boxAreaG_L15 K x' y' nb n k a b c d
  | 0, k, a, b, c, d, _ => by rw [F_boxAreaG_L15, F_boxAreaG_L15]
  | n + 1, k, a, b, c, d, h => by
    rw [F_boxAreaG_L15, F_boxAreaG_L15, hx k (by omega), hy k (by omega), eq_box hx hy n (k + 1) _ _ _ _ (by omega), eq_box hx hy n (k + 1) _ _ _ _ (by omega)]
theorem nb_zero {nb : Int32} (h1 : ∀ i, 10 ≤ i → bit nb i = false) : nb = 0 ↔ ∀ i, i < 10 → bit nb i = false := by
  constructor
  · rintro rfl i _; exact bit_zero i
  · intro h
    apply bit_ext
    intro i _
    rw [bit_zero]
    by_cases hi : i < 10
    · exact h i hi
    · exact h1 i (by omega)
theorem st_box (zx_nodeBits : Int32) (zx_lineBits : Int32) (zx_lessEnd : Nat → Int32) (zx_moreEnd : Nat → Int32) (zx_web_near : Nat → Int32) (zx_planeTest_backLines : Int32) (zx_planeTest_clash : Int32) (zx_planeTest_depthOf : Nat → Int32) (zx_planeTest_endingAt : Nat → Int32) (zx_planeTest_returns : Nat → Int32) (zx_planeTest_highest : Nat → Int32) (zx_planeTest_alike : Nat → Int32) (zx_planeTest_opposed : Nat → Int32) (zx_palette_there : Int32) (zx_palette_allowed : Int32) (zx_palette_shades : Nat → Int32) (zx_desk_xs : Nat → Int32) (zx_desk_ys : Nat → Int32) (zm_thrown : Int32) (zm_many : Int32) (zm_there : Nat → Int32) (zm_ones : Nat → Int32) (zm_others : Nat → Int32) (zm_xs : Nat → Int32) (zm_ys : Nat → Int32) (zm_a : Nat → Int32) (zm_b : Nat → Int32) (zm_from : Nat → Int32) (zm_to : Nat → Int32) (zm_way : Nat → Int32) (zm_depth : Nat → Int32) (zm_above : Nat → Int32) (zm_pile : Nat → Int32) (zm_next : Nat → Int32) (zm_leader : Nat → Int32) (zm_turned : Nat → Int32) (zm_piece : Nat → Int32) (zm_numbers : Nat → Int32) (zm_row : Nat → Int32) (zb : Nat → Int64) (hv : Inv zx_nodeBits zx_lineBits zx_lessEnd zx_moreEnd zx_desk_xs zx_desk_ys zm_there zm_ones zm_others zm_xs zm_ys zm_from zm_to zx_planeTest_highest) : ∃ Rx, F_boxG zx_nodeBits zx_desk_xs zx_desk_ys = some Rx ∧ ∃ Rm, F_boxM zm_there zm_xs zm_ys = some Rm ∧ (Rx = Rm.1) ∧ Inv zx_nodeBits zx_lineBits zx_lessEnd zx_moreEnd zx_desk_xs zx_desk_ys zm_there zm_ones zm_others zm_xs zm_ys zm_from zm_to zx_planeTest_highest := by
  obtain ⟨h1, h2, h3, h4, h5, h6, h7, h8, h9⟩ := id hv
  obtain ⟨hx, hy, _, _⟩ := GI_of hv
  obtain ⟨A, B, C, D, A', B', C', D', e1, e2, hB⟩ := box_L (K := fun v2_15 v3_15 v4_15 v5_15 => some ((v3_15 - v2_15) * (v5_15 - v4_15))) (K' := fun v1_19 v2_19 v3_19 v4_19 => (if 0 ≤ v2_19 then some (((((2 : Int32)) * (v2_19 - v1_19)) * (v4_19 - v3_19)) + 1, 0) else some ((0 : Int32), 0))) hx hy h3 10 0 30 0 30 0 31 (-1) 31 (-1) rfl (Or.inl ⟨rfl, rfl, rfl, rfl, rfl, rfl, rfl, rfl, fun i hi => absurd hi (Nat.not_lt_zero _)⟩)
  unfold F_boxG F_boxM F_boxAreaG
  rw [e2]
  rw [eq_box (dxy hv).1 (dxy hv).2 10 0 _ _ _ _ rfl, e1]
  rcases hB with ⟨rfl, rfl, rfl, rfl, rfl, rfl, rfl, rfl, hn⟩ | ⟨rfl, rfl, rfl, rfl, ⟨i, hi, hb⟩, z, hz, ez⟩
  · rw [if_pos ((nb_zero h1).mpr hn)]
    exact ⟨_, rfl, _, rfl, rfl, hv⟩
  · rw [if_neg (fun h => by rw [(nb_zero h1).mp h i hi] at hb; exact absurd hb (by decide)), if_pos (by rw [ez]; exact nI_0le (by omega))]
    exact ⟨_, rfl, _, rfl, by show _ = _; rw [Int32.mul_assoc], hv⟩
