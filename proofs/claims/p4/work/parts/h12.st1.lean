theorem n10 : ¬ (1 : Int32) = 0 := by decide
theorem n20 : ¬ (2 : Int32) = 0 := by decide
theorem n30 : ¬ (3 : Int32) = 0 := by decide
theorem updL0 (f : Nat → Int64) (v : Int64) : vp_updL f 0 v 0 = v := if_pos rfl
theorem out_eq {f : Nat → Int64} {a b : Int32} (h : a = b) : vp_updL f 0 (Int32.toInt64 a) 0 = Int32.toInt64 b := by
  subst h; exact if_pos rfl
theorem wh0 : (if (0 : Int32) < 0 then (1 : Int32) else if (0 : Int32) ≤ 1 then 0 else 1) = 0 := by decide
theorem wh1 : (if (1 : Int32) < 0 then (1 : Int32) else if (1 : Int32) ≤ 1 then 0 else 1) = 0 := by decide
theorem nb_set {nb : Int32} {i : Nat} (hi : i < 10) (h1 : ∀ j, 10 ≤ j → bit nb j = false) (j : Nat) : bit (nb ||| (1 : Int32) <<< (nI i &&& 31)) j = (bit nb j || decide (j = i)) := by
  rw [bit_or, bit_shl (by omega)]
theorem clr_bit {x : Int32} {i : Nat} (hi : i < 32) (j : Nat) : bit (x &&& (((1 : Int32) <<< (nI i &&& 31)) ^^^ (-1))) j = (bit x j && !decide (j = i)) := by
  by_cases hj : j < 32
  · rw [bit_and, bit_not hj, bit_shl hi]
  · rw [bit_ge _ (by omega), bit_ge x (by omega)]; rfl
theorem st_node (zx_nodeBits : Int32) (zx_lineBits : Int32) (zx_lessEnd : Nat → Int32) (zx_moreEnd : Nat → Int32) (zx_web_near : Nat → Int32) (zx_planeTest_backLines : Int32) (zx_planeTest_clash : Int32) (zx_planeTest_depthOf : Nat → Int32) (zx_planeTest_endingAt : Nat → Int32) (zx_planeTest_returns : Nat → Int32) (zx_planeTest_highest : Nat → Int32) (zx_planeTest_alike : Nat → Int32) (zx_planeTest_opposed : Nat → Int32) (zx_palette_there : Int32) (zx_palette_allowed : Int32) (zx_palette_shades : Nat → Int32) (zx_desk_xs : Nat → Int32) (zx_desk_ys : Nat → Int32) (zm_thrown : Int32) (zm_many : Int32) (zm_there : Nat → Int32) (zm_ones : Nat → Int32) (zm_others : Nat → Int32) (zm_xs : Nat → Int32) (zm_ys : Nat → Int32) (zm_a : Nat → Int32) (zm_b : Nat → Int32) (zm_from : Nat → Int32) (zm_to : Nat → Int32) (zm_way : Nat → Int32) (zm_depth : Nat → Int32) (zm_above : Nat → Int32) (zm_pile : Nat → Int32) (zm_next : Nat → Int32) (zm_leader : Nat → Int32) (zm_turned : Nat → Int32) (zm_piece : Nat → Int32) (zm_numbers : Nat → Int32) (zm_row : Nat → Int32) (zb : Nat → Int64) (p0 : Int32) (hv : Inv zx_nodeBits zx_lineBits zx_lessEnd zx_moreEnd zx_desk_xs zx_desk_ys zm_there zm_ones zm_others zm_xs zm_ys zm_from zm_to zx_planeTest_highest) : ∃ Rx, F_nodeW zx_nodeBits zb p0 = some Rx ∧ ∃ Rm, F_nodeM zm_there p0 = some Rm ∧ (Rm.2.1 = Rx.1) ∧ (Rx.1 = 0 → Rx.2.2 0 = Int32.toInt64 Rm.1) ∧ Inv Rx.2.1 zx_lineBits zx_lessEnd zx_moreEnd zx_desk_xs zx_desk_ys Rm.2.2 zm_ones zm_others zm_xs zm_ys zm_from zm_to zx_planeTest_highest := by
  obtain ⟨h1, h2, h3, h4, h5, h6, h7, h8, h9⟩ := id hv
  rcases isNN_cases p0 with h | ⟨i, hi, rfl⟩
  · refine ⟨(1, zx_nodeBits, zb), ?_, (0, 1, zm_there), ?_, rfl, fun q => (by first | exact (n10 q).elim | exact (n20 q).elim | exact (n30 q).elim), hv⟩
    · unfold F_nodeW F_nodeT
      rw [if_pos h]; rfl
    · unfold F_nodeM
      rw [if_pos h, isThere_eq h3]
      simp only [Option.bind_some, n10, ↓reduceIte]
      rw [ref_1]; rfl
  · by_cases hb : bit zx_nodeBits i = true
    · refine ⟨(2, zx_nodeBits, zb), ?_, (0, 2, zm_there), ?_, rfl, fun q => (by first | exact (n10 q).elim | exact (n20 q).elim | exact (n30 q).elim), hv⟩
      · unfold F_nodeW F_nodeT
        rw [isNN_1_ i hi, if_neg (by decide), has_eq (by omega), if_pos hb, if_neg (by decide)]; rfl
      · unfold F_nodeM
        rw [isNN_1_ i hi, if_neg (by decide), isThere_eq h3, nit_eq hi, if_pos hb]
        simp only [Option.bind_some, n10, ↓reduceIte]
        rw [ref_2]; rfl
    · have hb2 : bit zx_nodeBits i = false := by simpa using hb
      have hq : ∀ j, j < 10 → upd zm_there i 1 j = if bit (zx_nodeBits ||| (1 : Int32) <<< (nI i &&& 31)) j = true then 1 else 0 := by
        intro j hj
        rw [nb_set hi h1]
        by_cases e : j = i
        · subst e; rw [pk_us, decide_eq_true rfl, Bool.or_true, if_pos rfl]
        · rw [pk_un e, decide_eq_false e, Bool.or_false]; exact h3 j hj
      have hn : ∀ j, 10 ≤ j → bit (zx_nodeBits ||| (1 : Int32) <<< (nI i &&& 31)) j = false := by
        intro j hj
        rw [nb_set hi h1, h1 j hj, decide_eq_false (by omega)]; rfl
      refine ⟨(0, zx_nodeBits ||| (1 : Int32) <<< (nI i &&& 31), vp_updL zb 0 (Int32.toInt64 (f_bc (zx_nodeBits ||| (1 : Int32) <<< (nI i &&& 31))))), ?_, (nI (cf (bit (zx_nodeBits ||| (1 : Int32) <<< (nI i &&& 31))) 10 0), 0, upd zm_there i 1), ?_, rfl, fun _ => ?_, ⟨hn, h2, hq, h4, fun l hl hl2 => ?_, h6, h7, h8, h9⟩⟩
      · unfold F_nodeW F_nodeT
        rw [isNN_1_ i hi, if_neg (by decide), has_eq (by omega), if_neg hb, if_pos rfl]; rfl
      · unfold F_nodeM
        rw [isNN_1_ i hi, if_neg (by decide), isThere_eq h3, nit_eq hi, if_neg hb]
        simp only [Option.bind_some, n10, ↓reduceIte]
        rw [ref_0]
        simp only [Option.bind_some, ↓reduceIte]
        rw [if_pos (inb_nI hi (by decide)), nI_clamp (by omega), cntN_eq hq]; rfl
      · exact out_eq (f := zb) (bc_lt (n := 10) (by decide) hn)
      · obtain ⟨a, b, q1, q2, q3, q4, q5⟩ := h5 l hl hl2
        exact ⟨a, b, q1, q2, by show bit (zx_nodeBits ||| _) a = true; rw [bit_or, q3]; rfl, by show bit (zx_nodeBits ||| _) b = true; rw [bit_or, q4]; rfl, q5⟩
theorem st_nodes (zx_nodeBits : Int32) (zx_lineBits : Int32) (zx_lessEnd : Nat → Int32) (zx_moreEnd : Nat → Int32) (zx_web_near : Nat → Int32) (zx_planeTest_backLines : Int32) (zx_planeTest_clash : Int32) (zx_planeTest_depthOf : Nat → Int32) (zx_planeTest_endingAt : Nat → Int32) (zx_planeTest_returns : Nat → Int32) (zx_planeTest_highest : Nat → Int32) (zx_planeTest_alike : Nat → Int32) (zx_planeTest_opposed : Nat → Int32) (zx_palette_there : Int32) (zx_palette_allowed : Int32) (zx_palette_shades : Nat → Int32) (zx_desk_xs : Nat → Int32) (zx_desk_ys : Nat → Int32) (zm_thrown : Int32) (zm_many : Int32) (zm_there : Nat → Int32) (zm_ones : Nat → Int32) (zm_others : Nat → Int32) (zm_xs : Nat → Int32) (zm_ys : Nat → Int32) (zm_a : Nat → Int32) (zm_b : Nat → Int32) (zm_from : Nat → Int32) (zm_to : Nat → Int32) (zm_way : Nat → Int32) (zm_depth : Nat → Int32) (zm_above : Nat → Int32) (zm_pile : Nat → Int32) (zm_next : Nat → Int32) (zm_leader : Nat → Int32) (zm_turned : Nat → Int32) (zm_piece : Nat → Int32) (zm_numbers : Nat → Int32) (zm_row : Nat → Int32) (zb : Nat → Int64) (hv : Inv zx_nodeBits zx_lineBits zx_lessEnd zx_moreEnd zx_desk_xs zx_desk_ys zm_there zm_ones zm_others zm_xs zm_ys zm_from zm_to zx_planeTest_highest) : ∃ Rx, F_nodesG zx_nodeBits = some Rx ∧ ∃ Rm, F_nodesM zm_there = some Rm ∧ (Rx = Rm.1) ∧ Inv zx_nodeBits zx_lineBits zx_lessEnd zx_moreEnd zx_desk_xs zx_desk_ys zm_there zm_ones zm_others zm_xs zm_ys zm_from zm_to zx_planeTest_highest := by
  obtain ⟨h1, h2, h3, h4, h5, h6, h7, h8, h9⟩ := id hv
  exact ⟨zx_nodeBits, rfl, (zx_nodeBits, 0), by unfold F_nodesM; rw [nbits_eq h1 h3]; rfl, rfl, hv⟩
theorem inv_live {nb lb : Int32} {le mo dx dy mt on ot mx my fr to hi : Nat → Int32} (hv : Inv nb lb le mo dx dy mt on ot mx my fr to hi) : ∀ l, l < 24 → (on l < 0 ↔ bit lb l = false) := by
  obtain ⟨h1, h2, h3, h4, h5, h6, h7, h8, h9⟩ := hv
  exact live_iff h4 (fun l hl hb => by
    obtain ⟨a, b, q1, q2, _, _, _, _, q, _⟩ := h5 l hl hb
    exact ⟨a, by omega, q⟩)
theorem inv_isLine {nb lb : Int32} {le mo dx dy mt on ot mx my fr to hi : Nat → Int32} (hv : Inv nb lb le mo dx dy mt on ot mx my fr to hi) (p : Int32) : F_isLineM on p = some (f_lit lb p) :=
  isLine_eq (fun l hl hb => (inv_live hv l hl).mpr hb) (fun l hl hb h => by rw [(inv_live hv l hl).mp h] at hb; exact absurd hb (by decide)) p
theorem st_lines (zx_nodeBits : Int32) (zx_lineBits : Int32) (zx_lessEnd : Nat → Int32) (zx_moreEnd : Nat → Int32) (zx_web_near : Nat → Int32) (zx_planeTest_backLines : Int32) (zx_planeTest_clash : Int32) (zx_planeTest_depthOf : Nat → Int32) (zx_planeTest_endingAt : Nat → Int32) (zx_planeTest_returns : Nat → Int32) (zx_planeTest_highest : Nat → Int32) (zx_planeTest_alike : Nat → Int32) (zx_planeTest_opposed : Nat → Int32) (zx_palette_there : Int32) (zx_palette_allowed : Int32) (zx_palette_shades : Nat → Int32) (zx_desk_xs : Nat → Int32) (zx_desk_ys : Nat → Int32) (zm_thrown : Int32) (zm_many : Int32) (zm_there : Nat → Int32) (zm_ones : Nat → Int32) (zm_others : Nat → Int32) (zm_xs : Nat → Int32) (zm_ys : Nat → Int32) (zm_a : Nat → Int32) (zm_b : Nat → Int32) (zm_from : Nat → Int32) (zm_to : Nat → Int32) (zm_way : Nat → Int32) (zm_depth : Nat → Int32) (zm_above : Nat → Int32) (zm_pile : Nat → Int32) (zm_next : Nat → Int32) (zm_leader : Nat → Int32) (zm_turned : Nat → Int32) (zm_piece : Nat → Int32) (zm_numbers : Nat → Int32) (zm_row : Nat → Int32) (zb : Nat → Int64) (hv : Inv zx_nodeBits zx_lineBits zx_lessEnd zx_moreEnd zx_desk_xs zx_desk_ys zm_there zm_ones zm_others zm_xs zm_ys zm_from zm_to zx_planeTest_highest) : ∃ Rx, F_linesG zx_lineBits = some Rx ∧ ∃ Rm, F_linesM zm_ones = some Rm ∧ (Rx = Rm.1) ∧ Inv zx_nodeBits zx_lineBits zx_lessEnd zx_moreEnd zx_desk_xs zx_desk_ys zm_there zm_ones zm_others zm_xs zm_ys zm_from zm_to zx_planeTest_highest := by
  obtain ⟨h1, h2, h3, h4, h5, h6, h7, h8, h9⟩ := id hv
  exact ⟨zx_lineBits, rfl, (zx_lineBits, 0), by unfold F_linesM; rw [lbits_eq h2 (inv_live hv)]; rfl, rfl, hv⟩
theorem st_cut (zx_nodeBits : Int32) (zx_lineBits : Int32) (zx_lessEnd : Nat → Int32) (zx_moreEnd : Nat → Int32) (zx_web_near : Nat → Int32) (zx_planeTest_backLines : Int32) (zx_planeTest_clash : Int32) (zx_planeTest_depthOf : Nat → Int32) (zx_planeTest_endingAt : Nat → Int32) (zx_planeTest_returns : Nat → Int32) (zx_planeTest_highest : Nat → Int32) (zx_planeTest_alike : Nat → Int32) (zx_planeTest_opposed : Nat → Int32) (zx_palette_there : Int32) (zx_palette_allowed : Int32) (zx_palette_shades : Nat → Int32) (zx_desk_xs : Nat → Int32) (zx_desk_ys : Nat → Int32) (zm_thrown : Int32) (zm_many : Int32) (zm_there : Nat → Int32) (zm_ones : Nat → Int32) (zm_others : Nat → Int32) (zm_xs : Nat → Int32) (zm_ys : Nat → Int32) (zm_a : Nat → Int32) (zm_b : Nat → Int32) (zm_from : Nat → Int32) (zm_to : Nat → Int32) (zm_way : Nat → Int32) (zm_depth : Nat → Int32) (zm_above : Nat → Int32) (zm_pile : Nat → Int32) (zm_next : Nat → Int32) (zm_leader : Nat → Int32) (zm_turned : Nat → Int32) (zm_piece : Nat → Int32) (zm_numbers : Nat → Int32) (zm_row : Nat → Int32) (zb : Nat → Int64) (p0 : Int32) (hv : Inv zx_nodeBits zx_lineBits zx_lessEnd zx_moreEnd zx_desk_xs zx_desk_ys zm_there zm_ones zm_others zm_xs zm_ys zm_from zm_to zx_planeTest_highest) : ∃ Rx, F_cutW zx_lineBits zb p0 = some Rx ∧ ∃ Rm, F_cutM zm_ones p0 = some Rm ∧ (Rm.2.1 = Rx.1) ∧ (Rx.1 = 0 → Rx.2.2 0 = Int32.toInt64 Rm.1) ∧ Inv zx_nodeBits Rx.2.1 zx_lessEnd zx_moreEnd zx_desk_xs zx_desk_ys zm_there Rm.2.2 zm_others zm_xs zm_ys zm_from zm_to zx_planeTest_highest := by
  obtain ⟨h1, h2, h3, h4, h5, h6, h7, h8, h9⟩ := id hv
  have hl := inv_live hv
  rcases lit_cases zx_lineBits p0 with ⟨e, _⟩ | ⟨l, hl24, rfl, hb, e⟩
  · refine ⟨(1, zx_lineBits, zb), ?_, (0, 1, zm_ones), ?_, rfl, fun q => (by first | exact (n10 q).elim | exact (n20 q).elim | exact (n30 q).elim), hv⟩
    · unfold F_cutW F_cutT
      rw [e, if_pos rfl]; rfl
    · unfold F_cutM
      rw [inv_isLine hv, e]
      simp only [Option.bind_some, n10, ↓reduceIte]
      rw [ref_1]; rfl
  · have hbit := fun j => clr_bit (x := zx_lineBits) (i := l) (by omega) j
    have hn : ∀ j, 24 ≤ j → bit (zx_lineBits &&& (((1 : Int32) <<< (nI l &&& 31)) ^^^ (-1))) j = false := by
      intro j hj
      rw [hbit j, h2 j hj]; rfl
    have hl2 : ∀ j, j < 24 → (upd zm_ones l (-1) j < 0 ↔ bit (zx_lineBits &&& (((1 : Int32) <<< (nI l &&& 31)) ^^^ (-1))) j = false) := by
      intro j hj
      rw [hbit j]
      by_cases e1 : j = l
      · subst e1; rw [pk_us, decide_eq_true rfl]; simp
      · rw [pk_un e1, decide_eq_false e1]; simpa using hl j hj
    refine ⟨(0, zx_lineBits &&& (((1 : Int32) <<< (nI l &&& 31)) ^^^ (-1)), vp_updL zb 0 (Int32.toInt64 (f_bc (zx_lineBits &&& (((1 : Int32) <<< (nI l &&& 31)) ^^^ (-1)))))), ?_, (nI (cf (bit (zx_lineBits &&& (((1 : Int32) <<< (nI l &&& 31)) ^^^ (-1)))) 24 0), 0, upd zm_ones l (-1)), ?_, rfl, fun _ => ?_, ⟨h1, hn, h3, fun j hj hj2 => ?_, fun j hj hj2 => ?_, fun j k hj hk hj2 hk2 => ?_, h7, h8, h9⟩⟩
    · unfold F_cutW F_cutT
      rw [e, if_neg (by decide)]; rfl
    · unfold F_cutM
      rw [inv_isLine hv, e]
      simp only [Option.bind_some, n10, ↓reduceIte]
      rw [ref_0]
      simp only [Option.bind_some, ↓reduceIte]
      rw [if_pos (inb_nI hl24 (by decide)), nI_clamp (by omega), cntL_eq hl2]; rfl
    · exact out_eq (f := zb) (bc_lt (n := 24) (by decide) hn)
    · show upd zm_ones l (-1) j = -1
      by_cases e1 : j = l
      · rw [e1, pk_us]
      · rw [pk_un e1]
        apply h4 j hj
        have := hbit j
        rw [show bit (zx_lineBits &&& _) j = false from hj2, decide_eq_false e1] at this
        simpa using this.symm
    · have q := hbit j
      rw [show bit (zx_lineBits &&& _) j = true from hj2] at q
      have e1 : j ≠ l := fun e1 => by rw [e1, decide_eq_true rfl] at q; simp at q
      obtain ⟨a, b, q1, q2, q3, q4, q5, q6, q7, q8⟩ := h5 j hj (by rw [decide_eq_false e1] at q; simpa using q.symm)
      exact ⟨a, b, q1, q2, q3, q4, q5, q6, by show upd zm_ones l (-1) j = _; rw [pk_un e1]; exact q7, q8⟩
    · have q := hbit j
      rw [show bit (zx_lineBits &&& _) j = true from hj2] at q
      have q' := hbit k
      rw [show bit (zx_lineBits &&& _) k = true from hk2] at q'
      have e1 : j ≠ l := fun e1 => by rw [e1, decide_eq_true rfl] at q; simp at q
      have e2 : k ≠ l := fun e1 => by rw [e1, decide_eq_true rfl] at q'; simp at q'
      rw [decide_eq_false e1] at q
      rw [decide_eq_false e2] at q'
      show upd zm_ones l (-1) j = upd zm_ones l (-1) k → _
      rw [pk_un e1, pk_un e2]
      exact h6 j k hj hk (by simpa using q.symm) (by simpa using q'.symm)
theorem st_end (zx_nodeBits : Int32) (zx_lineBits : Int32) (zx_lessEnd : Nat → Int32) (zx_moreEnd : Nat → Int32) (zx_web_near : Nat → Int32) (zx_planeTest_backLines : Int32) (zx_planeTest_clash : Int32) (zx_planeTest_depthOf : Nat → Int32) (zx_planeTest_endingAt : Nat → Int32) (zx_planeTest_returns : Nat → Int32) (zx_planeTest_highest : Nat → Int32) (zx_planeTest_alike : Nat → Int32) (zx_planeTest_opposed : Nat → Int32) (zx_palette_there : Int32) (zx_palette_allowed : Int32) (zx_palette_shades : Nat → Int32) (zx_desk_xs : Nat → Int32) (zx_desk_ys : Nat → Int32) (zm_thrown : Int32) (zm_many : Int32) (zm_there : Nat → Int32) (zm_ones : Nat → Int32) (zm_others : Nat → Int32) (zm_xs : Nat → Int32) (zm_ys : Nat → Int32) (zm_a : Nat → Int32) (zm_b : Nat → Int32) (zm_from : Nat → Int32) (zm_to : Nat → Int32) (zm_way : Nat → Int32) (zm_depth : Nat → Int32) (zm_above : Nat → Int32) (zm_pile : Nat → Int32) (zm_next : Nat → Int32) (zm_leader : Nat → Int32) (zm_turned : Nat → Int32) (zm_piece : Nat → Int32) (zm_numbers : Nat → Int32) (zm_row : Nat → Int32) (zb : Nat → Int64) (p0 p1 : Int32) (hv : Inv zx_nodeBits zx_lineBits zx_lessEnd zx_moreEnd zx_desk_xs zx_desk_ys zm_there zm_ones zm_others zm_xs zm_ys zm_from zm_to zx_planeTest_highest) : ∃ Rx, F_endW zx_lineBits zx_lessEnd zx_moreEnd zb p0 p1 = some Rx ∧ ∃ Rm, F_endM zm_ones zm_others p0 p1 = some Rm ∧ (Rm.2 = Rx.1) ∧ (Rx.1 = 0 → Rx.2 0 = Int32.toInt64 Rm.1) ∧ Inv zx_nodeBits zx_lineBits zx_lessEnd zx_moreEnd zx_desk_xs zx_desk_ys zm_there zm_ones zm_others zm_xs zm_ys zm_from zm_to zx_planeTest_highest := by
  obtain ⟨h1, h2, h3, h4, h5, h6, h7, h8, h9⟩ := id hv
  rcases lit_cases zx_lineBits p0 with ⟨e, _⟩ | ⟨l, hl24, rfl, hb, e⟩
  · refine ⟨(1, zb), ?_, (0, 1), ?_, rfl, fun q => (by first | exact (n10 q).elim | exact (n20 q).elim | exact (n30 q).elim), hv⟩
    · unfold F_endW F_endT
      rw [e, if_pos rfl]; rfl
    · unfold F_endM
      rw [inv_isLine hv, e]
      simp only [Option.bind_some, n10, ↓reduceIte]
      rw [ref_1]; rfl
  · obtain ⟨a, b, q1, q2, q3, q4, q5, q6, q7, q8⟩ := h5 l hl24 hb
    by_cases w0 : p1 = 0
    · subst w0
      refine ⟨(0, vp_updL zb 0 (Int32.toInt64 (zx_lessEnd l))), ?_, (zm_ones l, 0), ?_, rfl, fun _ => ?_, hv⟩
      · unfold F_endW F_endT
        rw [e, if_neg (by decide), if_pos rfl, if_pos (inb_nI hl24 (by decide)), nI_clamp (by omega)]; rfl
      · unfold F_endM
        rw [inv_isLine hv, e, wh0]
        simp only [Option.bind_some, n10, ↓reduceIte]
        rw [ref_0]
        simp only [Option.bind_some, ↓reduceIte]
        rw [if_pos (inb_nI hl24 (by decide)), nI_clamp (by omega)]
      · exact out_eq (f := zb) (q5.trans q7.symm)
    · by_cases w1 : p1 = 1
      · subst w1
        refine ⟨(0, vp_updL zb 0 (Int32.toInt64 (zx_moreEnd l))), ?_, (zm_others l, 0), ?_, rfl, fun _ => ?_, hv⟩
        · unfold F_endW F_endT
          rw [e, if_neg (by decide), if_neg w0, if_pos rfl, if_neg w0, if_pos (inb_nI hl24 (by decide)), nI_clamp (by omega)]; rfl
        · unfold F_endM
          rw [inv_isLine hv, e, wh1]
          simp only [Option.bind_some, n10, ↓reduceIte]
          rw [ref_0]
          simp only [Option.bind_some, ↓reduceIte]
          first | rw [if_neg w0, if_pos (inb_nI hl24 (by decide)), nI_clamp (by omega)] | rw [if_pos (inb_nI hl24 (by decide)), nI_clamp (by omega)]
        · exact out_eq (f := zb) (q6.trans q8.symm)
      · have hj : (if p1 < 0 then (1 : Int32) else if p1 ≤ 1 then 0 else 1) = 1 := by
          by_cases c0 : p1 < 0
          · rw [if_pos c0]
          · rw [if_neg c0, if_neg]
            rw [Int32.lt_iff_toInt_lt] at c0
            rw [Int32.le_iff_toInt_le]
            have e0 : p1.toInt ≠ (0 : Int32).toInt := fun e => w0 (Int32.toInt_inj.mp e)
            have e1 : p1.toInt ≠ (1 : Int32).toInt := fun e => w1 (Int32.toInt_inj.mp e)
            have t0 : (0 : Int32).toInt = 0 := by decide
            have t1 : (1 : Int32).toInt = 1 := by decide
            rw [t0] at c0 e0
            rw [t1] at e1 ⊢
            omega
        refine ⟨(2, zb), ?_, (0, 2), ?_, rfl, fun q => (by first | exact (n10 q).elim | exact (n20 q).elim | exact (n30 q).elim), hv⟩
        · unfold F_endW F_endT
          rw [e, if_neg (by decide), if_neg w0, if_neg w1]; rfl
        · unfold F_endM
          rw [inv_isLine hv, e]
          rw [hj]
          simp only [Option.bind_some, n10, ↓reduceIte]
          rw [ref_2]; rfl
