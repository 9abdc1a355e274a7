theorem pieces_both {nb lb : Int32} {le mo dx dy mt on ot mx my fr to hi : Nat → Int32} (hv : Inv nb lb le mo dx dy mt on ot mx my fr to hi) {U v v1 v2 : Int32} (hU : ∀ i, 10 ≤ i → bit U i = false) (hU1 : ∀ i, i < 10 → (bit U i = true ↔ bit nb i = true ∧ ¬ nI i = v1)) (hv2 : ∀ l, l < 24 → (bit v l = true ↔ bit lb l = true ∧ ¬ nI l = v2)) :
    ∃ N : Nat, N ≤ 10 ∧ (∀ near, Ok (F_countPiecesG le mo near U v) (fun R => R.1 = nI N)) ∧ ∀ pc, Ok (F_piecesWithoutM mt on ot pc v1 v2) (fun R => R.1 = nI N) := by
  have hL : LV le mo v := fun l hl hb => LV_of hv l hl ((hv2 l hl).mp hb).1
  have live : ∀ l, l < 24 → ¬ on l < 0 → bit lb l = true := fun l hl h0 => by
    cases hb : bit lb l with
    | true => rfl
    | false => exact absurd ((inv_live hv l hl).mpr hb) h0
  have lt10 : ∀ i, bit U i = true → i < 10 := fun i h => by
    apply Classical.byContradiction
    intro h9
    rw [hU i (by omega)] at h; exact absurd h (by decide)
  obtain ⟨E, hEd⟩ : ∃ E : Nat → Nat → Prop, ∀ a b, E a b ↔ bit U a = true ∧ bit U b = true ∧ AJ v le mo a b := ⟨fun a b => bit U a = true ∧ bit U b = true ∧ AJ v le mo a b, fun _ _ => Iff.rfl⟩
  have hsy : ∀ a b, E a b → E b a := fun a b h => by
    obtain ⟨q1, q2, q3⟩ := (hEd a b).mp h
    exact (hEd b a).mpr ⟨q2, q1, q3.symm⟩
  obtain ⟨Fb, hF⟩ : ∃ Fb : Nat → Bool, ∀ i, Fb i = true ↔ Fst (bit U) E i := ⟨fun i => @decide (Fst (bit U) E i) (Classical.propDecidable _), fun i => @decide_eq_true_iff _ (Classical.propDecidable _)⟩
  refine ⟨cf Fb 10 0, cf_le _ _, fun near => ?_, fun pc => ?_⟩
  · unfold F_countPiecesG
    refine ok_bind (spin_bits hL) (fun u hu => ?_)
    have := count_L (near := u) (fun a j ha hb => by have := ((hu a j ha).mp hb).1; omega) hU (E := E) (fun a b => by
      rw [hEd a b]
      constructor
      · rintro ⟨q1, q2, q3⟩
        exact ⟨q1, q2, (hu a b (by have := lt10 a q1; omega)).mpr ⟨lt10 b q2, q3⟩⟩
      · rintro ⟨q1, q2, q3⟩
        exact ⟨q1, q2, ((hu a b (by have := lt10 a q1; omega)).mp q3).2⟩) hsy (u := u) hF 10 0 0 0 rfl (fun j => ⟨fun h => by rw [bit_zero] at h; exact absurd h (by decide), fun ⟨_, i, h, _⟩ => absurd h (Nat.not_lt_zero _)⟩)
    rw [Nat.zero_add] at this
    exact this
  · unfold F_piecesWithoutM
    refine start_L (U := bit U) (fun i hi => ?_) (fun q hq => ?_) 10 0 0 pc rfl (fun i hi => absurd hi (Nat.not_lt_zero _)) (by rw [Nat.zero_add])
    · rw [hU1 i hi, hv.2.2.1 i hi]
      cases hb : bit nb i with
      | true => rw [if_pos rfl]; exact ⟨fun h => ⟨n10, h.2⟩, fun h => ⟨rfl, h.2⟩⟩
      | false => rw [if_neg (by decide)]; exact ⟨fun h => absurd h.1 (by decide), fun h => absurd rfl h.1⟩
    · have hc0 : cf (bit U) 10 0 = cf (fl (bit U) q) 10 0 := cf_congr 10 0 (fun i _ hi => by
        have hi : i < 10 := by omega
        unfold fl
        have hall : ∀ j, j < i → bit U j = true → q j ≠ q i := fun j hj _ e => by
          rw [hq j (by omega), hq i hi, nI_eq_iff (by omega) (by omega)] at e; omega
        rw [decide_eq_true hall, Bool.and_true])
      have := labels_L (on := on) (ot := ot) (v1 := v1) (v2 := v2) (U := bit U) hsy (OT_of hv) (fun l a b hl ha hb e1 e2 => by
        have h0 : ¬ on l < 0 := by rw [e1]; exact nI_nn (by omega)
        have hbl := live l hl h0
        obtain ⟨a', b', q1, q2, q3, q4, q5, q6, q7, q8⟩ := hv.2.2.2.2.1 l hl hbl
        have ea : a' = a := by rw [e1, nI_eq_iff (by omega) (by omega)] at q7; exact q7.symm
        have eb : b' = b := by rw [e2, nI_eq_iff (by omega) (by omega)] at q8; exact q8.symm
        subst ea; subst eb
        refine ⟨⟨?_, ?_⟩, fun h => ⟨((hEd a' b').mp h).1, ((hEd a' b').mp h).2.1⟩⟩
        · rintro ⟨r1, r2, r3⟩
          rw [e1] at r2
          rw [e2] at r3
          exact ⟨(hEd a' b').mpr ⟨(hU1 a' ha).mpr ⟨q3, r2⟩, (hU1 b' hb).mpr ⟨q4, r3⟩, l, hl, (hv2 l hl).mpr ⟨hbl, r1⟩, Or.inl ⟨q5, q6⟩⟩, r1⟩
        · rintro ⟨r1, r2⟩
          obtain ⟨z1, z2, _⟩ := (hEd a' b').mp r1
          rw [e1, e2]
          exact ⟨r2, ((hU1 a' ha).mp z1).2, ((hU1 b' hb).mp z2).2⟩) 24 0 (cf (bit U) 10 0) q rfl (fun i j hi hj _ _ e => by
        rw [hq i hi, hq j hj, nI_eq_iff (by omega) (by omega)] at e
        rw [e]; exact Cn.rf j) (fun l hl => absurd hl (Nat.not_lt_zero _)) hc0
      refine ok_mono this (fun R hR => ?_)
      obtain ⟨q', r1, r2, r3⟩ := hR
      rw [r1]
      congr 1
      refine cf_congr 10 0 (fun i _ hi => ?_)
      have hi : i < 10 := by omega
      have hiff : fl (bit U) q' i = true ↔ Fb i = true := by
        rw [hF i]
        unfold fl Fst
        rw [Bool.and_eq_true, decide_eq_true_eq]
        constructor
        · rintro ⟨z1, z2⟩
          refine ⟨z1, fun j hj hUj hc => z2 j hj hUj ?_⟩
          have hS := hc (fun x => bit U x = true ∧ q' j = q' x) ⟨hUj, rfl⟩ (fun a b ha hab => by
            obtain ⟨y1, y2, l, y3, y4, y5⟩ := (hEd a b).mp hab
            have ha10 := lt10 a y1
            have hb10 := lt10 b y2
            obtain ⟨hbl, hl2⟩ := (hv2 l y3).mp y4
            obtain ⟨a', b', p1, p2, p3, p4, p5, p6, p7, p8⟩ := hv.2.2.2.2.1 l y3 hbl
            have h0 : ¬ on l < 0 := by rw [p7]; exact nI_nn (by omega)
            refine ⟨y2, ha.2.trans ?_⟩
            rcases y5 with ⟨w1, w2⟩ | ⟨w1, w2⟩
            · exact r3 l y3 h0 hl2 a b ha10 hb10 (by rw [p7, ← p5, w1]) (by rw [p8, ← p6, w2]) hab
            · exact (r3 l y3 h0 hl2 b a hb10 ha10 (by rw [p7, ← p5, w1]) (by rw [p8, ← p6, w2]) (hsy a b hab)).symm)
          exact hS.2
        · rintro ⟨z1, z2⟩
          exact ⟨z1, fun j hj hUj e => z2 j hj hUj (r2 j i (by omega) hi hUj z1 e)⟩
      cases h1 : fl (bit U) q' i <;> cases h2 : Fb i <;> simp_all
theorem pc_all {nb lb : Int32} {le mo dx dy mt on ot mx my fr to hi : Nat → Int32} (hv : Inv nb lb le mo dx dy mt on ot mx my fr to hi) : ∃ N : Nat, N ≤ 10 ∧ (∀ near, Ok (F_countPiecesG le mo near nb lb) (fun R => R.1 = nI N)) ∧ ∀ pc, Ok (F_piecesWithoutM mt on ot pc (-1) (-1)) (fun R => R.1 = nI N) :=
  pieces_both hv hv.1 (fun i hi => ⟨fun h => ⟨h, nI_nm1 (by omega)⟩, fun h => h.1⟩) (fun l hl => ⟨fun h => ⟨h, nI_nm1 (by omega)⟩, fun h => h.1⟩)
theorem st_pieces (zx_nodeBits : Int32) (zx_lineBits : Int32) (zx_lessEnd : Nat → Int32) (zx_moreEnd : Nat → Int32) (zx_web_near : Nat → Int32) (zx_planeTest_backLines : Int32) (zx_planeTest_clash : Int32) (zx_planeTest_depthOf : Nat → Int32) (zx_planeTest_endingAt : Nat → Int32) (zx_planeTest_returns : Nat → Int32) (zx_planeTest_highest : Nat → Int32) (zx_planeTest_alike : Nat → Int32) (zx_planeTest_opposed : Nat → Int32) (zx_palette_there : Int32) (zx_palette_allowed : Int32) (zx_palette_shades : Nat → Int32) (zx_desk_xs : Nat → Int32) (zx_desk_ys : Nat → Int32) (zm_thrown : Int32) (zm_many : Int32) (zm_there : Nat → Int32) (zm_ones : Nat → Int32) (zm_others : Nat → Int32) (zm_xs : Nat → Int32) (zm_ys : Nat → Int32) (zm_a : Nat → Int32) (zm_b : Nat → Int32) (zm_from : Nat → Int32) (zm_to : Nat → Int32) (zm_way : Nat → Int32) (zm_depth : Nat → Int32) (zm_above : Nat → Int32) (zm_pile : Nat → Int32) (zm_next : Nat → Int32) (zm_leader : Nat → Int32) (zm_turned : Nat → Int32) (zm_piece : Nat → Int32) (zm_numbers : Nat → Int32) (zm_row : Nat → Int32) (zb : Nat → Int64) (hv : Inv zx_nodeBits zx_lineBits zx_lessEnd zx_moreEnd zx_desk_xs zx_desk_ys zm_there zm_ones zm_others zm_xs zm_ys zm_from zm_to zx_planeTest_highest) : ∃ Rx, F_piecesG zx_nodeBits zx_lineBits zx_lessEnd zx_moreEnd zx_web_near = some Rx ∧ ∃ Rm, F_piecesM zm_there zm_ones zm_others zm_piece = some Rm ∧ (Rx.1 = Rm.1) ∧ Inv zx_nodeBits zx_lineBits zx_lessEnd zx_moreEnd zx_desk_xs zx_desk_ys zm_there zm_ones zm_others zm_xs zm_ys zm_from zm_to zx_planeTest_highest := by
  obtain ⟨N, _, h1, h2⟩ := pc_all hv
  obtain ⟨R, e1, q1⟩ := h1 zx_web_near
  obtain ⟨S, e2, q2⟩ := h2 zm_piece
  refine ⟨(R.1, R.2), ?_, (S.1, 0, S.2), ?_, ?_, hv⟩
  · unfold F_piecesG
    rw [e1, Option.bind_some]
  · unfold F_piecesM
    rw [e2, Option.bind_some]
  · show R.1 = S.1
    rw [q1, q2]
theorem st_bridge (zx_nodeBits : Int32) (zx_lineBits : Int32) (zx_lessEnd : Nat → Int32) (zx_moreEnd : Nat → Int32) (zx_web_near : Nat → Int32) (zx_planeTest_backLines : Int32) (zx_planeTest_clash : Int32) (zx_planeTest_depthOf : Nat → Int32) (zx_planeTest_endingAt : Nat → Int32) (zx_planeTest_returns : Nat → Int32) (zx_planeTest_highest : Nat → Int32) (zx_planeTest_alike : Nat → Int32) (zx_planeTest_opposed : Nat → Int32) (zx_palette_there : Int32) (zx_palette_allowed : Int32) (zx_palette_shades : Nat → Int32) (zx_desk_xs : Nat → Int32) (zx_desk_ys : Nat → Int32) (zm_thrown : Int32) (zm_many : Int32) (zm_there : Nat → Int32) (zm_ones : Nat → Int32) (zm_others : Nat → Int32) (zm_xs : Nat → Int32) (zm_ys : Nat → Int32) (zm_a : Nat → Int32) (zm_b : Nat → Int32) (zm_from : Nat → Int32) (zm_to : Nat → Int32) (zm_way : Nat → Int32) (zm_depth : Nat → Int32) (zm_above : Nat → Int32) (zm_pile : Nat → Int32) (zm_next : Nat → Int32) (zm_leader : Nat → Int32) (zm_turned : Nat → Int32) (zm_piece : Nat → Int32) (zm_numbers : Nat → Int32) (zm_row : Nat → Int32) (zb : Nat → Int64) (p0 : Int32) (hv : Inv zx_nodeBits zx_lineBits zx_lessEnd zx_moreEnd zx_desk_xs zx_desk_ys zm_there zm_ones zm_others zm_xs zm_ys zm_from zm_to zx_planeTest_highest) : ∃ Rx, F_bridgeW zx_nodeBits zx_lineBits zx_lessEnd zx_moreEnd zx_web_near zb p0 = some Rx ∧ ∃ Rm, F_bridgeM zm_there zm_ones zm_others zm_piece p0 = some Rm ∧ (Rm.2.1 = Rx.1) ∧ (Rx.1 = 0 → Rx.2.2 0 = if Rm.1 = 0 then 0 else 1) ∧ Inv zx_nodeBits zx_lineBits zx_lessEnd zx_moreEnd zx_desk_xs zx_desk_ys zm_there zm_ones zm_others zm_xs zm_ys zm_from zm_to zx_planeTest_highest := by
  rcases lit_cases zx_lineBits p0 with ⟨e0, _⟩ | ⟨l, hl, rfl, hbl, e0⟩
  · refine ⟨(1, zx_web_near, zb), ?_, (0, 1, zm_piece), ?_, rfl, fun q => (n10 q).elim, hv⟩
    · unfold F_bridgeW F_bridgeT
      rw [e0, if_pos rfl]; rfl
    · unfold F_bridgeM
      rw [inv_isLine hv, e0, Option.bind_some, if_pos rfl]
      dsimp only
      rw [ref_1]; rfl
  · obtain ⟨N, hN, h1, h2⟩ := pc_all hv
    obtain ⟨M, hM, g1, g2⟩ := pieces_both hv (U := zx_nodeBits) (v := zx_lineBits &&& (((1 : Int32) <<< (nI l &&& 31)) ^^^ (-1))) (v1 := -1) (v2 := nI l) hv.1 (fun i hi => ⟨fun h => ⟨h, nI_nm1 (by omega)⟩, fun h => h.1⟩) (fun m hm => by
      rw [clr_bit (by omega) m, Bool.and_eq_true, nI_eq_iff (by omega) (by omega)]; simp)
    obtain ⟨R, e1, q1⟩ := g1 zx_web_near
    obtain ⟨R2, e2, q2⟩ := h1 R.2
    obtain ⟨S, e3, q3⟩ := g2 zm_piece
    obtain ⟨S2, e4, q4⟩ := h2 S.2
    have hT : F_bridgeT zx_nodeBits zx_lineBits zx_lessEnd zx_moreEnd zx_web_near (nI l) = (if nI M ≤ nI N then some (0, (0 : Int32), R2.2) else some (0, (1 : Int32), R2.2)) := by
      unfold F_bridgeT
      rw [e0, if_neg n10, e1, Option.bind_some, e2, Option.bind_some, q1, q2]
    have hM2 : F_bridgeM zm_there zm_ones zm_others zm_piece (nI l) = (if nI M ≤ nI N then some ((0 : Int32), 0, S2.2) else some ((1 : Int32), 0, S2.2)) := by
      unfold F_bridgeM
      rw [inv_isLine hv, e0, Option.bind_some, if_neg n10]
      dsimp only
      rw [ref_0, Option.bind_some, if_pos rfl, e3, Option.bind_some, e4, Option.bind_some, q3, q4]
    by_cases c : nI M ≤ nI N
    · rw [if_pos c] at hT hM2
      refine ⟨(0, R2.2, vp_updL zb 0 0), ?_, _, hM2, rfl, fun _ => rfl, hv⟩
      unfold F_bridgeW
      rw [hT]; rfl
    · rw [if_neg c] at hT hM2
      refine ⟨(0, R2.2, vp_updL zb 0 1), ?_, _, hM2, rfl, fun _ => rfl, hv⟩
      unfold F_bridgeW
      rw [hT]; rfl
theorem st_hinge (zx_nodeBits : Int32) (zx_lineBits : Int32) (zx_lessEnd : Nat → Int32) (zx_moreEnd : Nat → Int32) (zx_web_near : Nat → Int32) (zx_planeTest_backLines : Int32) (zx_planeTest_clash : Int32) (zx_planeTest_depthOf : Nat → Int32) (zx_planeTest_endingAt : Nat → Int32) (zx_planeTest_returns : Nat → Int32) (zx_planeTest_highest : Nat → Int32) (zx_planeTest_alike : Nat → Int32) (zx_planeTest_opposed : Nat → Int32) (zx_palette_there : Int32) (zx_palette_allowed : Int32) (zx_palette_shades : Nat → Int32) (zx_desk_xs : Nat → Int32) (zx_desk_ys : Nat → Int32) (zm_thrown : Int32) (zm_many : Int32) (zm_there : Nat → Int32) (zm_ones : Nat → Int32) (zm_others : Nat → Int32) (zm_xs : Nat → Int32) (zm_ys : Nat → Int32) (zm_a : Nat → Int32) (zm_b : Nat → Int32) (zm_from : Nat → Int32) (zm_to : Nat → Int32) (zm_way : Nat → Int32) (zm_depth : Nat → Int32) (zm_above : Nat → Int32) (zm_pile : Nat → Int32) (zm_next : Nat → Int32) (zm_leader : Nat → Int32) (zm_turned : Nat → Int32) (zm_piece : Nat → Int32) (zm_numbers : Nat → Int32) (zm_row : Nat → Int32) (zb : Nat → Int64) (p0 : Int32) (hv : Inv zx_nodeBits zx_lineBits zx_lessEnd zx_moreEnd zx_desk_xs zx_desk_ys zm_there zm_ones zm_others zm_xs zm_ys zm_from zm_to zx_planeTest_highest) : ∃ Rx, F_hingeW zx_nodeBits zx_lineBits zx_lessEnd zx_moreEnd zx_web_near zb p0 = some Rx ∧ ∃ Rm, F_hingeM zm_there zm_ones zm_others zm_piece p0 = some Rm ∧ (Rm.2.1 = Rx.1) ∧ (Rx.1 = 0 → Rx.2.2 0 = if Rm.1 = 0 then 0 else 1) ∧ Inv zx_nodeBits zx_lineBits zx_lessEnd zx_moreEnd zx_desk_xs zx_desk_ys zm_there zm_ones zm_others zm_xs zm_ys zm_from zm_to zx_planeTest_highest := by
  rcases nit_cases zx_nodeBits p0 with ⟨e0, _⟩ | ⟨i, hi, rfl, hbi, e0⟩
  · refine ⟨(1, zx_web_near, zb), ?_, (0, 1, zm_piece), ?_, rfl, fun q => (n10 q).elim, hv⟩
    · unfold F_hingeW F_hingeT
      rw [e0, if_pos rfl]; rfl
    · unfold F_hingeM
      rw [isThere_eq hv.2.2.1, e0, Option.bind_some, if_pos rfl]
      dsimp only
      rw [ref_1]; rfl
  · obtain ⟨N, hN, h1, h2⟩ := pc_all hv
    obtain ⟨M, hM, g1, g2⟩ := pieces_both hv (U := zx_nodeBits &&& (((1 : Int32) <<< (nI i &&& 31)) ^^^ (-1))) (v := zx_lineBits) (v1 := nI i) (v2 := -1) (fun j hj => by
      rw [clr_bit (by omega) j, hv.1 j hj]; rfl) (fun j hj => by
      rw [clr_bit (by omega) j, Bool.and_eq_true, nI_eq_iff (by omega) (by omega)]; simp) (fun l hl => ⟨fun h => ⟨h, nI_nm1 (by omega)⟩, fun h => h.1⟩)
    obtain ⟨R, e1, q1⟩ := g1 zx_web_near
    obtain ⟨R2, e2, q2⟩ := h1 R.2
    obtain ⟨S, e3, q3⟩ := g2 zm_piece
    obtain ⟨S2, e4, q4⟩ := h2 S.2
    have hT : F_hingeT zx_nodeBits zx_lineBits zx_lessEnd zx_moreEnd zx_web_near (nI i) = (if nI M ≤ nI N then some (0, (0 : Int32), R2.2) else some (0, (1 : Int32), R2.2)) := by
      unfold F_hingeT
      rw [e0, if_neg n10, e1, Option.bind_some, e2, Option.bind_some, q1, q2]
    have hM2 : F_hingeM zm_there zm_ones zm_others zm_piece (nI i) = (if nI M ≤ nI N then some ((0 : Int32), 0, S2.2) else some ((1 : Int32), 0, S2.2)) := by
      unfold F_hingeM
      rw [isThere_eq hv.2.2.1, e0, Option.bind_some, if_neg n10]
      dsimp only
      rw [ref_0, Option.bind_some, if_pos rfl, e3, Option.bind_some, e4, Option.bind_some, q3, q4]
    by_cases c : nI M ≤ nI N
    · rw [if_pos c] at hT hM2
      refine ⟨(0, R2.2, vp_updL zb 0 0), ?_, _, hM2, rfl, fun _ => rfl, hv⟩
      unfold F_hingeW
      rw [hT]; rfl
    · rw [if_neg c] at hT hM2
      refine ⟨(0, R2.2, vp_updL zb 0 1), ?_, _, hM2, rfl, fun _ => rfl, hv⟩
      unfold F_hingeW
      rw [hT]; rfl
