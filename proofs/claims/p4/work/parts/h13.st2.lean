def third (on ot : Nat → Int32) (v w : Int32) : Option Int32 := (F_lineBetweenM on ot v w).bind (fun p => if 0 ≤ p then some 1 else (F_firstFreeM on).bind (fun q => if q = 24 then some 1 else some 0))
def lineW (on ot : Nat → Int32) (v w t : Int32) : Option (Int32 × Int32 × (Nat → Int32) × (Nat → Int32)) := (F_firstFreeM on).bind (fun p => if inb p 24 = true then (if w ≤ v then some (p, t, upd on (Int32.toNatClampNeg p) (if w ≤ v then w else v), upd ot (Int32.toNatClampNeg p) v) else some (p, t, upd on (Int32.toNatClampNeg p) (if w ≤ v then w else v), upd ot (Int32.toNatClampNeg p) w)) else none)
theorem lineM_eq {mt on ot : Nat → Int32} {nb : Int32} (h3 : ∀ i, i < 10 → mt i = if bit nb i = true then 1 else 0) (v w j : Int32) (hj : third on ot v w = some j) : F_lineM mt on ot v w = (F_refusedM (if f_nit nb v = 0 then 1 else if f_nit nb w = 0 then 1 else 0) (if v = w then 1 else 0) j).bind (fun p => if p.1 = 0 then lineW on ot v w p.2 else some (0, p.2, on, ot)) := by
  unfold F_lineM lineW
  unfold third at hj
  rw [isThere_eq h3, isThere_eq h3]
  cases hB : F_lineBetweenM on ot v w with
  | none => rw [hB] at hj; cases hj
  | some b =>
    rw [hB] at hj
    simp only [Option.bind_some] at hj ⊢
    rw [hj]
    by_cases a : f_nit nb v = 0
    · rw [if_pos a, if_pos a]; simp only [Option.bind_some]
    · rw [if_neg a, if_neg a]
      by_cases c : f_nit nb w = 0
      · rw [if_pos c, if_pos c]; simp only [Option.bind_some]
      · rw [if_neg c, if_neg c]; simp only [Option.bind_some]
theorem inv_le {nb lb : Int32} {le mo dx dy mt on ot mx my fr to hi : Nat → Int32} (hv : Inv nb lb le mo dx dy mt on ot mx my fr to hi) {l : Nat} (hl : l < 24) (hb : bit lb l = true) : le l = on l ∧ mo l = ot l := by
  obtain ⟨a, b, _, _, _, _, q5, q6, q7, q8⟩ := hv.2.2.2.2.1 l hl hb
  exact ⟨q5.trans q7.symm, q6.trans q8.symm⟩
theorem jn_iff {nb lb : Int32} {le mo dx dy mt on ot mx my fr to hi : Nat → Int32} (hv : Inv nb lb le mo dx dy mt on ot mx my fr to hi) {v w : Int32} (hvw : v ≠ w) : jn lb le mo v w ↔ ∃ l, l < 24 ∧ jm on ot v w l := by
  constructor
  · rintro ⟨l, hl, hb, h1, h2⟩
    obtain ⟨e1, e2⟩ := inv_le hv hl hb
    rw [e1, e2] at h1 h2
    refine ⟨l, hl, fun h9 => by rw [(inv_live hv l hl).mp h9] at hb; exact absurd hb (by decide), ?_⟩
    rcases h1 with h1 | h1 <;> rcases h2 with h2 | h2
    · exact absurd (h1.symm.trans h2) hvw
    · exact Or.inl ⟨h1, h2⟩
    · exact Or.inr ⟨h2, h1⟩
    · exact absurd (h1.symm.trans h2) hvw
  · rintro ⟨l, hl, h0, h1⟩
    have hb : bit lb l = true := by
      cases hb : bit lb l with
      | true => rfl
      | false => exact absurd ((inv_live hv l hl).mpr hb) h0
    obtain ⟨e1, e2⟩ := inv_le hv hl hb
    refine ⟨l, hl, hb, ?_⟩
    rw [e1, e2]
    rcases h1 with ⟨a, b⟩ | ⟨a, b⟩
    · exact ⟨Or.inl a, Or.inr b⟩
    · exact ⟨Or.inr b, Or.inl a⟩
theorem third_tot {nb lb : Int32} {le mo dx dy mt on ot mx my fr to hi : Nat → Int32} (hv : Inv nb lb le mo dx dy mt on ot mx my fr to hi) (v w : Int32) : ∃ j, third on ot v w = some j := by
  unfold third
  rcases lineB_eq on ot v w with ⟨e, _⟩ | ⟨l, hl, _, e⟩
  · rw [e]
    rcases free_eq (inv_live hv) with ⟨l, h1, h2, h3, h4⟩ | ⟨h1, h2⟩
    · rw [h4]
      show ∃ j, (if (0 : Int32) ≤ -1 then some 1 else if nI l = 24 then some (1 : Int32) else some 0) = some j
      rw [if_neg (by decide)]
      by_cases c : nI l = 24
      · exact ⟨1, by rw [if_pos c]⟩
      · exact ⟨0, by rw [if_neg c]⟩
    · rw [h2]
      exact ⟨1, rfl⟩
  · rw [e]
    exact ⟨1, by show (if 0 ≤ nI l then some (1 : Int32) else _) = _; rw [if_pos (nI_0le (by omega))]⟩
theorem st_line (zx_nodeBits : Int32) (zx_lineBits : Int32) (zx_lessEnd : Nat → Int32) (zx_moreEnd : Nat → Int32) (zx_web_near : Nat → Int32) (zx_planeTest_backLines : Int32) (zx_planeTest_clash : Int32) (zx_planeTest_depthOf : Nat → Int32) (zx_planeTest_endingAt : Nat → Int32) (zx_planeTest_returns : Nat → Int32) (zx_planeTest_highest : Nat → Int32) (zx_planeTest_alike : Nat → Int32) (zx_planeTest_opposed : Nat → Int32) (zx_palette_there : Int32) (zx_palette_allowed : Int32) (zx_palette_shades : Nat → Int32) (zx_desk_xs : Nat → Int32) (zx_desk_ys : Nat → Int32) (zm_thrown : Int32) (zm_many : Int32) (zm_there : Nat → Int32) (zm_ones : Nat → Int32) (zm_others : Nat → Int32) (zm_xs : Nat → Int32) (zm_ys : Nat → Int32) (zm_a : Nat → Int32) (zm_b : Nat → Int32) (zm_from : Nat → Int32) (zm_to : Nat → Int32) (zm_way : Nat → Int32) (zm_depth : Nat → Int32) (zm_above : Nat → Int32) (zm_pile : Nat → Int32) (zm_next : Nat → Int32) (zm_leader : Nat → Int32) (zm_turned : Nat → Int32) (zm_piece : Nat → Int32) (zm_numbers : Nat → Int32) (zm_row : Nat → Int32) (zb : Nat → Int64) (p0 p1 : Int32) (hv : Inv zx_nodeBits zx_lineBits zx_lessEnd zx_moreEnd zx_desk_xs zx_desk_ys zm_there zm_ones zm_others zm_xs zm_ys zm_from zm_to zx_planeTest_highest) : ∃ Rx, F_lineW zx_nodeBits zx_lineBits zx_lessEnd zx_moreEnd zb p0 p1 = some Rx ∧ ∃ Rm, F_lineM zm_there zm_ones zm_others p0 p1 = some Rm ∧ (Rm.2.1 = Rx.1) ∧ (Rx.1 = 0 → Rx.2.2.2.2 0 = Int32.toInt64 Rm.1) ∧ Inv zx_nodeBits Rx.2.1 Rx.2.2.1 Rx.2.2.2.1 zx_desk_xs zx_desk_ys zm_there Rm.2.2.1 Rm.2.2.2 zm_xs zm_ys zm_from zm_to zx_planeTest_highest := by
  obtain ⟨h1, h2, h3, h4, h5, h6, h7, h8, h9⟩ := id hv
  obtain ⟨j, hj⟩ := third_tot hv p0 p1
  have hM := lineM_eq h3 p0 p1 j hj
  have bad : f_nit zx_nodeBits p0 = 0 ∨ f_nit zx_nodeBits p1 = 0 → F_lineM zm_there zm_ones zm_others p0 p1 = some (0, 1, zm_ones, zm_others) ∧ F_lineW zx_nodeBits zx_lineBits zx_lessEnd zx_moreEnd zb p0 p1 = some (1, zx_lineBits, zx_lessEnd, zx_moreEnd, zb) := by
    intro hc
    have e : (if f_nit zx_nodeBits p0 = 0 then (1 : Int32) else if f_nit zx_nodeBits p1 = 0 then 1 else 0) = 1 := by
      by_cases c : f_nit zx_nodeBits p0 = 0
      · rw [if_pos c]
      · rw [if_neg c, if_pos (hc.resolve_left c)]
    refine ⟨by rw [hM, e, ref_1]; rfl, ?_⟩
    unfold F_lineW F_lineT
    by_cases c : f_nit zx_nodeBits p0 = 0
    · rw [if_pos c]; rfl
    · rw [if_neg c, if_pos (hc.resolve_left c)]; rfl
  rcases nit_cases zx_nodeBits p0 with ⟨e0, _⟩ | ⟨i, hi, rfl, hbi, e0⟩
  · exact ⟨_, (bad (Or.inl e0)).2, _, (bad (Or.inl e0)).1, rfl, fun q => (by first | exact (n10 q).elim | exact (n20 q).elim | exact (n30 q).elim), hv⟩
  rcases nit_cases zx_nodeBits p1 with ⟨e1, _⟩ | ⟨k, hk, rfl, hbk, e1⟩
  · exact ⟨_, (bad (Or.inr e1)).2, _, (bad (Or.inr e1)).1, rfl, fun q => (by first | exact (n10 q).elim | exact (n20 q).elim | exact (n30 q).elim), hv⟩
  rw [e0, e1, if_neg (by decide), if_neg (by decide)] at hM
  by_cases hik : nI i = nI k
  · rw [if_pos hik, ref_2] at hM
    refine ⟨(2, zx_lineBits, zx_lessEnd, zx_moreEnd, zb), ?_, _, hM, rfl, fun q => (by first | exact (n10 q).elim | exact (n20 q).elim | exact (n30 q).elim), hv⟩
    unfold F_lineW F_lineT
    rw [e0, e1, if_neg (by decide), if_neg (by decide), if_pos hik]; rfl
  rw [if_neg hik] at hM
  have hT : F_lineT zx_nodeBits zx_lineBits zx_lessEnd zx_moreEnd (nI i) (nI k) = ((F_freeNumberG zx_lineBits).bind (fun p_42 => (if p_42 = ((-1)) then some (2, 0, zx_lineBits, zx_lessEnd, zx_moreEnd) else ((F_joinedG zx_lineBits zx_lessEnd zx_moreEnd (nI i) (nI k)).bind (fun p_54 => (if p_54 = 0 then (if inb p_42 24 = true then some (0, p_42, zx_lineBits ||| (((1 : Int32)) <<< (p_42 &&& 31)), upd zx_lessEnd (Int32.toNatClampNeg p_42) (if (nI k) < (nI i) then (nI k) else (nI i)), upd zx_moreEnd (Int32.toNatClampNeg p_42) (if (nI i) < (nI k) then (nI k) else (nI i))) else none) else some (2, 0, zx_lineBits, zx_lessEnd, zx_moreEnd))))))) := by
    unfold F_lineT
    rw [e0, e1, if_neg (by decide), if_neg (by decide), if_neg hik]
  have no : third zm_ones zm_others (nI i) (nI k) = some 1 → F_lineT zx_nodeBits zx_lineBits zx_lessEnd zx_moreEnd (nI i) (nI k) = some (2, 0, zx_lineBits, zx_lessEnd, zx_moreEnd) → ∃ Rx, F_lineW zx_nodeBits zx_lineBits zx_lessEnd zx_moreEnd zb (nI i) (nI k) = some Rx ∧ ∃ Rm, F_lineM zm_there zm_ones zm_others (nI i) (nI k) = some Rm ∧ (Rm.2.1 = Rx.1) ∧ (Rx.1 = 0 → Rx.2.2.2.2 0 = Int32.toInt64 Rm.1) ∧ Inv zx_nodeBits Rx.2.1 Rx.2.2.1 Rx.2.2.2.1 zx_desk_xs zx_desk_ys zm_there Rm.2.2.1 Rm.2.2.2 zm_xs zm_ys zm_from zm_to zx_planeTest_highest := by
    intro q1 q2
    rw [q1] at hj
    cases hj
    rw [ref_3] at hM
    refine ⟨(3, zx_lineBits, zx_lessEnd, zx_moreEnd, zb), ?_, _, hM, rfl, fun q => (by first | exact (n10 q).elim | exact (n20 q).elim | exact (n30 q).elim), hv⟩
    unfold F_lineW
    rw [q2]; rfl
  rcases free_eq (inv_live hv) with ⟨l, hl, hbl, f1, f2⟩ | ⟨f1, f2⟩
  · have hl1 : ¬ nI l = -1 := nI_nm1 (by omega)
    have hT2 := hT
    rw [f1] at hT2
    have hT2 : F_lineT zx_nodeBits zx_lineBits zx_lessEnd zx_moreEnd (nI i) (nI k) = (if nI l = ((-1)) then some (2, 0, zx_lineBits, zx_lessEnd, zx_moreEnd) else ((F_joinedG zx_lineBits zx_lessEnd zx_moreEnd (nI i) (nI k)).bind (fun p_54 => (if p_54 = 0 then (if inb (nI l) 24 = true then some (0, nI l, zx_lineBits ||| (((1 : Int32)) <<< (nI l &&& 31)), upd zx_lessEnd (Int32.toNatClampNeg (nI l)) (if (nI k) < (nI i) then (nI k) else (nI i)), upd zx_moreEnd (Int32.toNatClampNeg (nI l)) (if (nI i) < (nI k) then (nI k) else (nI i))) else none) else some (2, 0, zx_lineBits, zx_lessEnd, zx_moreEnd))))) := hT2
    rw [if_neg hl1, if_pos (inb_nI hl (by decide)), nI_clamp (by omega)] at hT2
    rcases joined_eq zx_lineBits zx_lessEnd zx_moreEnd (nI i) (nI k) with ⟨g, hj2⟩ | ⟨g, hj2⟩
    · rw [g] at hT2
      have hnj : ∀ l, l < 24 → ¬ jm zm_ones zm_others (nI i) (nI k) l := fun l hl h => hj2 ((jn_iff hv hik).mpr ⟨l, hl, h⟩)
      have ht : third zm_ones zm_others (nI i) (nI k) = some 0 := by
        unfold third
        rcases lineB_eq zm_ones zm_others (nI i) (nI k) with ⟨e, _⟩ | ⟨l9, hl9, hm9, e⟩
        · rw [e, f2]
          show (if (0 : Int32) ≤ -1 then some 1 else if nI l = 24 then some (1 : Int32) else some 0) = some 0
          rw [if_neg (by decide), if_neg]
          intro h
          have h : nI l = nI 24 := h
          rw [nI_eq_iff (by omega) (by decide)] at h; omega
        · exact absurd hm9 (hnj l9 hl9)
      rw [ht] at hj
      cases hj
      rw [ref_0] at hM
      have hM2 : F_lineM zm_there zm_ones zm_others (nI i) (nI k) = lineW zm_ones zm_others (nI i) (nI k) 0 := hM
      unfold lineW at hM2
      rw [f2] at hM2
      have hM2 : F_lineM zm_there zm_ones zm_others (nI i) (nI k) = (if inb (nI l) 24 = true then (if nI k ≤ nI i then some (nI l, 0, upd zm_ones (Int32.toNatClampNeg (nI l)) (if nI k ≤ nI i then nI k else nI i), upd zm_others (Int32.toNatClampNeg (nI l)) (nI i)) else some (nI l, 0, upd zm_ones (Int32.toNatClampNeg (nI l)) (if nI k ≤ nI i then nI k else nI i), upd zm_others (Int32.toNatClampNeg (nI l)) (nI k))) else none) := hM2
      rw [if_pos (inb_nI hl (by decide)), nI_clamp (by omega)] at hM2
      obtain ⟨a, b, hab, hb10, hba, hbb, c1, c2, c3⟩ : ∃ a b : Nat, a < b ∧ b < 10 ∧ bit zx_nodeBits a = true ∧ bit zx_nodeBits b = true ∧ (if (nI k) < (nI i) then (nI k) else (nI i)) = nI a ∧ (if (nI i) < (nI k) then (nI k) else (nI i)) = nI b ∧ F_lineM zm_there zm_ones zm_others (nI i) (nI k) = some (nI l, 0, upd zm_ones l (nI a), upd zm_others l (nI b)) := by
        have hne : i ≠ k := fun h => hik (by rw [h])
        by_cases hlt : i < k
        · refine ⟨i, k, hlt, hk, hbi, hbk, ?_, ?_, ?_⟩
          · rw [if_neg]; rw [nLt (by omega) (by omega)]; omega
          · rw [if_pos]; rw [nLt (by omega) (by omega)]; omega
          · have c : ¬ nI k ≤ nI i := by rw [nLe (by omega) (by omega)]; omega
            rw [hM2, if_neg c, if_neg c]
        · refine ⟨k, i, by omega, hi, hbk, hbi, ?_, ?_, ?_⟩
          · rw [if_pos]; rw [nLt (by omega) (by omega)]; omega
          · rw [if_neg]; rw [nLt (by omega) (by omega)]; omega
          · have c : nI k ≤ nI i := by rw [nLe (by omega) (by omega)]; omega
            rw [hM2, if_pos c, if_pos c]
      rw [c1, c2] at hT2
      have hbit : ∀ j, bit (zx_lineBits ||| (1 : Int32) <<< (nI l &&& 31)) j = (bit zx_lineBits j || decide (j = l)) := fun j => by rw [bit_or, bit_shl (by omega)]
      have hab2 : jm zm_ones zm_others (nI a) (nI b) = jm zm_ones zm_others (nI i) (nI k) ∨ jm zm_ones zm_others (nI a) (nI b) = jm zm_ones zm_others (nI k) (nI i) := by
        by_cases hlt : nI k < nI i
        · rw [if_pos hlt] at c1
          rw [if_neg (fun h => by rw [nLt (by omega) (by omega)] at h hlt; omega)] at c2
          rw [← c1, ← c2]; exact Or.inr rfl
        · rw [if_neg hlt] at c1
          by_cases hlt2 : nI i < nI k
          · rw [if_pos hlt2] at c2
            rw [← c1, ← c2]; exact Or.inl rfl
          · exfalso
            rw [nLt (by omega) (by omega)] at hlt hlt2
            exact hik (by rw [show i = k by omega])
      have hnab : ∀ j, j < 24 → bit zx_lineBits j = true → ¬ (zm_ones j = nI a ∧ zm_others j = nI b) := by
        rintro j hj hbj ⟨z1, z2⟩
        have z0 : ¬ zm_ones j < 0 := by rw [z1]; exact nI_nn (by omega)
        have zz : jm zm_ones zm_others (nI a) (nI b) j := ⟨z0, Or.inl ⟨z1, z2⟩⟩
        rcases hab2 with h | h
        · rw [h] at zz; exact hnj j hj zz
        · rw [h] at zz; exact hnj j hj ⟨zz.1, zz.2.symm⟩
      refine ⟨(0, zx_lineBits ||| (1 : Int32) <<< (nI l &&& 31), upd zx_lessEnd l (nI a), upd zx_moreEnd l (nI b), vp_updL zb 0 (Int32.toInt64 (nI l))), ?_, (nI l, 0, upd zm_ones l (nI a), upd zm_others l (nI b)), c3, rfl, fun _ => out_eq (f := zb) rfl, ⟨h1, fun j hj => ?_, h3, fun j hj hj2 => ?_, fun j hj hj2 => ?_, fun j m hj hm hj2 hm2 => ?_, h7, h8, h9⟩⟩
      · unfold F_lineW
        rw [hT2]; rfl
      · show bit (zx_lineBits ||| _) j = false
        rw [hbit j, h2 j hj, decide_eq_false (by omega)]; rfl
      · have hj2 : bit (zx_lineBits ||| _) j = false := hj2
        rw [hbit j] at hj2
        have e1 : j ≠ l := fun e => by rw [decide_eq_true e] at hj2; simp at hj2
        show upd zm_ones l (nI a) j = -1
        rw [pk_un e1]
        exact h4 j hj (by rw [decide_eq_false e1] at hj2; simpa using hj2)
      · have hj2 : bit (zx_lineBits ||| _) j = true := hj2
        rw [hbit j] at hj2
        by_cases e1 : j = l
        · subst e1
          exact ⟨a, b, hab, hb10, hba, hbb, pk_us, pk_us, pk_us, pk_us⟩
        · rw [decide_eq_false e1, Bool.or_false] at hj2
          obtain ⟨a', b', r1, r2, r3, r4, r5, r6, r7, r8⟩ := h5 j hj hj2
          exact ⟨a', b', r1, r2, r3, r4, (pk_un e1).trans r5, (pk_un e1).trans r6, (pk_un e1).trans r7, (pk_un e1).trans r8⟩
      · have kj2 : bit (zx_lineBits ||| _) j = true := hj2
        have km2 : bit (zx_lineBits ||| _) m = true := hm2
        rw [hbit j] at kj2
        rw [hbit m] at km2
        show upd zm_ones l (nI a) j = upd zm_ones l (nI a) m → upd zm_others l (nI b) j = upd zm_others l (nI b) m → j = m
        by_cases e1 : j = l
        · by_cases e2 : m = l
          · intro _ _; rw [e1, e2]
          · subst e1
            rw [decide_eq_false e2, Bool.or_false] at km2
            rw [pk_us, pk_us, pk_un e2, pk_un e2]
            intro z1 z2
            exact absurd ⟨z1.symm, z2.symm⟩ (hnab m hm km2)
        · rw [decide_eq_false e1, Bool.or_false] at kj2
          by_cases e2 : m = l
          · subst e2
            rw [pk_us, pk_us, pk_un e1, pk_un e1]
            intro z1 z2
            exact absurd ⟨z1, z2⟩ (hnab j hj kj2)
          · rw [decide_eq_false e2, Bool.or_false] at km2
            rw [pk_un e1, pk_un e1, pk_un e2, pk_un e2]
            exact h6 j m hj hm kj2 km2
    · rw [g] at hT2
      refine no ?_ hT2
      obtain ⟨l9, hl9, hm9⟩ := (jn_iff hv hik).mp hj2
      unfold third
      rcases lineB_eq zm_ones zm_others (nI i) (nI k) with ⟨e, hn⟩ | ⟨l8, hl8, hm8, e⟩
      · exact absurd hm9 (hn l9 hl9)
      · rw [e]
        show (if 0 ≤ nI l8 then some (1 : Int32) else _) = _
        rw [if_pos (nI_0le (by omega))]
  · refine no ?_ (by rw [hT, f1]; rfl)
    unfold third
    rcases lineB_eq zm_ones zm_others (nI i) (nI k) with ⟨e, hn⟩ | ⟨l8, hl8, hm8, e⟩
    · rw [e, f2]; rfl
    · rw [e]
      show (if 0 ≤ nI l8 then some (1 : Int32) else _) = _
      rw [if_pos (nI_0le (by omega))]
theorem st_drop (zx_nodeBits : Int32) (zx_lineBits : Int32) (zx_lessEnd : Nat → Int32) (zx_moreEnd : Nat → Int32) (zx_web_near : Nat → Int32) (zx_planeTest_backLines : Int32) (zx_planeTest_clash : Int32) (zx_planeTest_depthOf : Nat → Int32) (zx_planeTest_endingAt : Nat → Int32) (zx_planeTest_returns : Nat → Int32) (zx_planeTest_highest : Nat → Int32) (zx_planeTest_alike : Nat → Int32) (zx_planeTest_opposed : Nat → Int32) (zx_palette_there : Int32) (zx_palette_allowed : Int32) (zx_palette_shades : Nat → Int32) (zx_desk_xs : Nat → Int32) (zx_desk_ys : Nat → Int32) (zm_thrown : Int32) (zm_many : Int32) (zm_there : Nat → Int32) (zm_ones : Nat → Int32) (zm_others : Nat → Int32) (zm_xs : Nat → Int32) (zm_ys : Nat → Int32) (zm_a : Nat → Int32) (zm_b : Nat → Int32) (zm_from : Nat → Int32) (zm_to : Nat → Int32) (zm_way : Nat → Int32) (zm_depth : Nat → Int32) (zm_above : Nat → Int32) (zm_pile : Nat → Int32) (zm_next : Nat → Int32) (zm_leader : Nat → Int32) (zm_turned : Nat → Int32) (zm_piece : Nat → Int32) (zm_numbers : Nat → Int32) (zm_row : Nat → Int32) (zb : Nat → Int64) (p0 : Int32) (hv : Inv zx_nodeBits zx_lineBits zx_lessEnd zx_moreEnd zx_desk_xs zx_desk_ys zm_there zm_ones zm_others zm_xs zm_ys zm_from zm_to zx_planeTest_highest) : ∃ Rx, F_dropW zx_nodeBits zx_lineBits zx_lessEnd zx_moreEnd zb p0 = some Rx ∧ ∃ Rm, F_dropM zm_there zm_ones zm_others p0 = some Rm ∧ (Rm.2.1 = Rx.1) ∧ (Rx.1 = 0 → Rx.2.2.2 0 = Int32.toInt64 Rm.1) ∧ Inv Rx.2.1 Rx.2.2.1 zx_lessEnd zx_moreEnd zx_desk_xs zx_desk_ys Rm.2.2.1 Rm.2.2.2 zm_others zm_xs zm_ys zm_from zm_to zx_planeTest_highest := by
  obtain ⟨h1, h2, h3, h4, h5, h6, h7, h8, h9⟩ := id hv
  have hl := inv_live hv
  rcases nit_cases zx_nodeBits p0 with ⟨e0, _⟩ | ⟨i, hi, rfl, hbi, e0⟩
  · refine ⟨(1, zx_nodeBits, zx_lineBits, zb), ?_, (0, 1, zm_there, zm_ones), ?_, rfl, fun q => (by first | exact (n10 q).elim | exact (n20 q).elim | exact (n30 q).elim), hv⟩
    · unfold F_dropW F_dropT
      rw [e0, if_pos rfl]; rfl
    · unfold F_dropM
      rw [isThere_eq h3, e0]
      simp only [Option.bind_some, n10, ↓reduceIte]
      rw [ref_1]; rfl
  · obtain ⟨g, eg, hg⟩ := linesOf_eq zx_lineBits zx_lessEnd zx_moreEnd (nI i)
    have hq : ∀ l, 0 ≤ l → l < 0 + 24 → (bit g l = true ↔ (¬ zm_ones l < 0 ∧ (zm_ones l = nI i ∨ zm_others l = nI i))) := by
      intro l _ hl24
      have hl24 : l < 24 := by omega
      rw [hg l, decide_eq_true hl24, Bool.true_and]
      cases hb : bit zx_lineBits l with
      | false => simp [(hl l hl24).mpr hb]
      | true =>
        obtain ⟨q1, q2⟩ := inv_le hv hl24 hb
        rw [q1, q2]
        have : ¬ zm_ones l < 0 := fun h => by rw [(hl l hl24).mp h] at hb; exact absurd hb (by decide)
        simp [this]
    have hgn : ∀ l, 24 ≤ l → bit g l = false := fun l h => by rw [hg l, decide_eq_false (by omega)]; rfl
    have hlb : ∀ j, bit (zx_lineBits &&& (g ^^^ (-1))) j = (bit zx_lineBits j && !bit g j) := by
      intro j
      by_cases hj : j < 32
      · rw [bit_and, bit_not hj]
      · rw [bit_ge _ (by omega), bit_ge zx_lineBits (by omega)]; rfl
    have hnb := fun j => clr_bit (x := zx_nodeBits) (i := i) (by omega) j
    have hD := dropM_L (K := fun v2_28 wm_ones_28 => (if inb (nI i) 10 = true then some (v2_28, (0 : Int32), upd zm_there (Int32.toNatClampNeg (nI i)) 0, wm_ones_28) else none)) (ot := zm_others) (v := nI i) (q := bit g) 24 0 0 zm_ones hq
    rw [if_pos (inb_nI hi (by decide)), nI_clamp (by omega), Nat.zero_add] at hD
    refine ⟨(0, zx_nodeBits &&& (((1 : Int32) <<< (nI i &&& 31)) ^^^ (-1)), zx_lineBits &&& (g ^^^ (-1)), vp_updL zb 0 (Int32.toInt64 (f_bc g))), ?_, (nI (cf (bit g) 24 0), 0, upd zm_there i 0, (fun j => if 0 ≤ j ∧ j < 0 + 24 ∧ bit g j = true then -1 else zm_ones j)), ?_, rfl, fun _ => ?_, ⟨fun j hj => ?_, fun j hj => ?_, fun j hj => ?_, fun j hj hj2 => ?_, fun j hj hj2 => ?_, fun j m hj hm hj2 hm2 => ?_, h7, h8, h9⟩⟩
    · unfold F_dropW F_dropT
      rw [e0, if_neg (by decide), eg]; rfl
    · unfold F_dropM
      rw [isThere_eq h3, e0]
      simp only [Option.bind_some, n10, ↓reduceIte]
      rw [ref_0]
      simp only [Option.bind_some, ↓reduceIte]
      rw [nI_clamp (by omega)]
      exact hD
    · exact out_eq (f := zb) (bc_lt (n := 24) (by decide) hgn)
    · show bit (zx_nodeBits &&& _) j = false
      rw [hnb j, h1 j hj]; rfl
    · show bit (zx_lineBits &&& _) j = false
      rw [hlb j, h2 j hj]; rfl
    · show upd zm_there i 0 j = if bit (zx_nodeBits &&& _) j = true then 1 else 0
      rw [hnb j]
      by_cases e1 : j = i
      · subst e1; rw [pk_us, decide_eq_true rfl]; simp
      · rw [pk_un e1, decide_eq_false e1, h3 j hj]; simp
    · have hj2 : bit (zx_lineBits &&& _) j = false := hj2
      rw [hlb j] at hj2
      show (if 0 ≤ j ∧ j < 0 + 24 ∧ bit g j = true then (-1 : Int32) else zm_ones j) = -1
      by_cases e1 : bit g j = true
      · rw [if_pos ⟨Nat.zero_le _, by omega, e1⟩]
      · rw [if_neg (fun h => e1 h.2.2)]
        exact h4 j hj (by rw [show bit g j = false by simpa using e1] at hj2; simpa using hj2)
    · have hj2 : bit (zx_lineBits &&& _) j = true := hj2
      rw [hlb j] at hj2
      have hj3 : bit zx_lineBits j = true ∧ bit g j = false := by simpa using hj2
      obtain ⟨a, b, r1, r2, r3, r4, r5, r6, r7, r8⟩ := h5 j hj hj3.1
      have hne : ¬ (zx_lessEnd j = nI i ∨ zx_moreEnd j = nI i) := by
        intro h
        have q := hg j
        rw [hj3.2, hj3.1, decide_eq_true hj, decide_eq_true h] at q
        exact absurd q (by decide)
      have ha : a ≠ i := fun e => hne (Or.inl (by rw [r5, e]))
      have hb : b ≠ i := fun e => hne (Or.inr (by rw [r6, e]))
      refine ⟨a, b, r1, r2, ?_, ?_, r5, r6, ?_, r8⟩
      · show bit (zx_nodeBits &&& _) a = true
        rw [hnb a, r3, decide_eq_false ha]; rfl
      · show bit (zx_nodeBits &&& _) b = true
        rw [hnb b, r4, decide_eq_false hb]; rfl
      · show (if 0 ≤ j ∧ j < 0 + 24 ∧ bit g j = true then (-1 : Int32) else zm_ones j) = _
        rw [if_neg (fun h => by rw [hj3.2] at h; exact absurd h.2.2 (by decide)), r7]
    · have hj2 : bit (zx_lineBits &&& _) j = true := hj2
      rw [hlb j] at hj2
      have hj3 : bit zx_lineBits j = true ∧ bit g j = false := by simpa using hj2
      have hm2 : bit (zx_lineBits &&& _) m = true := hm2
      rw [hlb m] at hm2
      have hm3 : bit zx_lineBits m = true ∧ bit g m = false := by simpa using hm2
      show (if 0 ≤ j ∧ j < 0 + 24 ∧ bit g j = true then (-1 : Int32) else zm_ones j) = (if 0 ≤ m ∧ m < 0 + 24 ∧ bit g m = true then (-1 : Int32) else zm_ones m) → _
      rw [if_neg (fun h => by rw [hj3.2] at h; exact absurd h.2.2 (by decide)), if_neg (fun h => by rw [hm3.2] at h; exact absurd h.2.2 (by decide))]
      exact h6 j m hj hm hj3.1 hm3.1
