def AJ (v : Int32) (le mo : Nat → Int32) (i j : Nat) : Prop := ∃ l, l < 24 ∧ bit v l = true ∧ ((le l = nI i ∧ mo l = nI j) ∨ (le l = nI j ∧ mo l = nI i))
theorem AJ.symm {v : Int32} {le mo : Nat → Int32} {i j : Nat} (h : AJ v le mo i j) : AJ v le mo j i := by
  obtain ⟨l, h1, h2, h3⟩ := h
  exact ⟨l, h1, h2, h3.symm⟩
theorem join_bits (w : Nat → Int32) {a b : Nat} (ha : a < 11) (hb : b < 11) : Ok (F_joinG w (nI a) (nI b)) (fun u => ∀ i j, bit (u i) j = (bit (w i) j || (decide (i = a) && decide (j = b)) || (decide (i = b) && decide (j = a)))) := by
  unfold F_joinG
  refine ok_th (inb_nI ha (by decide)) (ok_th (inb_nI hb (by decide)) ?_)
  rw [nI_clamp (by omega), nI_clamp (by omega)]
  refine ok_some (fun i j => ?_)
  by_cases h1 : i = b
  · subst h1
    rw [pk_us, bit_or, bit_shl (by omega)]
    by_cases h2 : i = a
    · subst h2
      rw [pk_us, bit_or, bit_shl (by omega)]; simp
    · rw [pk_un h2, decide_eq_false h2]; simp
  · rw [pk_un h1, decide_eq_false h1]
    by_cases h2 : i = a
    · subst h2
      rw [pk_us, bit_or, bit_shl (by omega)]; simp
    · rw [pk_un h2, decide_eq_false h2]; simp
theorem spin_bits_L {le mo : Nat → Int32} {v : Int32} (hv : LV le mo v) : ∀ (n k : Nat) (w : Nat → Int32), k + n = 24 → (∀ i j, i < 11 → (bit (w i) j = true ↔ ∃ l, l < k ∧ bit v l = true ∧ ((le l = nI i ∧ mo l = nI j ∧ j < 10) ∨ (le l = nI j ∧ mo l = nI i ∧ j < 10)))) → Ok (F_spinG_L9 (fun w => some w) le mo v n k w) (fun u => ∀ i j, i < 11 → (bit (u i) j = true ↔ ∃ l, l < 24 ∧ bit v l = true ∧ ((le l = nI i ∧ mo l = nI j ∧ j < 10) ∨ (le l = nI j ∧ mo l = nI i ∧ j < 10))))
  | 0, k, w, hk, h => by
    rw [F_spinG_L9]
    have : k = 24 := by omega
    subst this
    exact ok_some h
  | n + 1, k, w, hk, h => by
    rw [F_spinG_L9]
    refine ok_if (fun hb => ?_) (fun hb => ?_)
    · rw [has0_iff (by omega)] at hb
      refine spin_bits_L hv n (k + 1) w (by omega) (fun i j hi => ?_)
      rw [h i j hi]
      constructor
      · rintro ⟨l, h1, h2⟩; exact ⟨l, by omega, h2⟩
      · rintro ⟨l, h1, h2, h3⟩
        refine ⟨l, ?_, h2, h3⟩
        by_cases c : l = k
        · rw [c, hb] at h2; exact absurd h2 (by decide)
        · omega
    · have hbk : bit v k = true := by
        cases hx : bit v k with
        | true => rfl
        | false => exact absurd ((has0_iff (by omega)).mpr hx) hb
      obtain ⟨a, b, ha, hb2, e1, e2⟩ := hv k (by omega) hbk
      rw [e1, e2]
      refine ok_bind (join_bits w (show a < 11 by omega) (show b < 11 by omega)) (fun u hu => spin_bits_L hv n (k + 1) u (by omega) (fun i j hi => ?_))
      rw [hu i j]
      simp only [Bool.or_eq_true, Bool.and_eq_true, decide_eq_true_eq]
      rw [h i j hi]
      constructor
      · rintro ((⟨l, h1, h2⟩ | ⟨q1, q2⟩) | ⟨q1, q2⟩)
        · exact ⟨l, by omega, h2⟩
        · exact ⟨k, by omega, hbk, Or.inl ⟨by rw [e1, q1], by rw [e2, q2], by omega⟩⟩
        · exact ⟨k, by omega, hbk, Or.inr ⟨by rw [e1, q2], by rw [e2, q1], by omega⟩⟩
      · rintro ⟨l, h1, h2, h3⟩
        by_cases c : l = k
        · subst c
          rcases h3 with ⟨q1, q2, q3⟩ | ⟨q1, q2, q3⟩
          · rw [e1, nI_eq_iff (by omega) (by omega)] at q1
            rw [e2, nI_eq_iff (by omega) (by omega)] at q2
            exact Or.inl (Or.inr ⟨q1.symm, q2.symm⟩)
          · rw [e1, nI_eq_iff (by omega) (by omega)] at q1
            rw [e2, nI_eq_iff (by omega) (by omega)] at q2
            exact Or.inr ⟨q2.symm, q1.symm⟩
        · exact Or.inl (Or.inl ⟨l, by omega, h2, h3⟩)
theorem spin_bits {le mo near : Nat → Int32} {v : Int32} (hv : LV le mo v) : Ok (F_spinG le mo near v) (fun u => ∀ i j, i < 11 → (bit (u i) j = true ↔ j < 10 ∧ AJ v le mo i j)) := by
  unfold F_spinG F_clearG
  rw [Option.bind_some]
  refine ok_mono (spin_bits_L hv 24 0 _ rfl (fun i j hi => ?_)) (fun u hu i j hi => ?_)
  · unfold f_fill
    rw [if_pos hi, bit_zero]
    constructor
    · intro h; exact absurd h (by decide)
    · rintro ⟨l, h1, _⟩; exact absurd h1 (Nat.not_lt_zero _)
  · rw [hu i j hi]
    constructor
    · rintro ⟨l, h1, h2, h3⟩
      rcases h3 with ⟨q1, q2, q3⟩ | ⟨q1, q2, q3⟩
      · exact ⟨q3, l, h1, h2, Or.inl ⟨q1, q2⟩⟩
      · exact ⟨q3, l, h1, h2, Or.inr ⟨q1, q2⟩⟩
    · rintro ⟨q3, l, h1, h2, h3⟩
      rcases h3 with ⟨q1, q2⟩ | ⟨q1, q2⟩
      · exact ⟨l, h1, h2, Or.inl ⟨q1, q2, q3⟩⟩
      · exact ⟨l, h1, h2, Or.inr ⟨q1, q2, q3⟩⟩
theorem LV_of {nb lb : Int32} {le mo dx dy mt on ot mx my fr to hi : Nat → Int32} (hv : Inv nb lb le mo dx dy mt on ot mx my fr to hi) : LV le mo lb := fun l hl hb => by
  obtain ⟨a, b, q1, q2, q3, q4, q5, q6, q7, q8⟩ := hv.2.2.2.2.1 l hl hb
  exact ⟨a, b, by omega, q2, q5, q6⟩
theorem OT_of {nb lb : Int32} {le mo dx dy mt on ot mx my fr to hi : Nat → Int32} (hv : Inv nb lb le mo dx dy mt on ot mx my fr to hi) : OT on ot := fun l hl h0 => by
  obtain ⟨a, b, q1, q2, q3, q4, q5, q6, q7, q8⟩ := hv.2.2.2.2.1 l hl (by
    cases hb : bit lb l with
    | true => rfl
    | false => exact absurd ((inv_live hv l hl).mpr hb) h0)
  exact ⟨a, b, by omega, q2, q7, q8⟩
