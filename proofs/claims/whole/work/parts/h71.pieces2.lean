theorem relabel_L {K : (Nat → Int32) → Option (Int32 × (Nat → Int32))} {on ot : Nat → Int32} {k54 : Nat} {q : Nat → Int32} {a b : Nat} (ha : a < 10) (hb : b < 10) (e1 : on k54 = nI a) (e2 : ot k54 = nI b) (hne : q a ≠ q b) : ∀ (n k : Nat) (w : Nat → Int32), k + n = 10 → (∀ i, i < 10 → w i = if i < k ∧ q i = q b then q a else q i) → ∃ w', F_piecesWithoutM_L155 K on ot k54 q n k w = K w' ∧ ∀ i, i < 10 → w' i = if q i = q b then q a else q i
  | 0, k, w, hk, h => ⟨w, by rw [F_piecesWithoutM_L155], fun i hi => by
      rw [h i hi]
      by_cases c : q i = q b
      · rw [if_pos ⟨by omega, c⟩, if_pos c]
      · rw [if_neg (fun h9 => c h9.2), if_neg c]⟩
  | n + 1, k, w, hk, h => by
    have hwk : w k = q k := by rw [h k (by omega), if_neg (by omega)]
    have hwa : w a = q a := by rw [h a ha, if_neg (fun h9 => hne h9.2)]
    rw [F_piecesWithoutM_L155, e1, e2, nI_clamp (by omega), nI_clamp (by omega), hwa, hwk]
    by_cases c : q k = q b
    · rw [if_pos c]
      refine relabel_L ha hb e1 e2 hne n (k + 1) _ (by omega) (fun i hi => ?_)
      by_cases d : i = k
      · subst d; rw [pk_us, if_pos ⟨by omega, c⟩]
      · rw [pk_un d, h i hi]
        by_cases f : i < k ∧ q i = q b
        · rw [if_pos f, if_pos ⟨by omega, f.2⟩]
        · rw [if_neg f, if_neg (fun h9 => f ⟨by omega, h9.2⟩)]
    · rw [if_neg c]
      refine relabel_L ha hb e1 e2 hne n (k + 1) _ (by omega) (fun i hi => ?_)
      by_cases d : i = k
      · subst d; rw [pk_us, if_neg (fun h9 => c h9.2)]
      · rw [pk_un d, h i hi]
        by_cases f : i < k ∧ q i = q b
        · rw [if_pos f, if_pos ⟨by omega, f.2⟩]
        · rw [if_neg f, if_neg (fun h9 => f ⟨by omega, h9.2⟩)]
def fl (U : Nat → Bool) (q : Nat → Int32) (i : Nat) : Bool := U i && decide (∀ j, j < i → U j = true → q j ≠ q i)
theorem first_of {U : Nat → Bool} {q : Nat → Int32} {x : Int32} : ∀ (n i : Nat), i < n → U i = true → q i = x → ∃ m, m ≤ i ∧ U m = true ∧ q m = x ∧ ∀ j, j < m → U j = true → q j ≠ x := by
  intro n
  induction n with
  | zero => intro i h; omega
  | succ n ih =>
    intro i hi hU hq
    by_cases h : ∃ j, j < i ∧ U j = true ∧ q j = x
    · obtain ⟨j, h1, h2, h3⟩ := h
      obtain ⟨m, q1, q2⟩ := ih j (by omega) h2 h3
      exact ⟨m, by omega, q2⟩
    · exact ⟨i, Nat.le_refl _, hU, hq, fun j h1 h2 h3 => h ⟨j, h1, h2, h3⟩⟩
theorem merge_cf {U : Nat → Bool} {q q' : Nat → Int32} {a b : Nat} (ha : a < 10) (hb : b < 10) (hUa : U a = true) (hUb : U b = true) (hne : q a ≠ q b) (hq' : ∀ i, i < 10 → q' i = if q i = q b then q a else q i) : cf (fl U q) 10 0 = cf (fl U q') 10 0 + 1 := by
  obtain ⟨m, hm1, hm2, hm3, hm4⟩ := first_of (U := U) (q := q) (x := q a) 10 a ha hUa rfl
  obtain ⟨l, hl1, hl2, hl3, hl4⟩ := first_of (U := U) (q := q) (x := q b) 10 b hb hUb rfl
  have hml : m ≠ l := fun e => hne (by rw [← hm3, e, hl3])
  have same : ∀ i j, i < 10 → j < 10 → (q' i = q' j ↔ q i = q j ∨ ((q i = q a ∨ q i = q b) ∧ (q j = q a ∨ q j = q b))) := fun i j hi hj => by
    rw [hq' i hi, hq' j hj]
    by_cases c : q i = q b
    · rw [if_pos c]
      by_cases d : q j = q b
      · rw [if_pos d]; exact ⟨fun _ => Or.inl (c.trans d.symm), fun _ => rfl⟩
      · rw [if_neg d]
        constructor
        · intro h; exact Or.inr ⟨Or.inr c, Or.inl h.symm⟩
        · rintro (h | ⟨_, h | h⟩)
          · exact absurd (h.symm.trans c) d
          · exact h.symm
          · exact absurd h d
    · rw [if_neg c]
      by_cases d : q j = q b
      · rw [if_pos d]
        constructor
        · intro h; exact Or.inr ⟨Or.inl h, Or.inr d⟩
        · rintro (h | ⟨h | h, _⟩)
          · exact absurd (h.trans d) c
          · exact h
          · exact absurd h c
      · rw [if_neg d]
        constructor
        · intro h; exact Or.inl h
        · rintro (h | ⟨h | h, g | g⟩)
          · exact h
          · rw [h, g]
          · exact absurd g d
          · exact absurd h c
          · exact absurd h c
  have flq : ∀ (p : Nat → Int32) (i : Nat), fl U p i = true ↔ U i = true ∧ ∀ j, j < i → U j = true → p j ≠ p i := fun p i => by
    unfold fl
    rw [Bool.and_eq_true, decide_eq_true_eq]
  have key : ∀ M, M < 10 → (M = m ∧ l < m ∨ M = l ∧ m < l) → cf (fl U q) 10 0 = cf (fl U q') 10 0 + 1 := by
    intro M hM hMM
    have e1 : cf (fl U q) 10 0 = cf (fun i => fl U q i && decide (i < 10)) 10 0 := cf_congr 10 0 (fun i _ h => by rw [decide_eq_true (by omega), Bool.and_true])
    have e2 : cf (fl U q') 10 0 = cf (fun i => fl U q' i && decide (i < 10)) 10 0 := cf_congr 10 0 (fun i _ h => by rw [decide_eq_true (by omega), Bool.and_true])
    rw [e1, e2]
    refine cf_clear (i := M) ?_ ?_ (fun i hi => ?_) 10 0 (Nat.zero_le _) (by omega)
    · show (fl U q M && decide (M < 10)) = true
      rw [decide_eq_true hM, Bool.and_true, flq]
      rcases hMM with ⟨rfl, _⟩ | ⟨rfl, _⟩
      · exact ⟨hm2, fun j h1 h2 => by rw [hm3]; exact hm4 j h1 h2⟩
      · exact ⟨hl2, fun j h1 h2 => by rw [hl3]; exact hl4 j h1 h2⟩
    · show (fl U q' M && decide (M < 10)) = false
      rw [decide_eq_true hM, Bool.and_true]
      cases hc : fl U q' M with
      | false => rfl
      | true =>
        exfalso
        have h9 := ((flq q' M).mp hc).2
        rcases hMM with ⟨rfl, h⟩ | ⟨rfl, h⟩
        · exact h9 l h hl2 ((same l M (by omega) hM).mpr (Or.inr ⟨Or.inr hl3, Or.inl hm3⟩))
        · exact h9 m h hm2 ((same m M (by omega) hM).mpr (Or.inr ⟨Or.inl hm3, Or.inr hl3⟩))
    · show (fl U q' i && decide (i < 10)) = (fl U q i && decide (i < 10))
      by_cases hi10 : i < 10
      · rw [decide_eq_true hi10, Bool.and_true, Bool.and_true]
        have : fl U q' i = true ↔ fl U q i = true := by
          rw [flq, flq]
          constructor
          · rintro ⟨h1, h2⟩
            exact ⟨h1, fun j hj hUj e => h2 j hj hUj ((same j i (by omega) hi10).mpr (Or.inl e))⟩
          · rintro ⟨h1, h2⟩
            refine ⟨h1, fun j hj hUj e => ?_⟩
            rcases (same j i (by omega) hi10).mp e with g | ⟨g1, g2⟩
            · exact h2 j hj hUj g
            · -- i has one of the two labels, so it is one of the two firsts: not the later, so the earlier
              have him : i = m ∨ i = l := by
                rcases g2 with g | g
                · refine Or.inl ?_
                  rcases Nat.lt_trichotomy i m with t | t | t
                  · exact absurd g (hm4 i t h1)
                  · exact t
                  · exact absurd (hm3.trans g.symm) (h2 m t hm2)
                · refine Or.inr ?_
                  rcases Nat.lt_trichotomy i l with t | t | t
                  · exact absurd g (hl4 i t h1)
                  · exact t
                  · exact absurd (hl3.trans g.symm) (h2 l t hl2)
              have hj2 : m ≤ j ∨ l ≤ j := by
                rcases g1 with g | g
                · exact Or.inl (Nat.le_of_not_lt (fun t => hm4 j t hUj g))
                · exact Or.inr (Nat.le_of_not_lt (fun t => hl4 j t hUj g))
              rcases hMM with ⟨e, t⟩ | ⟨e, t⟩ <;> rcases him with r | r <;> omega
        cases h1 : fl U q' i <;> cases h2 : fl U q i <;> simp_all
      · rw [decide_eq_false hi10, Bool.and_false, Bool.and_false]
  rcases Nat.lt_trichotomy m l with t | t | t
  · exact key l (by omega) (Or.inr ⟨rfl, t⟩)
  · exact absurd t hml
  · exact key m (by omega) (Or.inl ⟨rfl, t⟩)
theorem labels_L {on ot : Nat → Int32} {v1 v2 : Int32} {U : Nat → Bool} {E : Nat → Nat → Prop} (hsy : ∀ a b, E a b → E b a) (ho : OT on ot)
    (hE : ∀ l a b : Nat, l < 24 → a < 10 → b < 10 → on l = nI a → ot l = nI b → ((¬ nI l = v2 ∧ ¬ on l = v1 ∧ ¬ ot l = v1) ↔ (E a b ∧ ¬ nI l = v2)) ∧ (E a b → U a = true ∧ U b = true)) :
    ∀ (n k c : Nat) (q : Nat → Int32), k + n = 24 → (∀ i j, i < 10 → j < 10 → U i = true → U j = true → q i = q j → Cn E i j) → (∀ l, l < k → ¬ on l < 0 → ¬ nI l = v2 → ∀ a b : Nat, a < 10 → b < 10 → on l = nI a → ot l = nI b → E a b → q a = q b) → c = cf (fl U q) 10 0 → Ok (F_piecesWithoutM_L54 (fun v3 w => some (v3, w)) on ot v1 v2 n k (nI c) q) (fun R => ∃ q' : Nat → Int32, R.1 = nI (cf (fl U q') 10 0) ∧ (∀ i j, i < 10 → j < 10 → U i = true → U j = true → q' i = q' j → Cn E i j) ∧ ∀ l, l < 24 → ¬ on l < 0 → ¬ nI l = v2 → ∀ a b : Nat, a < 10 → b < 10 → on l = nI a → ot l = nI b → E a b → q' a = q' b)
  | 0, k, c, q, hk, h1, h2, h3 => by
    rw [F_piecesWithoutM_L54]
    have : k = 24 := by omega
    subst this
    exact ok_some ⟨q, by rw [h3], h1, h2⟩
  | n + 1, k, c, q, hk, h1, h2, h3 => by
    have skip : (¬ on k < 0 → ¬ nI k = v2 → ∀ a b : Nat, a < 10 → b < 10 → on k = nI a → ot k = nI b → E a b → q a = q b) → Ok (F_piecesWithoutM_L54 (fun v3 w => some (v3, w)) on ot v1 v2 n (k + 1) (nI c) q) (fun R => ∃ q' : Nat → Int32, R.1 = nI (cf (fl U q') 10 0) ∧ (∀ i j, i < 10 → j < 10 → U i = true → U j = true → q' i = q' j → Cn E i j) ∧ ∀ l, l < 24 → ¬ on l < 0 → ¬ nI l = v2 → ∀ a b : Nat, a < 10 → b < 10 → on l = nI a → ot l = nI b → E a b → q' a = q' b) := fun hs =>
      labels_L hsy ho hE n (k + 1) c q (by omega) h1 (fun l hl => by
        by_cases e : l = k
        · subst e; exact hs
        · exact h2 l (by omega)) h3
    rw [F_piecesWithoutM_L54]
    by_cases h0 : on k < 0
    · rw [if_pos h0]
      exact skip (fun h => absurd h0 h)
    · rw [if_neg h0]
      obtain ⟨a, b, ha, hb, e1, e2⟩ := ho k (by omega) h0
      have uniq : ∀ a' b' : Nat, a' < 10 → b' < 10 → on k = nI a' → ot k = nI b' → a' = a ∧ b' = b := fun a' b' ha' hb' r1 r2 => by
        rw [e1, nI_eq_iff (by omega) (by omega)] at r1
        rw [e2, nI_eq_iff (by omega) (by omega)] at r2
        exact ⟨r1.symm, r2.symm⟩
      have hEk := hE k a b (by omega) ha hb e1 e2
      by_cases c1 : nI k = v2
      · rw [if_pos c1]
        exact skip (fun _ h => absurd c1 h)
      · rw [if_neg c1]
        by_cases c2 : on k = v1
        · rw [if_pos c2]
          refine skip (fun _ _ a' b' ha' hb' r1 r2 hab => ?_)
          obtain ⟨rfl, rfl⟩ := uniq a' b' ha' hb' r1 r2
          exact absurd c2 (hEk.1.mpr ⟨hab, c1⟩).2.1
        · rw [if_neg c2]
          by_cases c3 : ot k = v1
          · rw [if_pos c3]
            refine skip (fun _ _ a' b' ha' hb' r1 r2 hab => ?_)
            obtain ⟨rfl, rfl⟩ := uniq a' b' ha' hb' r1 r2
            exact absurd c3 (hEk.1.mpr ⟨hab, c1⟩).2.2
          · rw [if_neg c3]
            have hab := (hEk.1.mp ⟨c1, c2, c3⟩).1
            obtain ⟨hUa, hUb⟩ := hEk.2 hab
            show Ok (if (1 : Int32) = 0 then _ else _) _
            rw [if_neg n10, e1, e2, if_pos (inb_nI ha (by decide)), if_pos (inb_nI hb (by decide)), nI_clamp (by omega), nI_clamp (by omega)]
            by_cases c4 : q a = q b
            · rw [if_pos c4]
              refine skip (fun _ _ a' b' ha' hb' r1 r2 _ => ?_)
              obtain ⟨rfl, rfl⟩ := uniq a' b' ha' hb' r1 r2
              exact c4
            · rw [if_neg c4]
              obtain ⟨q', eq', hq'⟩ := relabel_L (K := fun wm_piece_155 => (F_piecesWithoutM_L54 (fun v3 w => some (v3, w)) on ot v1 v2 n (k + 1) (nI c + (-1)) wm_piece_155)) (on := on) (ot := ot) (k54 := k) (q := q) ha hb e1 e2 c4 10 0 q rfl (fun i hi => by rw [if_neg (by omega)])
              have hcf := merge_cf ha hb hUa hUb c4 hq'
              rw [eq', h3, hcf, nI_dec]
              refine labels_L hsy ho hE n (k + 1) _ q' (by omega) (fun i j hi hj hUi hUj e => ?_) (fun l hl hl0 hl2 a' b' ha' hb' r1 r2 hE' => ?_) rfl
              · rw [hq' i hi, hq' j hj] at e
                by_cases d1 : q i = q b
                · rw [if_pos d1] at e
                  by_cases d2 : q j = q b
                  · exact h1 i j hi hj hUi hUj (d1.trans d2.symm)
                  · rw [if_neg d2] at e
                    exact ((h1 i b hi hb hUi hUb d1).st (hsy a b hab)).tr (h1 a j ha hj hUa hUj e)
                · rw [if_neg d1] at e
                  by_cases d2 : q j = q b
                  · rw [if_pos d2] at e
                    exact ((h1 i a hi ha hUi hUa e).st hab).tr (h1 b j hb hj hUb hUj d2.symm)
                  · rw [if_neg d2] at e
                    exact h1 i j hi hj hUi hUj e
              · by_cases d : l = k
                · subst d
                  obtain ⟨rfl, rfl⟩ := uniq a' b' ha' hb' r1 r2
                  rw [hq' a' ha', hq' b' hb', if_neg c4, if_pos rfl]
                · have := h2 l (by omega) hl0 hl2 a' b' ha' hb' r1 r2 hE'
                  rw [hq' a' ha', hq' b' hb', this]
theorem start_L {K : Int32 → (Nat → Int32) → Option (Int32 × (Nat → Int32))} {P : Int32 × (Nat → Int32) → Prop} {mt : Nat → Int32} {v1 : Int32} {U : Nat → Bool} (hU : ∀ i, i < 10 → (U i = true ↔ ¬ mt i = 0 ∧ ¬ nI i = v1)) (hK : ∀ q : Nat → Int32, (∀ i, i < 10 → q i = nI i) → Ok (K (nI (cf U 10 0)) q) P) : ∀ (n k c : Nat) (q : Nat → Int32), k + n = 10 → (∀ i, i < k → q i = nI i) → c + cf U n k = cf U 10 0 → Ok (F_piecesWithoutM_L5 K mt v1 n k (nI c) q) P
  | 0, k, c, q, hk, h1, h2 => by
    rw [F_piecesWithoutM_L5]
    rw [cf, Nat.add_zero] at h2
    rw [h2]
    exact hK q (fun i hi => h1 i (by omega))
  | n + 1, k, c, q, hk, h1, h2 => by
    rw [F_piecesWithoutM_L5]
    rw [cf] at h2
    have hq : ∀ i, i < k + 1 → upd q k (nI k) i = nI i := fun i hi => by
      by_cases c : i = k
      · rw [c, pk_us]
      · rw [pk_un c]; exact h1 i (by omega)
    have hk10 := hU k (by omega)
    by_cases c0 : mt k = 0
    · rw [if_pos c0]
      rw [if_neg (fun h9 => (hk10.mp h9).1 c0), Nat.zero_add] at h2
      exact start_L hU hK n (k + 1) c _ (by omega) hq h2
    · rw [if_neg c0]
      by_cases c1 : nI k = v1
      · rw [if_pos c1]
        rw [if_neg (fun h9 => (hk10.mp h9).2 c1), Nat.zero_add] at h2
        exact start_L hU hK n (k + 1) c _ (by omega) hq h2
      · rw [if_neg c1, nI_add1]
        rw [if_pos (hk10.mpr ⟨c0, c1⟩)] at h2
        exact start_L hU hK n (k + 1) (c + 1) _ (by omega) hq (by omega)
