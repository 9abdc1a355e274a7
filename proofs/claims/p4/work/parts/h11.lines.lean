theorem free_L {K : Unit → Option Int32} {K' : Nat → Option Int32} {lb : Int32} {on : Nat → Int32} (hl : ∀ l, l < 24 → (on l < 0 ↔ bit lb l = false)) : ∀ (n k : Nat), k + n = 24 →
    (∃ l, k ≤ l ∧ l < 24 ∧ bit lb l = false ∧ F_freeNumberG_L2 K lb n k = some (nI l) ∧ F_firstFreeM_L2 K' on n k = K' l) ∨ (F_freeNumberG_L2 K lb n k = K () ∧ F_firstFreeM_L2 K' on n k = K' 24)
  | 0, k, h => Or.inr ⟨by rw [F_freeNumberG_L2], by rw [F_firstFreeM_L2]; rw [show k = 24 by omega]⟩
  | n + 1, k, h => by
    rw [F_freeNumberG_L2, F_firstFreeM_L2]
    by_cases hb : bit lb k = true
    · rw [if_neg (fun h9 => by rw [has0_iff (by omega)] at h9; rw [h9] at hb; exact absurd hb (by decide)), if_neg (fun h9 => by rw [(hl k (by omega)).mp h9] at hb; exact absurd hb (by decide))]
      rcases free_L hl n (k + 1) (by omega) with ⟨l, h1, h2, h3, h4, h5⟩ | h9
      · exact Or.inl ⟨l, by omega, h2, h3, h4, h5⟩
      · exact Or.inr h9
    · have hb2 : bit lb k = false := by simpa using hb
      exact Or.inl ⟨k, Nat.le_refl _, by omega, hb2, by rw [if_pos ((has0_iff (by omega)).mpr hb2)], by rw [if_pos ((hl k (by omega)).mpr hb2)]⟩
theorem free_eq {lb : Int32} {on : Nat → Int32} (hl : ∀ l, l < 24 → (on l < 0 ↔ bit lb l = false)) :
    (∃ l, l < 24 ∧ bit lb l = false ∧ F_freeNumberG lb = some (nI l) ∧ F_firstFreeM on = some (nI l)) ∨ (F_freeNumberG lb = some (-1) ∧ F_firstFreeM on = some (nI 24)) := by
  unfold F_freeNumberG F_firstFreeM
  rcases free_L (K := fun _ => some (-1)) (K' := fun k => some (nI k)) hl 24 0 rfl with ⟨l, _, h2, h3, h4, h5⟩ | h9
  · exact Or.inl ⟨l, h2, h3, h4, h5⟩
  · exact Or.inr h9
theorem isEnd_eq {le mo : Nat → Int32} {v : Int32} {k : Nat} (hk : k < 24) : F_isEndG le mo v (nI k) = some (if le k = v ∨ mo k = v then 1 else 0) := by
  unfold F_isEndG
  rw [if_pos (inb_nI hk (by decide)), nI_clamp (by omega)]
  by_cases h1 : le k = v
  · rw [if_pos h1, if_pos (Or.inl h1)]
  · rw [if_neg h1]
    by_cases h2 : mo k = v
    · rw [if_pos h2, if_pos (Or.inr h2)]
    · rw [if_neg h2, if_neg (fun h => h.elim h1 h2)]
theorem linesOf_L {K : Int32 → Option Int32} {lb : Int32} {le mo : Nat → Int32} {v : Int32} : ∀ (n k : Nat) (acc : Int32), k + n = 24 → ∃ r, F_linesOfG_L4 K lb le mo v n k acc = K r ∧ ∀ j, bit r j = (bit acc j || (decide (k ≤ j) && decide (j < 24) && bit lb j && decide (le j = v ∨ mo j = v)))
  | 0, k, acc, h => ⟨acc, by rw [F_linesOfG_L4], fun j => by
      by_cases h1 : j < 24
      · rw [decide_eq_false (p := k ≤ j) (by omega)]; simp
      · rw [decide_eq_false h1]; simp⟩
  | n + 1, k, acc, h => by
    have step : ∀ acc', (∀ j, bit acc' j = (bit acc j || (decide (j = k) && bit lb j && decide (le j = v ∨ mo j = v)))) → ∃ r, F_linesOfG_L4 K lb le mo v n (k + 1) acc' = K r ∧ ∀ j, bit r j = (bit acc j || (decide (k ≤ j) && decide (j < 24) && bit lb j && decide (le j = v ∨ mo j = v))) := by
      intro acc' ha
      obtain ⟨r, e, hr⟩ := linesOf_L (K := K) (lb := lb) (le := le) (mo := mo) (v := v) n (k + 1) acc' (by omega)
      refine ⟨r, e, fun j => ?_⟩
      rw [hr j, ha j]
      by_cases e1 : j = k
      · subst e1
        rw [decide_eq_true (p := j ≤ j) (Nat.le_refl _), decide_eq_true (p := j < 24) (by omega), decide_eq_false (p := j + 1 ≤ j) (by omega)]; simp
      · rw [decide_eq_false e1]
        by_cases e2 : k ≤ j
        · rw [decide_eq_true e2, decide_eq_true (p := k + 1 ≤ j) (by omega)]; simp
        · rw [decide_eq_false e2, decide_eq_false (p := k + 1 ≤ j) (by omega)]; simp
    rw [F_linesOfG_L4]
    by_cases hb : bit lb k = true
    · rw [if_neg (fun h9 => by rw [has0_iff (by omega)] at h9; rw [h9] at hb; exact absurd hb (by decide)), isEnd_eq (by omega)]
      by_cases he : le k = v ∨ mo k = v
      · rw [if_pos he]
        refine step _ (fun j => ?_)
        rw [bit_or, bit_shl (by omega)]
        by_cases e1 : j = k
        · subst e1; rw [hb, decide_eq_true he]; simp
        · rw [decide_eq_false e1]; simp
      · rw [if_neg he]
        refine step _ (fun j => ?_)
        by_cases e1 : j = k
        · subst e1; rw [decide_eq_false he]; simp
        · rw [decide_eq_false e1]; simp
    · rw [if_pos ((has0_iff (by omega)).mpr (by simpa using hb))]
      refine step _ (fun j => ?_)
      by_cases e1 : j = k
      · subst e1; rw [show bit lb j = false by simpa using hb]; simp
      · rw [decide_eq_false e1]; simp
theorem linesOf_eq (lb : Int32) (le mo : Nat → Int32) (v : Int32) : ∃ r, F_linesOfG lb le mo v = some r ∧ ∀ j, bit r j = (decide (j < 24) && bit lb j && decide (le j = v ∨ mo j = v)) := by
  unfold F_linesOfG
  obtain ⟨r, e, hr⟩ := linesOf_L (K := fun v => some v) (lb := lb) (le := le) (mo := mo) (v := v) 24 0 0 rfl
  refine ⟨r, e, fun j => ?_⟩
  rw [hr j, bit_zero]; simp
theorem and_ne0 {x y : Int32} : (x &&& y = 0) ↔ ∀ j, j < 32 → ¬ (bit x j = true ∧ bit y j = true) := by
  constructor
  · intro h j _ h2
    have h3 := congrArg (fun z => bit z j) h
    simp only [bit_and, bit_zero, h2.1, h2.2] at h3
    exact absurd h3 (by decide)
  · intro h
    apply bit_ext
    intro j hj
    have := h j hj
    rw [bit_and, bit_zero]
    cases h1 : bit x j <;> cases h2 : bit y j <;> simp_all
def jn (lb : Int32) (le mo : Nat → Int32) (v w : Int32) : Prop := ∃ l, l < 24 ∧ bit lb l = true ∧ (le l = v ∨ mo l = v) ∧ (le l = w ∨ mo l = w)
theorem joined_eq (lb : Int32) (le mo : Nat → Int32) (v w : Int32) : (F_joinedG lb le mo v w = some 0 ∧ ¬ jn lb le mo v w) ∨ (F_joinedG lb le mo v w = some 1 ∧ jn lb le mo v w) := by
  unfold F_joinedG
  obtain ⟨r, e, hr⟩ := linesOf_eq lb le mo v
  obtain ⟨s, f, hs⟩ := linesOf_eq lb le mo w
  rw [e, f]
  show ((if (r &&& s) = 0 then some 0 else some 1) = some 0 ∧ _) ∨ ((if (r &&& s) = 0 then some 0 else some 1) = some 1 ∧ _)
  by_cases h : r &&& s = 0
  · rw [if_pos h]
    refine Or.inl ⟨rfl, ?_⟩
    rintro ⟨l, hl, hb, h1, h2⟩
    refine and_ne0.mp h l (by omega) ⟨?_, ?_⟩
    · rw [hr l, decide_eq_true hl, hb, decide_eq_true h1]; rfl
    · rw [hs l, decide_eq_true hl, hb, decide_eq_true h2]; rfl
  · rw [if_neg h]
    refine Or.inr ⟨rfl, ?_⟩
    apply Classical.byContradiction
    intro h9
    apply h
    rw [and_ne0]
    rintro j _ ⟨h1, h2⟩
    rw [hr j] at h1
    rw [hs j] at h2
    simp only [Bool.and_eq_true, decide_eq_true_eq] at h1 h2
    exact h9 ⟨j, h1.1.1, h1.1.2, h1.2, h2.2⟩
def jm (on ot : Nat → Int32) (v w : Int32) (l : Nat) : Prop := ¬ on l < 0 ∧ ((on l = v ∧ ot l = w) ∨ (on l = w ∧ ot l = v))
theorem lineB_L {K : Int32 → Option Int32} {on ot : Nat → Int32} {v w : Int32} : ∀ (n k : Nat) (acc : Int32), ∃ r, F_lineBetweenM_L5 K on ot v w n k acc = K r ∧ ((r = acc ∧ ∀ l, k ≤ l → l < k + n → ¬ jm on ot v w l) ∨ ∃ l, k ≤ l ∧ l < k + n ∧ jm on ot v w l ∧ r = nI l)
  | 0, k, acc => ⟨acc, by rw [F_lineBetweenM_L5], Or.inl ⟨rfl, fun l h1 h2 => by omega⟩⟩
  | n + 1, k, acc => by
    have hit : jm on ot v w k → ∃ r, F_lineBetweenM_L5 K on ot v w n (k + 1) (nI k) = K r ∧ ((r = acc ∧ ∀ l, k ≤ l → l < k + (n + 1) → ¬ jm on ot v w l) ∨ ∃ l, k ≤ l ∧ l < k + (n + 1) ∧ jm on ot v w l ∧ r = nI l) := by
      intro hj
      obtain ⟨r, e, h | ⟨l, h1, h2, h3, h4⟩⟩ := lineB_L (K := K) (on := on) (ot := ot) (v := v) (w := w) n (k + 1) (nI k)
      · exact ⟨r, e, Or.inr ⟨k, Nat.le_refl _, by omega, hj, h.1⟩⟩
      · exact ⟨r, e, Or.inr ⟨l, by omega, by omega, h3, h4⟩⟩
    have miss : ¬ jm on ot v w k → ∃ r, F_lineBetweenM_L5 K on ot v w n (k + 1) acc = K r ∧ ((r = acc ∧ ∀ l, k ≤ l → l < k + (n + 1) → ¬ jm on ot v w l) ∨ ∃ l, k ≤ l ∧ l < k + (n + 1) ∧ jm on ot v w l ∧ r = nI l) := by
      intro hj
      obtain ⟨r, e, h | ⟨l, h1, h2, h3, h4⟩⟩ := lineB_L (K := K) (on := on) (ot := ot) (v := v) (w := w) n (k + 1) acc
      · refine ⟨r, e, Or.inl ⟨h.1, fun l h1 h2 => ?_⟩⟩
        by_cases e1 : l = k
        · rw [e1]; exact hj
        · exact h.2 l (by omega) (by omega)
      · exact ⟨r, e, Or.inr ⟨l, by omega, by omega, h3, h4⟩⟩
    rw [F_lineBetweenM_L5]
    unfold jm at hit miss
    by_cases h0 : on k < 0
    · rw [if_pos h0]; exact miss (fun h => h.1 h0)
    · rw [if_neg h0]
      by_cases h1 : on k = v
      · rw [if_pos h1]
        by_cases h2 : ot k = w
        · rw [if_pos h2]; exact hit ⟨h0, Or.inl ⟨h1, h2⟩⟩
        · rw [if_neg h2]
          by_cases h3 : on k = w
          · rw [if_pos h3]
            by_cases h4 : ot k = v
            · rw [if_pos h4]; exact hit ⟨h0, Or.inr ⟨h3, h4⟩⟩
            · rw [if_neg h4]; exact miss (fun h => h.2.elim (fun q => h2 q.2) (fun q => h4 q.2))
          · rw [if_neg h3]; exact miss (fun h => h.2.elim (fun q => h2 q.2) (fun q => h3 q.1))
      · rw [if_neg h1]
        by_cases h3 : on k = w
        · rw [if_pos h3]
          by_cases h4 : ot k = v
          · rw [if_pos h4]; exact hit ⟨h0, Or.inr ⟨h3, h4⟩⟩
          · rw [if_neg h4]; exact miss (fun h => h.2.elim (fun q => h1 q.1) (fun q => h4 q.2))
        · rw [if_neg h3]; exact miss (fun h => h.2.elim (fun q => h1 q.1) (fun q => h3 q.1))
theorem lineB_eq (on ot : Nat → Int32) (v w : Int32) : (F_lineBetweenM on ot v w = some (-1) ∧ ∀ l, l < 24 → ¬ jm on ot v w l) ∨ ∃ l, l < 24 ∧ jm on ot v w l ∧ F_lineBetweenM on ot v w = some (nI l) := by
  unfold F_lineBetweenM
  obtain ⟨r, e, h | ⟨l, h1, h2, h3, h4⟩⟩ := lineB_L (K := fun v => some v) (on := on) (ot := ot) (v := v) (w := w) 24 0 (-1)
  · exact Or.inl ⟨by rw [e, h.1], fun l hl => h.2 l (Nat.zero_le _) (by omega)⟩
  · exact Or.inr ⟨l, by omega, h3, by rw [e, h4]⟩
theorem dropM_L {K : Int32 → (Nat → Int32) → Option (Int32 × Int32 × (Nat → Int32) × (Nat → Int32))} {ot : Nat → Int32} {v : Int32} {q : Nat → Bool} : ∀ (n k c : Nat) (onc : Nat → Int32), (∀ l, k ≤ l → l < k + n → (q l = true ↔ (¬ onc l < 0 ∧ (onc l = v ∨ ot l = v)))) → F_dropM_L28 K ot v n k (nI c) onc = K (nI (c + cf q n k)) (fun j => if k ≤ j ∧ j < k + n ∧ q j = true then -1 else onc j)
  | 0, k, c, onc, _ => by
    rw [F_dropM_L28, cf, Nat.add_zero]
    congr 1
    funext j
    rw [if_neg (by omega)]
  | n + 1, k, c, onc, h => by
    have hk := h k (Nat.le_refl _) (by omega)
    by_cases hq : q k = true
    · have ih := dropM_L (K := K) (ot := ot) (v := v) (q := q) n (k + 1) (c + 1) (upd onc k (-1)) (fun l h1 h2 => by
        rw [pk_un (by omega)]; exact h l (by omega) (by omega))
      have e : (fun j => if k + 1 ≤ j ∧ j < k + 1 + n ∧ q j = true then -1 else upd onc k (-1) j) = (fun j => if k ≤ j ∧ j < k + (n + 1) ∧ q j = true then -1 else onc j) := by
        funext j
        by_cases e1 : j = k
        · subst e1; rw [if_neg (by omega), pk_us, if_pos ⟨Nat.le_refl _, by omega, hq⟩]
        · rw [pk_un e1]
          by_cases e2 : k + 1 ≤ j ∧ j < k + 1 + n ∧ q j = true
          · rw [if_pos e2, if_pos ⟨by omega, by omega, e2.2.2⟩]
          · rw [if_neg e2, if_neg (fun h9 => e2 ⟨by omega, by omega, h9.2.2⟩)]
      rw [e] at ih
      obtain ⟨h1, h2⟩ := hk.mp hq
      rw [F_dropM_L28, if_neg h1, cf, if_pos hq, ← Nat.add_assoc]
      by_cases h3 : onc k = v
      · rw [if_pos h3, nI_add1]; exact ih
      · rw [if_neg h3, if_pos (h2.resolve_left h3), nI_add1]; exact ih
    · have ih := dropM_L (K := K) (ot := ot) (v := v) (q := q) n (k + 1) c onc (fun l h1 h2 => h l (by omega) (by omega))
      have e : (fun j => if k + 1 ≤ j ∧ j < k + 1 + n ∧ q j = true then -1 else onc j) = (fun j => if k ≤ j ∧ j < k + (n + 1) ∧ q j = true then -1 else onc j) := by
        funext j
        by_cases e2 : k + 1 ≤ j ∧ j < k + 1 + n ∧ q j = true
        · rw [if_pos e2, if_pos ⟨by omega, by omega, e2.2.2⟩]
        · rw [if_neg e2, if_neg (fun h9 => by
            by_cases e1 : j = k
            · rw [e1] at h9; exact hq h9.2.2
            · exact e2 ⟨by omega, by omega, h9.2.2⟩)]
      rw [e] at ih
      rw [F_dropM_L28, cf, if_neg hq, Nat.zero_add]
      by_cases h1 : onc k < 0
      · rw [if_pos h1]; exact ih
      · rw [if_neg h1, if_neg (fun h2 => hq (hk.mpr ⟨h1, Or.inl h2⟩)), if_neg (fun h2 => hq (hk.mpr ⟨h1, Or.inr h2⟩))]; exact ih
