def Inv (nb lb : Int32) (le mo dx dy mt on ot mx my fr to hi : Nat → Int32) : Prop :=
  (∀ i, 10 ≤ i → bit nb i = false) ∧ (∀ l, 24 ≤ l → bit lb l = false) ∧
  (∀ i, i < 10 → mt i = if bit nb i = true then 1 else 0) ∧
  (∀ l, l < 24 → bit lb l = false → on l = -1) ∧
  (∀ l, l < 24 → bit lb l = true → ∃ a b : Nat, a < b ∧ b < 10 ∧ bit nb a = true ∧ bit nb b = true ∧ le l = nI a ∧ mo l = nI b ∧ on l = nI a ∧ ot l = nI b) ∧
  (∀ l k, l < 24 → k < 24 → bit lb l = true → bit lb k = true → on l = on k → ot l = ot k → l = k) ∧
  (∀ i, i < 10 → ∃ x y : Nat, x ≤ 30 ∧ y ≤ 30 ∧ dx i = nI x ∧ dy i = nI y ∧ mx i = nI x ∧ my i = nI y) ∧
  (∀ e, e < 40 → ∃ a b : Nat, a < 11 ∧ b < 11 ∧ fr e = nI a ∧ to e = nI b) ∧
  (∀ i, i < 121 → hi i ≤ 10)
theorem inv0 {uo : Nat → Int32} (huo : ∀ j : Nat, j < 24 → uo j = (-1)) : Inv 0 0 (fun _ => 0) (fun _ => 0) (fun _ => 0) (fun _ => 0) (fun _ => 0) uo (fun _ => 0) (fun _ => 0) (fun _ => 0) (fun _ => 0) (fun _ => 0) (fun _ => 0) := by
  refine ⟨fun i _ => bit_zero i, fun i _ => bit_zero i, fun i _ => ?_, fun l hl _ => huo l hl, fun l _ h => ?_, fun l k _ _ h => ?_, fun i _ => ⟨0, 0, by decide, by decide, rfl, rfl, rfl, rfl⟩, fun e _ => ⟨0, 0, by decide, by decide, rfl, rfl⟩, fun i _ => (by decide : (0 : Int32) ≤ 10)⟩
  · rw [bit_zero, if_neg (by decide)]
  · rw [bit_zero] at h; exact absurd h (by decide)
  · rw [bit_zero] at h; exact absurd h (by decide)
theorem ref_1 (b c : Int32) : F_refusedM 1 b c = some (1, 1) := rfl
theorem ref_2 (c : Int32) : F_refusedM 0 1 c = some (1, 2) := rfl
theorem ref_3 : F_refusedM 0 0 1 = some (1, 3) := rfl
theorem ref_0 : F_refusedM 0 0 0 = some (0, 0) := rfl
theorem isThere_eq {mt : Nat → Int32} {nb : Int32} (hm : ∀ i, i < 10 → mt i = if bit nb i = true then 1 else 0) (p : Int32) : F_isThereM mt p = some (f_nit nb p) := by
  rcases isNN_cases p with h | ⟨i, hi, rfl⟩
  · unfold F_isThereM f_nit
    rw [if_pos h, if_pos h]
  · unfold F_isThereM
    rw [isNN_1_ i hi, if_neg (by decide), if_pos (inb_nI hi (by decide)), nI_clamp (by omega), hm i hi, nit_eq hi]
    by_cases hb : bit nb i = true
    · rw [if_pos hb, if_neg (by decide)]
    · rw [if_neg hb, if_pos rfl]
theorem isLine_eq {on : Nat → Int32} {lb : Int32} (h0 : ∀ l, l < 24 → bit lb l = false → on l < 0) (h1 : ∀ l, l < 24 → bit lb l = true → ¬ on l < 0) (p : Int32) : F_isLineM on p = some (f_lit lb p) := by
  unfold F_isLineM
  by_cases q0 : p < 0
  · unfold f_lit; rw [if_pos q0, if_pos q0]
  · by_cases q1 : (24 : Int32) ≤ p
    · unfold f_lit; rw [if_neg q0, if_pos q1, if_neg q0, if_pos q1]
    · obtain ⟨l, hl, rfl⟩ := lit_in q0 q1
      rw [if_neg q0, if_neg q1, if_pos (inb_nI hl (by decide)), nI_clamp (by omega), lit_eq hl]
      by_cases hb : bit lb l = true
      · rw [if_pos hb, if_neg (h1 l hl hb)]
      · rw [if_neg hb, if_pos (h0 l hl (by simpa using hb))]
theorem cntN_L {K : Int32 → Option Int32} {mt : Nat → Int32} {q : Nat → Bool} : ∀ (n k c : Nat), (∀ i, k ≤ i → i < k + n → mt i = if q i = true then 1 else 0) → F_countNodesM_L4 K mt n k (nI c) = K (nI (c + cf q n k))
  | 0, k, c, _ => by rw [F_countNodesM_L4, cf, Nat.add_zero]
  | n + 1, k, c, h => by
    have ih := fun c => cntN_L (K := K) (mt := mt) (q := q) n (k + 1) c (fun i h1 h2 => h i (by omega) (by omega))
    rw [F_countNodesM_L4, h k (Nat.le_refl _) (by omega), cf]
    by_cases hq : q k = true
    · rw [if_pos hq, if_neg (by decide), nI_add1, ih, if_pos hq, Nat.add_assoc]
    · rw [if_neg hq, if_pos rfl, ih, if_neg hq, Nat.zero_add]
theorem cntN_eq {mt : Nat → Int32} {q : Nat → Bool} (h : ∀ i, i < 10 → mt i = if q i = true then 1 else 0) : F_countNodesM mt = some (nI (cf q 10 0)) := by
  unfold F_countNodesM
  have := cntN_L (K := fun v => some v) (mt := mt) (q := q) 10 0 0 (fun i _ h2 => h i (by omega))
  rw [Nat.zero_add] at this
  exact this
theorem cntL_L {K : Int32 → Option Int32} {on : Nat → Int32} {q : Nat → Bool} : ∀ (n k c : Nat), (∀ i, k ≤ i → i < k + n → (on i < 0 ↔ q i = false)) → F_countLinesM_L4 K on n k (nI c) = K (nI (c + cf q n k))
  | 0, k, c, _ => by rw [F_countLinesM_L4, cf, Nat.add_zero]
  | n + 1, k, c, h => by
    have ih := fun c => cntL_L (K := K) (on := on) (q := q) n (k + 1) c (fun i h1 h2 => h i (by omega) (by omega))
    have hk := h k (Nat.le_refl _) (by omega)
    rw [F_countLinesM_L4, cf]
    by_cases hq : q k = true
    · rw [if_neg (fun h9 => by rw [hk.mp h9] at hq; exact absurd hq (by decide)), nI_add1, ih, if_pos hq, Nat.add_assoc]
    · rw [if_pos (hk.mpr (by simpa using hq)), ih, if_neg hq, Nat.zero_add]
theorem cntL_eq {on : Nat → Int32} {q : Nat → Bool} (h : ∀ i, i < 24 → (on i < 0 ↔ q i = false)) : F_countLinesM on = some (nI (cf q 24 0)) := by
  unfold F_countLinesM
  have := cntL_L (K := fun v => some v) (on := on) (q := q) 24 0 0 (fun i _ h2 => h i (by omega))
  rw [Nat.zero_add] at this
  exact this
theorem nbits_L {K : Int32 → Option Int32} {mt : Nat → Int32} {q : Nat → Bool} : ∀ (n k : Nat) (acc : Int32), k + n ≤ 32 → (∀ i, k ≤ i → i < k + n → mt i = if q i = true then 1 else 0) → ∃ r, F_nodeBitsM_L4 K mt n k acc = K r ∧ ∀ j, bit r j = (bit acc j || (decide (k ≤ j) && decide (j < k + n) && q j))
  | 0, k, acc, _, _ => ⟨acc, by rw [F_nodeBitsM_L4], fun j => by
      by_cases h : k ≤ j
      · rw [decide_eq_false (p := j < k + 0) (by omega)]; simp
      · rw [decide_eq_false h]; simp⟩
  | n + 1, k, acc, hk, h => by
    by_cases hq : q k = true
    · obtain ⟨r, e, hr⟩ := nbits_L (K := K) (mt := mt) (q := q) n (k + 1) (acc ||| (1 : Int32) <<< (nI k &&& 31)) (by omega) (fun i h1 h2 => h i (by omega) (by omega))
      refine ⟨r, by rw [F_nodeBitsM_L4, h k (Nat.le_refl _) (by omega), if_pos hq, if_neg (by decide)]; exact e, fun j => ?_⟩
      rw [hr j, bit_or, bit_shl (by omega)]
      by_cases e1 : j = k
      · subst e1; simp [hq]
      · rw [decide_eq_false e1, Bool.or_false]
        by_cases e2 : k ≤ j
        · rw [decide_eq_true e2, decide_eq_true (p := k + 1 ≤ j) (by omega), show k + 1 + n = k + (n + 1) by omega]
        · rw [decide_eq_false e2, decide_eq_false (p := k + 1 ≤ j) (by omega)]; simp
    · obtain ⟨r, e, hr⟩ := nbits_L (K := K) (mt := mt) (q := q) n (k + 1) acc (by omega) (fun i h1 h2 => h i (by omega) (by omega))
      refine ⟨r, by rw [F_nodeBitsM_L4, h k (Nat.le_refl _) (by omega), if_neg hq, if_pos rfl]; exact e, fun j => ?_⟩
      rw [hr j]
      by_cases e1 : j = k
      · subst e1; simp [hq]
      · by_cases e2 : k ≤ j
        · rw [decide_eq_true e2, decide_eq_true (p := k + 1 ≤ j) (by omega), show k + 1 + n = k + (n + 1) by omega]
        · rw [decide_eq_false e2, decide_eq_false (p := k + 1 ≤ j) (by omega)]; simp
theorem nbits_eq {mt : Nat → Int32} {nb : Int32} (h1 : ∀ i, 10 ≤ i → bit nb i = false) (h3 : ∀ i, i < 10 → mt i = if bit nb i = true then 1 else 0) : F_nodeBitsM mt = some nb := by
  unfold F_nodeBitsM
  obtain ⟨r, e, hr⟩ := nbits_L (K := fun v => some v) (mt := mt) (q := bit nb) 10 0 0 (by decide) (fun i _ h2 => h3 i (by omega))
  rw [e]
  congr 1
  apply bit_ext
  intro i _
  rw [hr i, bit_zero]
  by_cases hi : i < 10
  · simp [hi]
  · rw [h1 i (by omega)]; simp
theorem lbits_L {K : Int32 → Option Int32} {on : Nat → Int32} {q : Nat → Bool} : ∀ (n k : Nat) (acc : Int32), k + n ≤ 32 → (∀ i, k ≤ i → i < k + n → (on i < 0 ↔ q i = false)) → ∃ r, F_lineBitsM_L4 K on n k acc = K r ∧ ∀ j, bit r j = (bit acc j || (decide (k ≤ j) && decide (j < k + n) && q j))
  | 0, k, acc, _, _ => ⟨acc, by rw [F_lineBitsM_L4], fun j => by
      by_cases h : k ≤ j
      · rw [decide_eq_false (p := j < k + 0) (by omega)]; simp
      · rw [decide_eq_false h]; simp⟩
  | n + 1, k, acc, hk, h => by
    have hk2 := h k (Nat.le_refl _) (by omega)
    by_cases hq : q k = true
    · obtain ⟨r, e, hr⟩ := lbits_L (K := K) (on := on) (q := q) n (k + 1) (acc ||| (1 : Int32) <<< (nI k &&& 31)) (by omega) (fun i h1 h2 => h i (by omega) (by omega))
      refine ⟨r, by rw [F_lineBitsM_L4, if_neg (fun h9 => by rw [hk2.mp h9] at hq; exact absurd hq (by decide))]; exact e, fun j => ?_⟩
      rw [hr j, bit_or, bit_shl (by omega)]
      by_cases e1 : j = k
      · subst e1; simp [hq]
      · rw [decide_eq_false e1, Bool.or_false]
        by_cases e2 : k ≤ j
        · rw [decide_eq_true e2, decide_eq_true (p := k + 1 ≤ j) (by omega), show k + 1 + n = k + (n + 1) by omega]
        · rw [decide_eq_false e2, decide_eq_false (p := k + 1 ≤ j) (by omega)]; simp
    · obtain ⟨r, e, hr⟩ := lbits_L (K := K) (on := on) (q := q) n (k + 1) acc (by omega) (fun i h1 h2 => h i (by omega) (by omega))
      refine ⟨r, by rw [F_lineBitsM_L4, if_pos (hk2.mpr (by simpa using hq))]; exact e, fun j => ?_⟩
      rw [hr j]
      by_cases e1 : j = k
      · subst e1; simp [hq]
      · by_cases e2 : k ≤ j
        · rw [decide_eq_true e2, decide_eq_true (p := k + 1 ≤ j) (by omega), show k + 1 + n = k + (n + 1) by omega]
        · rw [decide_eq_false e2, decide_eq_false (p := k + 1 ≤ j) (by omega)]; simp
theorem lbits_eq {on : Nat → Int32} {lb : Int32} (h2 : ∀ l, 24 ≤ l → bit lb l = false) (h : ∀ i, i < 24 → (on i < 0 ↔ bit lb i = false)) : F_lineBitsM on = some lb := by
  unfold F_lineBitsM
  obtain ⟨r, e, hr⟩ := lbits_L (K := fun v => some v) (on := on) (q := bit lb) 24 0 0 (by decide) (fun i _ h2 => h i (by omega))
  rw [e]
  congr 1
  apply bit_ext
  intro i _
  rw [hr i, bit_zero]
  by_cases hi : i < 24
  · simp [hi]
  · rw [h2 i (by omega)]; simp
theorem live_iff {on : Nat → Int32} {lb : Int32} (h4 : ∀ l, l < 24 → bit lb l = false → on l = -1) (h5 : ∀ l, l < 24 → bit lb l = true → ∃ a, a < 10 ∧ on l = nI a) : ∀ l, l < 24 → (on l < 0 ↔ bit lb l = false) := by
  intro l hl
  constructor
  · intro h
    by_cases hb : bit lb l = true
    · obtain ⟨a, ha, e⟩ := h5 l hl hb
      rw [e] at h
      exact absurd h (nI_nn (by omega))
    · simpa using hb
  · intro h
    rw [h4 l hl h]; decide
