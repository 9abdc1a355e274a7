def tch (x y : Nat → Int32) (a b c d : Nat) : Bool := onb x y a c d || onb x y b c d || onb x y c a b || onb x y d a b || (decide (¬ 0 ≤ tt x y a b c * tt x y a b d) && decide (¬ 0 ≤ tt x y c d a * tt x y c d b))
theorem touch_eq (x y : Nat → Int32) {a b c d : Nat} (ha : a < 10) (hb : b < 10) (hc : c < 10) (hd : d < 10) : F_touchG x y (nI a) (nI b) (nI c) (nI d) = some (if tch x y a b c d = true then 1 else 0) := by
  unfold F_touchG tch
  rw [liesOn_eq x y ha hc hd, liesOn_eq x y hb hc hd, liesOn_eq x y hc ha hb, liesOn_eq x y hd ha hb, turnG_eq x y ha hb hc, turnG_eq x y ha hb hd, turnG_eq x y hc hd ha, turnG_eq x y hc hd hb]
  simp only [Option.bind_some]
  cases onb x y a c d
  · cases onb x y b c d
    · cases onb x y c a b
      · cases onb x y d a b
        · by_cases h1 : 0 ≤ tt x y a b c * tt x y a b d
          · simp [h1]
          · by_cases h2 : 0 ≤ tt x y c d a * tt x y c d b
            · simp [h1, h2]
            · simp [h1, h2]
        · rfl
      · rfl
    · rfl
  · rfl
def sw (x y : Nat → Int32) (s a b : Nat) : Bool := decide (tt x y s a b = 0) && decide (¬ ((x a - x s) * (x b - x s)) + ((y a - y s) * (y b - y s)) ≤ 0)
theorem sameWay_eq (x y : Nat → Int32) {s a b : Nat} (hs : s < 10) (ha : a < 10) (hb : b < 10) : F_sameWayG x y (nI s) (nI a) (nI b) = some (if sw x y s a b = true then 1 else 0) := by
  unfold F_sameWayG sw
  rw [turnG_eq x y hs ha hb, if_pos (inb_nI ha (by decide)), if_pos (inb_nI hs (by decide)), if_pos (inb_nI hb (by decide)), nI_clamp (by omega), nI_clamp (by omega), nI_clamp (by omega), Option.bind_some]
  by_cases h1 : tt x y s a b = 0
  · rw [if_pos h1, decide_eq_true h1]
    by_cases h2 : ((x a - x s) * (x b - x s)) + ((y a - y s) * (y b - y s)) ≤ 0
    · rw [if_pos h2, decide_eq_false (fun h => h h2)]; rfl
    · rw [if_neg h2, decide_eq_true h2]; rfl
  · rw [if_neg h1, decide_eq_false h1]; rfl
theorem behindM_eq (x y : Nat → Int32) {s a b : Nat} (hs : s < 10) (ha : a < 10) (hb : b < 10) : F_meetBehindM x y (nI s) (nI a) (nI b) = some (if sw x y s a b = true then 1 else 0) := by
  unfold F_meetBehindM sw
  rw [turnM_eq x y hs ha hb, if_pos (inb_nI ha (by decide)), if_pos (inb_nI hs (by decide)), if_pos (inb_nI hb (by decide)), nI_clamp (by omega), nI_clamp (by omega), nI_clamp (by omega), Option.bind_some]
  by_cases h1 : tt x y s a b = 0
  · rw [if_pos (sg0.mpr h1), decide_eq_true h1]
    by_cases h2 : ((x a - x s) * (x b - x s)) + ((y a - y s) * (y b - y s)) ≤ 0
    · rw [if_pos h2, decide_eq_false (fun h => h h2)]; rfl
    · rw [if_neg h2, decide_eq_true h2]; rfl
  · rw [if_neg (fun h => h1 (sg0.mp h)), decide_eq_false h1]; rfl
def mw (x y : Nat → Int32) (a b c d : Nat) : Bool := if a = c ∨ a = d then sw x y a b (if a = c then d else c) else if b = c ∨ b = d then sw x y b a (if b = c then d else c) else tch x y a b c d
theorem tchM_eq {x y : Nat → Int32} (hx : PL x) (hy : PL y) {a b c d : Nat} (ha : a < 10) (hb : b < 10) (hc : c < 10) (hd : d < 10) : ((F_isOnM x y (nI a) (nI b) (nI c)).bind (fun p_106 => (if p_106 = 0 then ((F_isOnM x y (nI a) (nI b) (nI d)).bind (fun p_118 => (if p_118 = 0 then ((F_isOnM x y (nI c) (nI d) (nI a)).bind (fun p_130 => (if p_130 = 0 then ((F_isOnM x y (nI c) (nI d) (nI b)).bind (fun p_143 => (if p_143 = 0 then ((F_turnM x y (nI a) (nI b) (nI c)).bind (fun p_157 => ((F_turnM x y (nI a) (nI b) (nI d)).bind (fun p_166 => (if 0 ≤ (p_157 * p_166) then some ((0 : Int32)) else ((F_turnM x y (nI c) (nI d) (nI a)).bind (fun p_179 => ((F_turnM x y (nI c) (nI d) (nI b)).bind (fun p_189 => (if 0 ≤ (p_179 * p_189) then some ((0 : Int32)) else some ((1 : Int32)))))))))))) else some ((1 : Int32))))) else some ((1 : Int32))))) else some ((1 : Int32))))) else some ((1 : Int32))))) = some (if tch x y a b c d = true then 1 else 0) := by
  unfold tch
  rw [isOn_eq x y hc ha hb, isOn_eq x y hd ha hb, isOn_eq x y ha hc hd, isOn_eq x y hb hc hd, turnM_eq x y ha hb hc, turnM_eq x y ha hb hd, turnM_eq x y hc hd ha, turnM_eq x y hc hd hb]
  simp only [Option.bind_some]
  simp only [← prod_sg (tt_bnd hx hy ha hb hc) (tt_bnd hx hy ha hb hd), ← prod_sg (tt_bnd hx hy hc hd ha) (tt_bnd hx hy hc hd hb)]
  cases onb x y c a b
  · cases onb x y d a b
    · cases onb x y a c d
      · cases onb x y b c d
        · by_cases h1 : 0 ≤ tt x y a b c * tt x y a b d
          · simp [h1]
          · by_cases h2 : 0 ≤ tt x y c d a * tt x y c d b
            · simp [h1, h2]
            · simp [h1, h2]
        · simp
      · simp
    · simp
  · simp
theorem meetG_eq {le mo x y : Nat → Int32} {l m a b c d : Nat} (hl : l < 24) (hm : m < 24) (ha : a < 10) (hb : b < 10) (hc : c < 10) (hd : d < 10) (hab : a ≠ b) (e1 : le l = nI a) (e2 : mo l = nI b) (e3 : le m = nI c) (e4 : mo m = nI d) : F_meetWronglyG le mo x y (nI l) (nI m) = some (if mw x y a b c d = true then 1 else 0) := by
  have q : ∀ i j : Nat, i < 10 → j < 10 → (nI i = nI j ↔ i = j) := fun i j h1 h2 => nI_eq_iff (by omega) (by omega)
  have i1 := inb_nI (n := 24) hl (by decide)
  have i2 := inb_nI (n := 24) hm (by decide)
  have c1 : Int32.toNatClampNeg (nI l) = l := nI_clamp (by omega)
  have c2 : Int32.toNatClampNeg (nI m) = m := nI_clamp (by omega)
  have na : ¬ nI a = -1 := nI_nm1 (by omega)
  have nb : ¬ nI b = -1 := nI_nm1 (by omega)
  have hab' : ¬ nI a = nI b := fun h => hab ((q a b ha hb).mp h)
  unfold F_meetWronglyG F_otherEndG mw
  simp only [i1, i2, c1, c2, isEnd_eq hm, e1, e2, e3, e4, Option.bind_some, ↓reduceIte, touch_eq x y ha hb hc hd]
  by_cases h1 : a = c
  · subst h1
    simp only [true_or, ↓reduceIte, n10, Option.bind_some, na, sameWay_eq x y ha hb hd]
  · have h1' : ¬ nI c = nI a := fun h => h1 ((q c a hc ha).mp h).symm
    by_cases h2 : a = d
    · subst h2
      simp only [or_true, h1, h1', ↓reduceIte, n10, Option.bind_some, na, sameWay_eq x y ha hb hc]
    · have h2' : ¬ nI d = nI a := fun h => h2 ((q d a hd ha).mp h).symm
      by_cases h3 : b = c
      · subst h3
        simp only [h1, h2, h1', h2', or_self, true_or, ↓reduceIte, n10, Option.bind_some, nb, hab', sameWay_eq x y hb ha hd]
      · have h3' : ¬ nI c = nI b := fun h => h3 ((q c b hc hb).mp h).symm
        by_cases h4 : b = d
        · subst h4
          simp only [h1, h2, h3, h1', h2', h3', or_self, or_true, ↓reduceIte, n10, Option.bind_some, nb, hab', sameWay_eq x y hb ha hc]
        · have h4' : ¬ nI d = nI b := fun h => h4 ((q d b hd hb).mp h).symm
          simp only [h1, h2, h3, h4, h1', h2', h3', h4', or_self, ↓reduceIte, Option.bind_some]
theorem meetM_eq {on ot x y : Nat → Int32} (hx : PL x) (hy : PL y) {l m a b c d : Nat} (hl : l < 24) (hm : m < 24) (ha : a < 10) (hb : b < 10) (hc : c < 10) (hd : d < 10) (e1 : on l = nI a) (e2 : ot l = nI b) (e3 : on m = nI c) (e4 : ot m = nI d) : F_meetNowM on ot x y (nI l) (nI m) = some (if mw x y a b c d = true then 1 else 0) := by
  have q : ∀ i j : Nat, i < 10 → j < 10 → (nI i = nI j ↔ i = j) := fun i j h1 h2 => nI_eq_iff (by omega) (by omega)
  have i1 := inb_nI (n := 24) hl (by decide)
  have i2 := inb_nI (n := 24) hm (by decide)
  have c1 : Int32.toNatClampNeg (nI l) = l := nI_clamp (by omega)
  have c2 : Int32.toNatClampNeg (nI m) = m := nI_clamp (by omega)
  unfold F_meetNowM mw
  simp only [i1, i2, c1, c2, e1, e2, e3, e4, ↓reduceIte]
  by_cases h1 : a = c
  · subst h1
    simp only [true_or, ↓reduceIte, Option.bind_some, behindM_eq x y ha hb hd]
  · have h1' : ¬ nI a = nI c := fun h => h1 ((q a c ha hc).mp h)
    by_cases h2 : a = d
    · subst h2
      simp only [or_true, h1, h1', ↓reduceIte, Option.bind_some, behindM_eq x y ha hb hc]
    · have h2' : ¬ nI a = nI d := fun h => h2 ((q a d ha hd).mp h)
      by_cases h3 : b = c
      · subst h3
        simp only [h1, h2, h1', h2', or_self, true_or, ↓reduceIte, Option.bind_some, behindM_eq x y hb ha hd]
      · have h3' : ¬ nI b = nI c := fun h => h3 ((q b c hb hc).mp h)
        by_cases h4 : b = d
        · subst h4
          simp only [h1, h2, h3, h1', h2', h3', or_self, or_true, ↓reduceIte, Option.bind_some, behindM_eq x y hb ha hc]
        · have h4' : ¬ nI b = nI d := fun h => h4 ((q b d hb hd).mp h)
          simp only [h1, h2, h3, h4, h1', h2', h3', h4', or_self, ↓reduceIte]
          exact tchM_eq hx hy ha hb hc hd
def GI (lb : Int32) (le mo on ot x y : Nat → Int32) : Prop := PL x ∧ PL y ∧ (∀ l, l < 24 → (on l < 0 ↔ bit lb l = false)) ∧ ∀ l, l < 24 → bit lb l = true → ∃ a b : Nat, a < b ∧ b < 10 ∧ le l = nI a ∧ mo l = nI b ∧ on l = nI a ∧ ot l = nI b
theorem meet_both {lb : Int32} {le mo on ot x y : Nat → Int32} (h : GI lb le mo on ot x y) {l m : Nat} (hl : l < 24) (hm : m < 24) (bl : bit lb l = true) (bm : bit lb m = true) : ∃ r, z01 r ∧ F_meetWronglyG le mo x y (nI l) (nI m) = some r ∧ F_meetNowM on ot x y (nI l) (nI m) = some r := by
  obtain ⟨hx, hy, _, h5⟩ := h
  obtain ⟨a, b, q1, q2, q3, q4, q5, q6⟩ := h5 l hl bl
  obtain ⟨c, d, r1, r2, r3, r4, r5, r6⟩ := h5 m hm bm
  refine ⟨if mw x y a b c d = true then 1 else 0, ?_, meetG_eq hl hm (by omega) (by omega) (by omega) (by omega) (by omega) q3 q4 r3 r4, meetM_eq hx hy hl hm (by omega) (by omega) (by omega) (by omega) q5 q6 r5 r6⟩
  split
  · exact Or.inr rfl
  · exact Or.inl rfl
theorem meets14_L {K K' : Int32 → Option Int32} {lb : Int32} {le mo on ot x y : Nat → Int32} (h : GI lb le mo on ot x y) {k4 : Nat} (h4 : k4 < 24) : ∀ (n k : Nat) (v : Int32), k + n = 24 → ∃ r, F_wrongMeetingsG_L14 K lb le mo x y k4 n k v = K r ∧ F_meetingsM_L14 K' on ot x y k4 n k v = K' r
  | 0, k, v, _ => ⟨v, by rw [F_wrongMeetingsG_L14], by rw [F_meetingsM_L14]⟩
  | n + 1, k, v, hk => by
    have ih := fun v => meets14_L (K := K) (K' := K') h h4 n (k + 1) v (by omega)
    rw [F_wrongMeetingsG_L14, F_meetingsM_L14]
    cases b4 : bit lb k4 with
    | false =>
      rw [if_pos ((has0_iff (by omega)).mpr b4), if_pos ((h.2.2.1 k4 h4).mpr b4)]
      exact ih v
    | true =>
      rw [if_neg (has_no (by omega) b4), if_neg (iff_no (h.2.2.1 k4 h4) b4)]
      cases bk : bit lb k with
      | false =>
        rw [if_pos ((has0_iff (by omega)).mpr bk), if_pos ((h.2.2.1 k (by omega)).mpr bk)]
        exact ih v
      | true =>
        rw [if_neg (has_no (by omega) bk), if_neg (iff_no (h.2.2.1 k (by omega)) bk)]
        obtain ⟨r, _, e1, e2⟩ := meet_both h h4 (show k < 24 by omega) b4 bk
        rw [e1, e2]
        simp only [Option.bind_some]
        by_cases c : r = 0
        · (first | rw [if_pos c, if_pos c] | rw [if_pos c]); exact ih v
        · (first | rw [if_neg c, if_neg c] | rw [if_neg c]); exact ih (v + 1)
theorem meets4_L {K K' : Int32 → Option Int32} {lb : Int32} {le mo on ot x y : Nat → Int32} (h : GI lb le mo on ot x y) : ∀ (n k : Nat) (v : Int32), k + n = 24 → ∃ r, F_wrongMeetingsG_L4 K lb le mo x y n k v = K r ∧ F_meetingsM_L4 K' on ot x y n k v = K' r
  | 0, k, v, _ => ⟨v, by rw [F_wrongMeetingsG_L4], by rw [F_meetingsM_L4]⟩
  | n + 1, k, v, hk => by
    rw [F_wrongMeetingsG_L4, F_meetingsM_L4]
    obtain ⟨r, e1, e2⟩ := meets14_L (K := fun v1_14 => (F_wrongMeetingsG_L4 K lb le mo x y n (k + 1) v1_14)) (K' := fun v1_14 => (F_meetingsM_L4 K' on ot x y n (k + 1) v1_14)) h (show k < 24 by omega) (24 - (k + 1)) (k + 1) v (by omega)
    rw [e1, e2]
    exact meets4_L h n (k + 1) r (by omega)
theorem meets_eq {lb : Int32} {le mo on ot x y : Nat → Int32} (h : GI lb le mo on ot x y) : ∃ r, F_wrongMeetingsG lb le mo x y = some r ∧ F_meetingsM on ot x y = some r :=
  meets4_L (K := fun v => some v) (K' := fun v => some v) h 24 0 0 rfl
