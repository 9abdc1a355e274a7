def tt (x y : Nat → Int32) (a b c : Nat) : Int32 := (x b - x a) * (y c - y a) - (y b - y a) * (x c - x a)
def sg (t : Int32) : Int32 := if t ≤ 0 then (if 0 ≤ t then 0 else -1) else 1
theorem sg0 {t : Int32} : sg t = 0 ↔ t = 0 := by
  unfold sg
  constructor
  · intro h
    by_cases h1 : t ≤ 0
    · by_cases h2 : (0 : Int32) ≤ t
      · apply Int32.toInt_inj.mp
        rw [Int32.le_iff_toInt_le] at h1 h2
        omega
      · rw [if_pos h1, if_neg h2] at h; exact absurd h (by decide)
    · rw [if_neg h1] at h; exact absurd h (by decide)
  · rintro rfl; decide
theorem turnG_eq (x y : Nat → Int32) {a b c : Nat} (ha : a < 10) (hb : b < 10) (hc : c < 10) : F_turnG x y (nI a) (nI b) (nI c) = some (tt x y a b c) := by
  unfold F_turnG tt
  rw [if_pos (inb_nI hb (by decide)), if_pos (inb_nI ha (by decide)), if_pos (inb_nI hc (by decide)), nI_clamp (by omega), nI_clamp (by omega), nI_clamp (by omega)]
theorem turnM_eq (x y : Nat → Int32) {a b c : Nat} (ha : a < 10) (hb : b < 10) (hc : c < 10) : F_turnM x y (nI a) (nI b) (nI c) = some (sg (tt x y a b c)) := by
  unfold F_turnM sg tt
  rw [if_pos (inb_nI hb (by decide)), if_pos (inb_nI ha (by decide)), if_pos (inb_nI hc (by decide)), nI_clamp (by omega), nI_clamp (by omega), nI_clamp (by omega)]
  by_cases h1 : (x b - x a) * (y c - y a) - (y b - y a) * (x c - x a) ≤ 0
  · rw [if_pos h1, if_pos h1]
    by_cases h2 : 0 ≤ (x b - x a) * (y c - y a) - (y b - y a) * (x c - x a)
    · rw [if_pos h2, if_pos h2]
    · rw [if_neg h2, if_neg h2]
  · rw [if_neg h1, if_neg h1]
def btw (v p q : Int32) : Bool := decide (¬ v < (if q < p then q else p)) && decide (¬ (if p < q then q else p) < v)
theorem btwG_eq (v p q : Int32) : F_isBetweenG v p q = some (if btw v p q = true then 1 else 0) := by
  unfold F_isBetweenG btw
  by_cases h1 : v < (if q < p then q else p)
  · rw [if_pos h1, decide_eq_false (fun h => h h1)]; rfl
  · rw [if_neg h1, decide_eq_true h1]
    by_cases h2 : (if p < q then q else p) < v
    · rw [if_pos h2, decide_eq_false (fun h => h h2)]; rfl
    · rw [if_neg h2, decide_eq_true h2]; rfl
theorem min_le (p q : Int32) : (if q ≤ p then q else p) = (if q < p then q else p) := by
  by_cases h : q < p
  · rw [if_pos h, if_pos]
    rw [Int32.lt_iff_toInt_lt] at h; rw [Int32.le_iff_toInt_le]; omega
  · rw [if_neg h]
    by_cases h2 : q ≤ p
    · rw [if_pos h2]
      apply Int32.toInt_inj.mp
      rw [Int32.lt_iff_toInt_lt] at h; rw [Int32.le_iff_toInt_le] at h2; omega
    · rw [if_neg h2]
theorem max_le (p q : Int32) : (if q ≤ p then p else q) = (if p < q then q else p) := by
  by_cases h : p < q
  · rw [if_pos h, if_neg]
    rw [Int32.lt_iff_toInt_lt] at h; rw [Int32.le_iff_toInt_le]; omega
  · rw [if_neg h, if_pos]
    rw [Int32.lt_iff_toInt_lt] at h; rw [Int32.le_iff_toInt_le]; omega
def onb (x y : Nat → Int32) (i a b : Nat) : Bool := decide (tt x y a b i = 0) && btw (x i) (x a) (x b) && btw (y i) (y a) (y b)
theorem liesOn_eq (x y : Nat → Int32) {i a b : Nat} (hi : i < 10) (ha : a < 10) (hb : b < 10) : F_liesOnG x y (nI i) (nI a) (nI b) = some (if onb x y i a b = true then 1 else 0) := by
  unfold F_liesOnG onb
  rw [turnG_eq x y ha hb hi, Option.bind_some, if_pos (inb_nI hi (by decide)), if_pos (inb_nI ha (by decide)), if_pos (inb_nI hb (by decide)), nI_clamp (by omega), nI_clamp (by omega), nI_clamp (by omega), btwG_eq, btwG_eq, Option.bind_some, Option.bind_some]
  by_cases h1 : tt x y a b i = 0
  · rw [if_pos h1, decide_eq_true h1]
    cases h2 : btw (x i) (x a) (x b) <;> cases h3 : btw (y i) (y a) (y b) <;> rfl
  · rw [if_neg h1, decide_eq_false h1]; rfl
theorem isOn_eq (x y : Nat → Int32) {i a b : Nat} (hi : i < 10) (ha : a < 10) (hb : b < 10) : F_isOnM x y (nI a) (nI b) (nI i) = some (if onb x y i a b = true then 1 else 0) := by
  unfold F_isOnM onb
  rw [if_pos (inb_nI hi (by decide)), if_pos (inb_nI ha (by decide)), if_pos (inb_nI hb (by decide)), nI_clamp (by omega), nI_clamp (by omega), nI_clamp (by omega), turnM_eq x y ha hb hi]
  show (if (if x i < (if x b ≤ x a then x b else x a) then (0 : Int32) else (if (if x b ≤ x a then x a else x b) < x i then 0 else 1)) = 0 then some 0 else (if (if y i < (if y b ≤ y a then y b else y a) then (0 : Int32) else (if (if y b ≤ y a then y a else y b) < y i then 0 else 1)) = 0 then some 0 else (if sg (tt x y a b i) = 0 then some (1 : Int32) else some 0))) = _
  rw [min_le, max_le, min_le, max_le]
  have e1 : ∀ v p q : Int32, (if v < (if q < p then q else p) then (0 : Int32) else (if (if p < q then q else p) < v then 0 else 1)) = if btw v p q = true then 1 else 0 := by
    intro v p q
    have := btwG_eq v p q
    unfold F_isBetweenG at this
    by_cases h1 : v < (if q < p then q else p)
    · rw [if_pos h1] at this ⊢; exact Option.some.inj this
    · rw [if_neg h1] at this ⊢
      by_cases h2 : (if p < q then q else p) < v
      · rw [if_pos h2] at this ⊢; exact Option.some.inj this
      · rw [if_neg h2] at this ⊢; exact Option.some.inj this
  rw [e1, e1]
  by_cases h1 : tt x y a b i = 0
  · rw [decide_eq_true h1, if_pos (sg0.mpr h1)]
    cases h2 : btw (x i) (x a) (x b) <;> cases h3 : btw (y i) (y a) (y b) <;> rfl
  · rw [decide_eq_false h1, if_neg (fun h => h1 (sg0.mp h))]
    cases h2 : btw (x i) (x a) (x b) <;> cases h3 : btw (y i) (y a) (y b) <;> rfl
def PL (x : Nat → Int32) : Prop := ∀ i, i < 10 → ∃ n : Nat, n ≤ 30 ∧ x i = nI n
theorem sub_toInt {p q : Int32} {a b : Int} (hp : p.toInt = a) (hq : q.toInt = b) (h1 : -1000000000 ≤ a - b) (h2 : a - b ≤ 1000000000) : (p - q).toInt = a - b := by
  rw [Int32.toInt_sub, hp, hq]
  exact Int.bmod_eq_of_le (by omega) (by omega)
theorem mul_toInt {p q : Int32} {a b : Int} (hp : p.toInt = a) (hq : q.toInt = b) (h1 : -1000000000 ≤ a * b) (h2 : a * b ≤ 1000000000) : (p * q).toInt = a * b := by
  rw [Int32.toInt_mul, hp, hq]
  exact Int.bmod_eq_of_le (by omega) (by omega)
theorem mul_bnd {a b m n : Int} (h1 : -m ≤ a) (h2 : a ≤ m) (h3 : -n ≤ b) (h4 : b ≤ n) : -(m * n) ≤ a * b ∧ a * b ≤ m * n := by
  have hm : 0 ≤ m := by omega
  have hn : 0 ≤ n := by omega
  have e1 : 0 ≤ (m - a) * (n + b) := Int.mul_nonneg (by omega) (by omega)
  have e2 : 0 ≤ (m + a) * (n - b) := Int.mul_nonneg (by omega) (by omega)
  have e3 : 0 ≤ (m - a) * (n - b) := Int.mul_nonneg (by omega) (by omega)
  have e4 : 0 ≤ (m + a) * (n + b) := Int.mul_nonneg (by omega) (by omega)
  have x1 : (m - a) * (n + b) = m * n + m * b - a * n - a * b := by rw [Int.sub_mul, Int.mul_add, Int.mul_add]; omega
  have x2 : (m + a) * (n - b) = m * n - m * b + a * n - a * b := by rw [Int.add_mul, Int.mul_sub, Int.mul_sub]; omega
  have x3 : (m - a) * (n - b) = m * n - m * b - a * n + a * b := by rw [Int.sub_mul, Int.mul_sub, Int.mul_sub]; omega
  have x4 : (m + a) * (n + b) = m * n + m * b + a * n + a * b := by rw [Int.add_mul, Int.mul_add, Int.mul_add]; omega
  omega
theorem tt_bnd {x y : Nat → Int32} (hx : PL x) (hy : PL y) {a b c : Nat} (ha : a < 10) (hb : b < 10) (hc : c < 10) : -1800 ≤ (tt x y a b c).toInt ∧ (tt x y a b c).toInt ≤ 1800 := by
  obtain ⟨xa, k1, e1⟩ := hx a ha
  obtain ⟨xb, k2, e2⟩ := hx b hb
  obtain ⟨xc, k3, e3⟩ := hx c hc
  obtain ⟨ya, k4, e4⟩ := hy a ha
  obtain ⟨yb, k5, e5⟩ := hy b hb
  obtain ⟨yc, k6, e6⟩ := hy c hc
  unfold tt
  rw [e1, e2, e3, e4, e5, e6]
  have d1 := sub_toInt (nI_toInt (n := xb) (by omega)) (nI_toInt (n := xa) (by omega)) (by omega) (by omega)
  have d2 := sub_toInt (nI_toInt (n := yc) (by omega)) (nI_toInt (n := ya) (by omega)) (by omega) (by omega)
  have d3 := sub_toInt (nI_toInt (n := yb) (by omega)) (nI_toInt (n := ya) (by omega)) (by omega) (by omega)
  have d4 := sub_toInt (nI_toInt (n := xc) (by omega)) (nI_toInt (n := xa) (by omega)) (by omega) (by omega)
  have m1 := mul_bnd (a := (xb : Int) - xa) (b := (yc : Int) - ya) (m := 30) (n := 30) (by omega) (by omega) (by omega) (by omega)
  have m2 := mul_bnd (a := (yb : Int) - ya) (b := (xc : Int) - xa) (m := 30) (n := 30) (by omega) (by omega) (by omega) (by omega)
  have p1 := mul_toInt d1 d2 (by omega) (by omega)
  have p2 := mul_toInt d3 d4 (by omega) (by omega)
  have := sub_toInt p1 p2 (by omega) (by omega)
  rw [this]
  omega
theorem sg_toInt (t : Int32) : (sg t).toInt = if t.toInt ≤ 0 then (if 0 ≤ t.toInt then 0 else -1) else 1 := by
  unfold sg
  have e : (0 : Int32).toInt = 0 := by decide
  by_cases h1 : t.toInt ≤ 0
  · rw [if_pos h1, if_pos (by rw [Int32.le_iff_toInt_le, e]; exact h1)]
    by_cases h2 : 0 ≤ t.toInt
    · rw [if_pos h2, if_pos (by rw [Int32.le_iff_toInt_le, e]; exact h2)]; decide
    · rw [if_neg h2, if_neg (by rw [Int32.le_iff_toInt_le, e]; exact h2)]; decide
  · rw [if_neg h1, if_neg (by rw [Int32.le_iff_toInt_le, e]; exact h1)]; decide
theorem prod_sg {s t : Int32} (h1 : -1800 ≤ s.toInt ∧ s.toInt ≤ 1800) (h2 : -1800 ≤ t.toInt ∧ t.toInt ≤ 1800) : (0 ≤ s * t) ↔ (0 ≤ sg s * sg t) := by
  have b := mul_bnd (a := s.toInt) (b := t.toInt) (m := 1800) (n := 1800) h1.1 h1.2 h2.1 h2.2
  have p := mul_toInt (p := s) (q := t) rfl rfl (by omega) (by omega)
  have e : (0 : Int32).toInt = 0 := by decide
  have s1 := sg_toInt s
  have s2 := sg_toInt t
  have b2 := mul_bnd (a := (sg s).toInt) (b := (sg t).toInt) (m := 1) (n := 1) (by rw [s1]; split <;> (try split) <;> omega) (by rw [s1]; split <;> (try split) <;> omega) (by rw [s2]; split <;> (try split) <;> omega) (by rw [s2]; split <;> (try split) <;> omega)
  have q := mul_toInt (p := sg s) (q := sg t) rfl rfl (by omega) (by omega)
  rw [Int32.le_iff_toInt_le, Int32.le_iff_toInt_le, e, p, q, s1, s2]
  rcases Int.lt_trichotomy s.toInt 0 with a | a | a
  · rw [if_pos (by omega : s.toInt ≤ 0), if_neg (by omega : ¬ 0 ≤ s.toInt)]
    rcases Int.lt_trichotomy t.toInt 0 with c | c | c
    · rw [if_pos (by omega : t.toInt ≤ 0), if_neg (by omega : ¬ 0 ≤ t.toInt)]
      have := Int.mul_pos_of_neg_of_neg a c
      constructor <;> intro _ <;> omega
    · rw [c]; simp
    · rw [if_neg (by omega : ¬ t.toInt ≤ 0)]
      have := Int.mul_neg_of_neg_of_pos a c
      constructor <;> intro h <;> omega
  · rw [a]; simp
  · rw [if_neg (by omega : ¬ s.toInt ≤ 0)]
    rcases Int.lt_trichotomy t.toInt 0 with c | c | c
    · rw [if_pos (by omega : t.toInt ≤ 0), if_neg (by omega : ¬ 0 ≤ t.toInt)]
      have := Int.mul_neg_of_pos_of_neg a c
      constructor <;> intro h <;> omega
    · rw [c]; simp
    · rw [if_neg (by omega : ¬ t.toInt ≤ 0)]
      have := Int.mul_pos a c
      constructor <;> intro _ <;> omega
