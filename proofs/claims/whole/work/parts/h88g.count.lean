def ig (b : Bool) : Nat := if b = true then 1 else 0
theorem ig_t {b : Bool} (h : b = true) : ig b = 1 := if_pos h
theorem ig_f {b : Bool} (h : ¬ b = true) : ig b = 0 := if_neg h
theorem ig_le (b : Bool) : ig b ≤ 1 := by unfold ig; by_cases c : b = true; rw [if_pos c]; exact Nat.le_refl _; rw [if_neg c]; exact Nat.zero_le _
theorem su_add (f g : Nat → Nat) : ∀ n, su (fun i => f i + g i) n = su f n + su g n
  | 0 => rfl
  | n + 1 => by
    show su (fun i => f i + g i) n + (f n + g n) = (su f n + f n) + (su g n + g n)
    rw [su_add f g n]; omega
theorem su_mono {f g : Nat → Nat} : ∀ n, (∀ i, i < n → f i ≤ g i) → su f n ≤ su g n
  | 0, _ => Nat.le_refl _
  | n + 1, h => by
    have a := su_mono n (fun i hi => h i (by omega))
    have b := h n (Nat.lt_succ_self n)
    show su f n + f n ≤ su g n + g n
    omega
theorem su_zero {f : Nat → Nat} : ∀ n, (∀ i, i < n → f i = 0) → su f n = 0
  | 0, _ => rfl
  | n + 1, h => by
    show su f n + f n = 0
    rw [su_zero n (fun i hi => h i (by omega)), h n (Nat.lt_succ_self n)]
theorem su_one {a m : Nat} : ∀ n, a < n → su (fun i => if i = a then m else 0) n = m
  | 0, h => absurd h (Nat.not_lt_zero _)
  | n + 1, h => by
    show su (fun i => if i = a then m else 0) n + (if n = a then m else 0) = m
    by_cases c : n = a
    · rw [if_pos c, su_zero n (fun i hi => if_neg (by omega))]; omega
    · rw [if_neg c, su_one n (by omega)]; omega
theorem su_mul (c : Nat) (f : Nat → Nat) : ∀ n, su (fun i => c * f i) n = c * su f n
  | 0 => rfl
  | n + 1 => by
    show su (fun i => c * f i) n + c * f n = c * (su f n + f n)
    rw [su_mul c f n, Nat.mul_add]
theorem su_pos {f : Nat → Nat} : ∀ n, 0 < su f n → ∃ i, i < n ∧ 0 < f i
  | 0, h => absurd h (Nat.lt_irrefl _)
  | n + 1, h => by
    have h : 0 < su f n + f n := h
    by_cases c : 0 < f n
    · exact ⟨n, Nat.lt_succ_self n, c⟩
    · obtain ⟨i, h1, h2⟩ := su_pos (f := f) n (by omega)
      exact ⟨i, by omega, h2⟩
theorem su_row {u n : Nat} (hu : u < n) (f : Nat → Nat) : su (fun a => su (fun b => if a = u then f b else 0) n) n = su f n := by
  rw [su_congr (g := fun a => if a = u then su f n else 0) n (fun a _ => ?_), su_one n hu]
  by_cases c : a = u
  · rw [if_pos c]; exact su_congr n (fun b _ => if_pos c)
  · rw [if_neg c]; exact su_zero n (fun b _ => if_neg c)
theorem su_col {u n : Nat} (hu : u < n) (f : Nat → Nat) : su (fun a => su (fun b => if b = u then f a else 0) n) n = su f n := su_congr n (fun a _ => su_one n hu)
theorem su_add2 (f g : Nat → Nat → Nat) (n : Nat) : su (fun a => su (fun b => f a b + g a b) n) n = su (fun a => su (fun b => f a b) n) n + su (fun a => su (fun b => g a b) n) n := by
  rw [← su_add]
  exact su_congr n (fun a _ => su_add _ _ n)
theorem cf_su (p : Nat → Bool) : ∀ n, cf p n 0 = su (fun i => ig (p i)) n
  | 0 => rfl
  | n + 1 => by
    rw [cf_add n 1 0, cf_su p n]
    show _ + ((if p (0 + n) = true then 1 else 0) + 0) = su (fun i => ig (p i)) n + ig (p n)
    rw [Nat.zero_add]
    rfl
theorem su_list (p : Nat → Bool) : ∀ n, su (fun i => ig (p i)) n = ((List.range n).filter p).length
  | 0 => rfl
  | n + 1 => by
    show su (fun i => ig (p i)) n + ig (p n) = _
    rw [su_list p n, List.range_succ, List.filter_append, List.length_append]
    cases h : p n
    · simp [List.filter, h, ig]
    · simp [List.filter, h, ig]
def Gb (g : Nat → Nat → Bool) : Prop := (∀ a b, g a b = g b a) ∧ (∀ a, g a a = false) ∧ ∀ a b, g a b = true → a < 11
def gd (g : Nat → Nat → Bool) (a b : Nat) : Prop := g a b = true
def dg (g : Nat → Nat → Bool) (a : Nat) : Nat := su (fun b => ig (g a b)) 11
def en (g : Nat → Nat → Bool) : Nat := su (fun a => su (fun b => ig (g a b)) 11) 11
def rmv (g : Nat → Nat → Bool) (v a b : Nat) : Bool := g a b && !decide (a = v) && !decide (b = v)
def del (g : Nat → Nat → Bool) (u v a b : Nat) : Bool := g a b && !(decide (a = u) && decide (b = v)) && !(decide (a = v) && decide (b = u))
def tt_ (g : Nat → Nat → Bool) (u v c : Nat) : Bool := g v c && !g u c && !decide (c = u)
def ctr (g : Nat → Nat → Bool) (u v a b : Nat) : Bool := rmv g v a b || (decide (a = u) && tt_ g u v b) || (decide (b = u) && tt_ g u v a)
def ade (g : Nat → Nat → Bool) (p q a b : Nat) : Bool := g a b || (decide (a = p) && decide (b = q)) || (decide (a = q) && decide (b = p))
theorem rmv_iff {g : Nat → Nat → Bool} {v a b : Nat} : rmv g v a b = true ↔ g a b = true ∧ a ≠ v ∧ b ≠ v := by
  simp [rmv, and_assoc]
theorem del_iff {g : Nat → Nat → Bool} {u v a b : Nat} : del g u v a b = true ↔ g a b = true ∧ ¬ (a = u ∧ b = v) ∧ ¬ (a = v ∧ b = u) := by
  simp [del, and_assoc]
  intro _
  constructor
  · rintro ⟨h1, h2⟩
    refine ⟨fun e => ?_, fun e => ?_⟩
    · rcases h1 with h | h
      · exact absurd e h
      · exact h
    · rcases h2 with h | h
      · exact absurd e h
      · exact h
  · rintro ⟨h1, h2⟩
    refine ⟨?_, ?_⟩
    · by_cases c : a = u
      · exact Or.inr (h1 c)
      · exact Or.inl c
    · by_cases c : a = v
      · exact Or.inr (h2 c)
      · exact Or.inl c
theorem tt_iff {g : Nat → Nat → Bool} {u v c : Nat} : tt_ g u v c = true ↔ g v c = true ∧ g u c = false ∧ c ≠ u := by
  simp [tt_, and_assoc]
theorem ctr_iff {g : Nat → Nat → Bool} {u v a b : Nat} : ctr g u v a b = true ↔ (g a b = true ∧ a ≠ v ∧ b ≠ v) ∨ (a = u ∧ tt_ g u v b = true) ∨ (b = u ∧ tt_ g u v a = true) := by
  unfold ctr
  rw [Bool.or_eq_true, Bool.or_eq_true, rmv_iff, Bool.and_eq_true, Bool.and_eq_true, decide_eq_true_iff, decide_eq_true_iff, or_assoc]
theorem ade_iff {g : Nat → Nat → Bool} {p q a b : Nat} : ade g p q a b = true ↔ g a b = true ∨ (a = p ∧ b = q) ∨ (a = q ∧ b = p) := by
  unfold ade
  rw [Bool.or_eq_true, Bool.or_eq_true, Bool.and_eq_true, Bool.and_eq_true, decide_eq_true_iff, decide_eq_true_iff, decide_eq_true_iff, decide_eq_true_iff, or_assoc]
theorem beq_of {a b : Bool} (h : a = true ↔ b = true) : a = b := by
  cases a <;> cases b <;> simp_all
theorem Gb.mk' {g : Nat → Nat → Bool} (h1 : ∀ a b, g a b = true → g b a = true) (h2 : ∀ a, ¬ g a a = true) (h3 : ∀ a b, g a b = true → a < 11) : Gb g := ⟨fun a b => beq_of ⟨h1 a b, h1 b a⟩, fun a => by have := h2 a; simpa using this, h3⟩
theorem Gb.sy {g : Nat → Nat → Bool} (h : Gb g) {a b : Nat} (e : g a b = true) : g b a = true := by rw [h.1 b a]; exact e
theorem Gb.ne {g : Nat → Nat → Bool} (h : Gb g) {a b : Nat} (e : g a b = true) : a ≠ b := fun c => by rw [c, h.2.1 b] at e; cases e
theorem Gb.lt {g : Nat → Nat → Bool} (h : Gb g) {a b : Nat} (e : g a b = true) : a < 11 ∧ b < 11 := ⟨h.2.2 a b e, h.2.2 b a (h.sy e)⟩
theorem Gb.rmv {g : Nat → Nat → Bool} (h : Gb g) (v : Nat) : Gb (rmv g v) := Gb.mk' (fun a b e => by
  rw [rmv_iff] at e ⊢; exact ⟨h.sy e.1, e.2.2, e.2.1⟩) (fun a e => by
  rw [rmv_iff] at e; exact h.ne e.1 rfl) (fun a b e => by
  rw [rmv_iff] at e; exact h.2.2 a b e.1)
theorem Gb.del {g : Nat → Nat → Bool} (h : Gb g) (u v : Nat) : Gb (del g u v) := Gb.mk' (fun a b e => by
  rw [del_iff] at e ⊢; exact ⟨h.sy e.1, fun q => e.2.2 ⟨q.2, q.1⟩, fun q => e.2.1 ⟨q.2, q.1⟩⟩) (fun a e => by
  rw [del_iff] at e; exact h.ne e.1 rfl) (fun a b e => by
  rw [del_iff] at e; exact h.2.2 a b e.1)
theorem Gb.ctr {g : Nat → Nat → Bool} (h : Gb g) {u v : Nat} (hu : u < 11) : Gb (ctr g u v) := Gb.mk' (fun a b e => by
  rw [ctr_iff] at e ⊢
  rcases e with e | e | e
  · exact Or.inl ⟨h.sy e.1, e.2.2, e.2.1⟩
  · exact Or.inr (Or.inr e)
  · exact Or.inr (Or.inl e)) (fun a e => by
  rw [ctr_iff] at e
  rcases e with e | ⟨e1, e2⟩ | ⟨e1, e2⟩
  · exact h.ne e.1 rfl
  · exact (tt_iff.mp e2).2.2 e1
  · exact (tt_iff.mp e2).2.2 e1) (fun a b e => by
  rw [ctr_iff] at e
  rcases e with e | ⟨e1, e2⟩ | ⟨e1, e2⟩
  · exact h.2.2 a b e.1
  · omega
  · exact (h.lt (tt_iff.mp e2).1).2)
theorem Gb.ade {g : Nat → Nat → Bool} (h : Gb g) {p q : Nat} (hp : p < 11) (hq : q < 11) (hpq : p ≠ q) : Gb (ade g p q) := Gb.mk' (fun a b e => by
  rw [ade_iff] at e ⊢
  rcases e with e | e | e
  · exact Or.inl (h.sy e)
  · exact Or.inr (Or.inr ⟨e.2, e.1⟩)
  · exact Or.inr (Or.inl ⟨e.2, e.1⟩)) (fun a e => by
  rw [ade_iff] at e
  rcases e with e | e | e
  · exact h.ne e rfl
  · exact hpq (e.1.symm.trans e.2)
  · exact hpq (e.2.symm.trans e.1)) (fun a b e => by
  rw [ade_iff] at e
  rcases e with e | e | e
  · exact h.2.2 a b e
  · omega
  · omega)
theorem en_del {g : Nat → Nat → Bool} (h : Gb g) {u v : Nat} (e : g u v = true) : en (del g u v) + 2 = en g := by
  have hne := h.ne e
  obtain ⟨hu, hv⟩ := h.lt e
  have pt : ∀ a b, ig (g a b) = ig (del g u v a b) + ((if a = u then (if b = v then 1 else 0) else 0) + (if a = v then (if b = u then 1 else 0) else 0)) := by
    intro a b
    by_cases c1 : a = u ∧ b = v
    · obtain ⟨rfl, rfl⟩ := c1
      rw [ig_t e, ig_f (fun q => (del_iff.mp q).2.1 ⟨rfl, rfl⟩), if_pos rfl, if_pos rfl, if_neg hne]
    · by_cases c2 : a = v ∧ b = u
      · obtain ⟨rfl, rfl⟩ := c2
        rw [ig_t (h.sy e), ig_f (fun q => (del_iff.mp q).2.2 ⟨rfl, rfl⟩), if_neg (Ne.symm hne), if_pos rfl, if_pos rfl]
      · have z1 : (if a = u then (if b = v then 1 else 0) else 0) = 0 := by
          by_cases c : a = u
          · rw [if_pos c, if_neg (fun q => c1 ⟨c, q⟩)]
          · rw [if_neg c]
        have z2 : (if a = v then (if b = u then 1 else 0) else 0) = 0 := by
          by_cases c : a = v
          · rw [if_pos c, if_neg (fun q => c2 ⟨c, q⟩)]
          · rw [if_neg c]
        rw [z1, z2]
        by_cases c : g a b = true
        · rw [ig_t c, ig_t (del_iff.mpr ⟨c, c1, c2⟩)]
        · rw [ig_f c, ig_f (fun q => c (del_iff.mp q).1)]
  have key : en g = en (del g u v) + (su (fun b => if b = v then 1 else 0) 11 + su (fun b => if b = u then 1 else 0) 11) := by
    rw [← su_row hu (fun b => if b = v then 1 else 0), ← su_row hv (fun b => if b = u then 1 else 0)]
    unfold en
    rw [← su_add2, ← su_add2]
    exact su_congr 11 (fun a _ => su_congr 11 (fun b _ => pt a b))
  rw [su_one 11 hv, su_one 11 hu] at key
  omega
theorem en_rmv {g : Nat → Nat → Bool} (h : Gb g) {v : Nat} (hv : v < 11) : en g = en (rmv g v) + 2 * dg g v := by
  have pt : ∀ a b, ig (g a b) = ig (rmv g v a b) + ((if a = v then ig (g v b) else 0) + (if b = v then ig (g v a) else 0)) := by
    intro a b
    by_cases c1 : a = v
    · subst c1
      rw [if_pos rfl, ig_f (b := rmv g a a b) (fun q => (rmv_iff.mp q).2.1 rfl)]
      by_cases c2 : b = a
      · rw [if_pos c2, c2, ig_f (b := g a a) (fun q => h.ne q rfl)]
      · rw [if_neg c2]; omega
    · rw [if_neg c1]
      by_cases c2 : b = v
      · subst c2
        rw [if_pos rfl, ig_f (b := rmv g b a b) (fun q => (rmv_iff.mp q).2.2 rfl), h.1 a b]; omega
      · rw [if_neg c2]
        by_cases c : g a b = true
        · rw [ig_t c, ig_t (rmv_iff.mpr ⟨c, c1, c2⟩)]
        · rw [ig_f c, ig_f (fun q => c (rmv_iff.mp q).1)]
  have key : en g = en (rmv g v) + (su (fun b => ig (g v b)) 11 + su (fun b => ig (g v b)) 11) := by
    have q1 := su_row hv (fun b => ig (g v b))
    have q2 := su_col hv (fun b => ig (g v b))
    rw [show su (fun b => ig (g v b)) 11 + su (fun b => ig (g v b)) 11 = su (fun a => su (fun b => if a = v then ig (g v b) else 0) 11) 11 + su (fun a => su (fun b => if b = v then ig (g v a) else 0) 11) 11 by rw [q1, q2]]
    unfold en
    rw [← su_add2, ← su_add2]
    exact su_congr 11 (fun a _ => su_congr 11 (fun b _ => pt a b))
  unfold dg
  omega
def cmn (g : Nat → Nat → Bool) (u v : Nat) : Nat := su (fun c => ig (g u c && g v c)) 11
theorem en_ctr {g : Nat → Nat → Bool} (h : Gb g) {u v : Nat} (e : g u v = true) : en (ctr g u v) + 2 + 2 * cmn g u v = en g := by
  have hne := h.ne e
  obtain ⟨hu, hv⟩ := h.lt e
  have pt : ∀ a b, ig (ctr g u v a b) = ig (rmv g v a b) + ((if a = u then ig (tt_ g u v b) else 0) + (if b = u then ig (tt_ g u v a) else 0)) := by
    intro a b
    by_cases c1 : a = u
    · subst c1
      rw [if_pos rfl]
      have z : (if b = a then ig (tt_ g a v a) else 0) = 0 := by
        by_cases c : b = a
        · rw [if_pos c, ig_f (fun q => (tt_iff.mp q).2.2 rfl)]
        · rw [if_neg c]
      rw [z]
      by_cases c2 : tt_ g a v b = true
      · rw [ig_t c2, ig_t (ctr_iff.mpr (Or.inr (Or.inl ⟨rfl, c2⟩))), ig_f (fun q => absurd (rmv_iff.mp q).1 (by rw [(tt_iff.mp c2).2.1]; decide))]
      · rw [ig_f c2]
        by_cases c3 : rmv g v a b = true
        · rw [ig_t c3, ig_t (ctr_iff.mpr (Or.inl (rmv_iff.mp c3)))]
        · rw [ig_f c3, ig_f (fun q => ?_)]
          rcases ctr_iff.mp q with q | q | q
          · exact c3 (rmv_iff.mpr q)
          · exact c2 q.2
          · exact (tt_iff.mp q.2).2.2 rfl
    · rw [if_neg c1]
      by_cases c2 : b = u
      · subst c2
        rw [if_pos rfl]
        by_cases c2 : tt_ g b v a = true
        · rw [ig_t c2, ig_t (ctr_iff.mpr (Or.inr (Or.inr ⟨rfl, c2⟩))), ig_f (fun q => absurd (rmv_iff.mp q).1 (by rw [h.1 a b, (tt_iff.mp c2).2.1]; decide))]
        · rw [ig_f c2]
          by_cases c3 : rmv g v a b = true
          · rw [ig_t c3, ig_t (ctr_iff.mpr (Or.inl (rmv_iff.mp c3)))]
          · rw [ig_f c3, ig_f (fun q => ?_)]
            rcases ctr_iff.mp q with q | q | q
            · exact c3 (rmv_iff.mpr q)
            · exact c1 q.1
            · exact c2 q.2
      · rw [if_neg c2]
        by_cases c3 : rmv g v a b = true
        · rw [ig_t c3, ig_t (ctr_iff.mpr (Or.inl (rmv_iff.mp c3)))]
        · rw [ig_f c3, ig_f (fun q => ?_)]
          rcases ctr_iff.mp q with q | q | q
          · exact c3 (rmv_iff.mpr q)
          · exact c1 q.1
          · exact c2 q.1
  have key : en (ctr g u v) = en (rmv g v) + (su (fun b => ig (tt_ g u v b)) 11 + su (fun b => ig (tt_ g u v b)) 11) := by
    have q1 := su_row hu (fun b => ig (tt_ g u v b))
    have q2 := su_col hu (fun b => ig (tt_ g u v b))
    rw [show su (fun b => ig (tt_ g u v b)) 11 + su (fun b => ig (tt_ g u v b)) 11 = su (fun a => su (fun b => if a = u then ig (tt_ g u v b) else 0) 11) 11 + su (fun a => su (fun b => if b = u then ig (tt_ g u v a) else 0) 11) 11 by rw [q1, q2]]
    unfold en
    rw [← su_add2, ← su_add2]
    exact su_congr 11 (fun a _ => su_congr 11 (fun b _ => pt a b))
  have key2 : dg g v = su (fun b => ig (tt_ g u v b)) 11 + (1 + cmn g u v) := by
    have q1 := su_one (m := 1) 11 hu
    unfold dg cmn
    rw [← q1, ← su_add, ← su_add]
    refine su_congr 11 (fun c _ => ?_)
    show ig (g v c) = ig (tt_ g u v c) + ((if c = u then 1 else 0) + ig (g u c && g v c))
    by_cases c1 : c = u
    · subst c1
      rw [if_pos rfl, ig_t (h.sy e), ig_f (b := tt_ g c v c) (fun q => (tt_iff.mp q).2.2 rfl), h.2.1 c]; rfl
    · rw [if_neg c1]
      cases c2 : g v c
      · rw [ig_f (b := tt_ g u v c) (fun q => by have := (tt_iff.mp q).1; rw [c2] at this; cases this), Bool.and_false]; rfl
      · cases c3 : g u c
        · rw [ig_t (b := tt_ g u v c) (tt_iff.mpr ⟨c2, c3, c1⟩)]; rfl
        · rw [ig_f (b := tt_ g u v c) (fun q => by have := (tt_iff.mp q).2.1; rw [c3] at this; cases this)]; rfl
  have k3 := en_rmv h hv
  omega
theorem en_ade {g : Nat → Nat → Bool} {p q : Nat} (hp : p < 11) (hq : q < 11) : en (ade g p q) ≤ en g + 2 := by
  have key : en (ade g p q) ≤ en g + (su (fun b => if b = q then 1 else 0) 11 + su (fun b => if b = p then 1 else 0) 11) := by
    rw [← su_row hp (fun b => if b = q then 1 else 0), ← su_row hq (fun b => if b = p then 1 else 0)]
    unfold en
    rw [← su_add2, ← su_add2]
    refine su_mono 11 (fun a _ => su_mono 11 (fun b _ => ?_))
    by_cases c : ade g p q a b = true
    · rw [ig_t c]
      rcases ade_iff.mp c with c | c | c
      · rw [ig_t c]; omega
      · rw [if_pos c.1, if_pos c.2]; omega
      · rw [if_pos (show a = q from c.1), if_pos c.2]; omega
    · rw [ig_f c]; omega
  rw [su_one 11 hq, su_one 11 hp] at key
  omega
