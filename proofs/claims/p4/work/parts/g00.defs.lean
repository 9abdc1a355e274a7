def inb (i : Int32) (n : Nat) : Bool := !(decide (i < 0) || decide (n ≤ i.toNatClampNeg))
def is01 (v : Int32) : Bool := decide (v = 0) || decide (v = 1)
abbrev z01 (v : Int32) : Prop := v = 0 ∨ v = 1
theorem inb_iff {i : Int32} {n : Nat} : inb i n = true ↔ vp_in i n := by
  unfold inb vp_in
  simp
theorem ob_if {α : Type} {R : α} {c : Prop} [Decidable c] {A : Option α} (h : some R = if c then A else none) : c ∧ some R = A := by
  by_cases hc : c
  · rw [if_pos hc] at h; exact ⟨hc, h⟩
  · rw [if_neg hc] at h; cases h
theorem ob_in {α : Type} {R : α} {i : Int32} {n : Nat} {A : Option α} (h : some R = if inb i n = true then A else none) : vp_in i n := inb_iff.mp (ob_if h).1
theorem ob_01 {α : Type} {R : α} {v : Int32} {A : Option α} (h : some R = if is01 v = true then A else none) : z01 v := by
  have h2 := (ob_if h).1
  unfold is01 at h2
  simpa using h2
theorem ob_th {α : Type} {R : α} {c : Prop} [Decidable c] {A : Option α} (h : some R = if c then A else none) : some R = A := (ob_if h).2
theorem ob_bd {α β : Type} {R : β} {o : Option α} {K : α → Option β} (h : some R = o.bind K) : ∃ p, o = some p ∧ some R = K p := by
  cases o with
  | none => cases h
  | some p => exact ⟨p, rfl, h⟩
theorem ob_ifC {α β : Type} {R : β} {c : Prop} [Decidable c] {A B : α} {C : α → Option β} (hc : c) (h : some R = C (if c then A else B)) : some R = C A := by
  rw [if_pos hc] at h; exact h
theorem ob_elC {α β : Type} {R : β} {c : Prop} [Decidable c] {A B : α} {C : α → Option β} (hc : ¬ c) (h : some R = C (if c then A else B)) : some R = C B := by
  rw [if_neg hc] at h; exact h
theorem ob_thC {α β : Type} {R : β} {c : Prop} [Decidable c] {A : Option α} {C : Option α → Option β} (hn : C none = none) (h : some R = C (if c then A else none)) : c ∧ some R = C A := by
  by_cases hc : c
  · rw [if_pos hc] at h; exact ⟨hc, h⟩
  · rw [if_neg hc, hn] at h; cases h
theorem ob_inC {α β : Type} {R : β} {i : Int32} {n : Nat} {A : Option α} {C : Option α → Option β} (hn : C none = none) (h : some R = C (if inb i n = true then A else none)) : vp_in i n ∧ some R = C A := ⟨inb_iff.mp (ob_thC hn h).1, (ob_thC hn h).2⟩
theorem ob_01C {α β : Type} {R : β} {v : Int32} {A : Option α} {C : Option α → Option β} (hn : C none = none) (h : some R = C (if is01 v = true then A else none)) : z01 v ∧ some R = C A := ⟨by
  have h2 := (ob_thC hn h).1
  unfold is01 at h2
  simpa using h2, (ob_thC hn h).2⟩
theorem ob_bdC {α β γ : Type} {R : γ} {o : Option α} {K : α → Option β} {C : Option β → Option γ} (hn : C none = none) (h : some R = C (o.bind K)) : ∃ p, o = some p ∧ some R = C (K p) := by
  cases o with
  | none => exact absurd (h.trans hn) (fun h9 => by cases h9)
  | some p => exact ⟨p, rfl, h⟩
theorem ob_no {α : Type} (R : α) : ¬ some R = none := fun h => by cases h
theorem ob_on {α : Type} {R : α} (h : none = some R) : False := by cases h
theorem nr01 {v : Int32} (h : z01 v) : narrow .boolean (.int v) = .int v := by
  rcases h with rfl | rfl <;> rfl
theorem fill_upd {k : Nat} {f : Nat → Int32} {v : Int32} (hk : k < 2 ^ 31) : upd (f_fill k v f) (Int32.toNatClampNeg (nI k)) v = f_fill (k + 1) v f := by
  rw [nI_clamp hk]
  funext j
  unfold upd f_fill
  by_cases h : j = k
  · subst h; rw [if_pos rfl, if_pos (Nat.lt_succ_self j)]
  · rw [if_neg h]
    by_cases h2 : j < k
    · rw [if_pos h2, if_pos (by omega)]
    · rw [if_neg h2, if_neg (by omega)]
theorem fill_0 {f : Nat → Int32} {v : Int32} : f = f_fill 0 v f := by
  funext j
  unfold f_fill
  rw [if_neg (Nat.not_lt_zero j)]
def fuelC : Nat := 11 ^ 11
