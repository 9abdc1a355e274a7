def Nth (S : Nat → Bool) (k i : Nat) : Prop := i < 10 ∧ S i = true ∧ rk_ S i = k
theorem Nth.uq {S S' : Nat → Bool} (hS : ∀ b, b < 10 → S b = S' b) {k i j : Nat} (h : Nth S k i) (h' : Nth S' k j) : i = j := by
  have e : ∀ n, n ≤ 10 → rk_ S n = rk_ S' n := fun n hn => su_congr n (fun b hb => by show ig (S b) = ig (S' b); rw [hS b (by omega)])
  exact rk_inj h.2.1 (by rw [hS j h'.1]; exact h'.2.1) (by rw [h.2.2, e j (by have := h'.1; omega), h'.2.2])
theorem rk_s (S : Nat → Bool) (j : Nat) : rk_ S (j + 1) = rk_ S j + ig (S j) := rfl
theorem rk_le (S : Nat → Bool) : ∀ n, rk_ S n ≤ n
  | 0 => Nat.le_refl _
  | n + 1 => by
    have := rk_le S n
    have := ig_le (S n)
    rw [rk_s]; omega
theorem rk_mono (S : Nat → Bool) {a b : Nat} (h : a ≤ b) : rk_ S a ≤ rk_ S b := by
  have := su_pre (fun i => ig (S i)) a (b - a)
  rw [show a + (b - a) = b by omega] at this
  exact this
theorem rk_cf (S : Nat → Bool) (n : Nat) : cf S n 0 = rk_ S n := cf_su S n
theorem nth_S {v : Int32} {k : Nat} (hk : k < rk_ (bit v) 10) : ∀ (n j : Nat), j + n = 10 → rk_ (bit v) j ≤ k → Ok (F_nthOfG_L4 (fun _ => some (-1)) v (nI k) n j (nI (rk_ (bit v) j))) (fun r => ∃ i, r = nI i ∧ Nth (bit v) k i)
  | 0, j, hj, h => by
    have : j = 10 := by omega
    subst this
    omega
  | n + 1, j, hj, h => by
    have h10 := rk_le (bit v) 10
    have hjr := rk_le (bit v) j
    rw [F_nthOfG_L4]
    refine ok_if (fun c => ?_) (fun c => ok_if (fun c2 => ok_some ⟨j, rfl, by omega, bitT (by omega) c, ?_⟩) (fun c2 => ?_))
    · have hb := (has0_iff (by omega)).mp c
      have e : rk_ (bit v) (j + 1) = rk_ (bit v) j := by rw [rk_s, hb]; rfl
      have := nth_S (v := v) hk n (j + 1) (by omega) (by rw [e]; exact h)
      rw [e] at this
      exact this
    · rw [nI_eq_iff (by omega) (by omega)] at c2; exact c2
    · have hb := bitT (by omega) c
      have e : rk_ (bit v) (j + 1) = rk_ (bit v) j + 1 := by rw [rk_s, ig_t hb]
      have hne : rk_ (bit v) j ≠ k := fun z => c2 (by rw [z])
      have := nth_S (v := v) hk n (j + 1) (by omega) (by rw [e]; omega)
      rw [e] at this
      rw [nI_add1]
      exact this
theorem nth_sem {v : Int32} {k : Nat} (hk : k < rk_ (bit v) 10) : Ok (F_nthOfG v (nI k)) (fun r => ∃ i, r = nI i ∧ Nth (bit v) k i) := nth_S hk 10 0 rfl (Nat.zero_le _)
theorem Lst.uq {S : Nat → Bool} {a b : Nat} (h : Lst S a) (h' : Lst S b) : a = b := by
  rcases Nat.lt_trichotomy a b with q | q | q
  · exact absurd h.2.1 (h'.2.2 a q)
  · exact q
  · exact absurd h'.2.1 (h.2.2 b q)
def Face (on ot : Nat → Int32) (s : Int32) (F : Nat → Bool) : Prop := ∃ u co, WN u (gA s on ot) ∧ Lst (crn on ot s) co ∧ ∀ b, b < 10 → (F b = true ↔ cr (gN u) b ∧ b ≠ co ∧ Pwy (gN u) co b)
theorem Face.uq {on ot : Nat → Int32} {s : Int32} {F F' : Nat → Bool} (h : Face on ot s F) (h' : Face on ot s F') (b : Nat) (hb : b < 10) : F b = F' b := by
  obtain ⟨u, co, h1, h2, h3⟩ := h
  obtain ⟨u', co', h1', h2', h3'⟩ := h'
  have ec := Lst.uq h2 h2'
  subst ec
  have eg : gN u = gN u' := funext (fun a => funext (fun b => beq_of ⟨fun z => gN_iff.mpr ((h1'.2 a b).mpr ((h1.2 a b).mp (gN_iff.mp z))), fun z => gN_iff.mpr ((h1.2 a b).mpr ((h1'.2 a b).mp (gN_iff.mp z)))⟩))
  refine beq_of ?_
  rw [h3 b hb, h3' b hb, eg]
theorem crn_cr {on ot u : Nat → Int32} {s : Int32} (hL : LU on ot s) (hu : WN u (gA s on ot)) {b : Nat} (hb : b < 11) : crn on ot s b = true ↔ cr (gN u) b := by
  unfold crn cr
  rw [decide_eq_true_iff, dg_at hL hu hb]
  omega
theorem facing_sem {nb lb : Int32} {le mo dx dy mt on ot mx my fr to hi : Nat → Int32} (hv : Inv nb lb le mo dx dy mt on ot mx my fr to hi) {near : Nat → Int32} {s cs : Int32} (hs : SubB s lb) (hcs : ∀ i, bit cs i = true ↔ i < 10 ∧ crn on ot s i = true) (hn : 0 < rk_ (bit cs) 10) : Ok (F_facingG le mo near s cs) (fun R => Face on ot s (bit R.1) ∧ ∀ b, bit R.1 b = true → bit cs b = true) := by
  have hL := (LU_ofM hv).sub hs
  refine ok_bind (spin_sem ((LU_of hv).sub hs)) (fun u hu0 => ?_)
  have hu := hu0.cg (gA_eq hv hs)
  refine ok_bind (nth_sem (v := cs) (k := 0) hn) (fun q hq => ?_)
  obtain ⟨co, e, n1, n2, n3⟩ := hq
  subst e
  have hlst : Lst (crn on ot s) co := ⟨n1, ((hcs co).mp n2).2, fun i hi z => by
    have := rk_lt hi ((hcs i).mpr ⟨by omega, z⟩)
    omega⟩
  refine ok_if (fun z => absurd z (nI_nm1 (by omega))) (fun _ => ?_)
  have ecr : ∀ b, b < 11 → (bit cs b = true ↔ cr (gN u) b) := fun b hb => by
    rw [hcs b, crn_cr hL hu hb]
    refine ⟨fun z => z.2, fun z => ⟨?_, z⟩⟩
    by_cases c : b = 10
    · exfalso
      obtain ⟨y, ey⟩ := dg_pos (g := gN u) (a := b) (by unfold cr at z; omega)
      have := (gA_lt hL ((hu.2 b y).mp (gN_iff.mp ey))).1
      omega
    · omega
  have np : ∀ a, a < 11 → (bit (cs ^^^ (-1)) a = true ↔ ¬ cr (gN u) a) := fun a ha => by
    rw [bit_not (by omega), ← ecr a ha]
    cases bit cs a <;> simp
  refine ok_bind (reach_bits (v := co) (ps := cs ^^^ (-1)) (T := fun j => j = co ∨ Pwy (gN u) co j) (fun a j ha hb => ?_) (by omega) (Or.inl rfl) (fun a j ha hT hp hb => ?_)) (fun r hr => ok_some ⟨⟨u, co, hu, hlst, fun b hb => ?_⟩, fun b hb => ?_⟩)
  · apply Classical.byContradiction
    intro z
    rw [hu.1 a ha j (by omega)] at hb; cases hb
  · have hj : j < 11 := by
      apply Classical.byContradiction
      intro z
      rw [hu.1 a ha j (by omega)] at hb; cases hb
    have e : gN u a j = true := gN_iff.mpr ⟨ha, hj, hb⟩
    refine Or.inr ?_
    by_cases c : a = co
    · rw [c] at e
      intro P p1 _; exact p1 j e
    · have hT := hT.resolve_left c
      have hc := (np a ha).mp (hp.resolve_left c)
      intro P p1 p2
      exact p2 a j (hT P p1 p2) hc e
  · show bit ((r &&& cs) &&& (((1 : Int32) <<< (nI co &&& 31)) ^^^ (-1))) b = true ↔ _
    rw [clr_bit (by omega) b, bit_and, Bool.and_eq_true, Bool.and_eq_true]
    constructor
    · rintro ⟨⟨z1, z2⟩, z3⟩
      have hbc : b ≠ co := by simpa using z3
      exact ⟨(ecr b (by omega)).mp z2, hbc, ((hr.1 b z1).2).resolve_left hbc⟩
    · rintro ⟨z1, z2, z3⟩
      refine ⟨⟨?_, (ecr b (by omega)).mpr z1⟩, by simpa using z2⟩
      refine z3 (fun x => bit r x = true) (fun x ex => ?_) (fun x y px nx ex => ?_)
      · exact hr.2.2 co hr.2.1 (Or.inl rfl) x (gN_iff.mp ex).2.2
      · exact hr.2.2 x px (Or.inr ((np x (gN_iff.mp ex).1).mpr nx)) y (gN_iff.mp ex).2.2
  · have hb : bit ((r &&& cs) &&& (((1 : Int32) <<< (nI co &&& 31)) ^^^ (-1))) b = true := hb
    rw [clr_bit (by omega) b, bit_and, Bool.and_eq_true, Bool.and_eq_true] at hb
    exact hb.1.2
theorem bitv {x : Int32} {k : Nat} (hk : k < 32) : (x >>> (nI k &&& 31)) &&& 1 = if bit x k = true then 1 else 0 := by
  by_cases c : bit x k = true
  · rw [if_pos c]; exact (bit1_iff hk).mpr c
  · rw [if_neg c]
    apply bit_ext
    intro j hj
    rw [bit_and, bit_one_ j hj, bit_zero]
    by_cases j0 : j = 0
    · subst j0
      have : bit x k = false := by simpa using c
      rw [bit_shr0 hk, this]; rfl
    · rw [decide_eq_false j0, Bool.and_false]
theorem corner83_S {P : TM2 → Prop} {K : Int32 → Option TM2} {on ot : Nat → Int32} {v m : Int32} {a b fr to w d ab p nx l t : Nat → Int32} {th s0 : Int32} {k74 : Nat} {S : Nat → Bool} (hS : ∀ i, i < 10 → (S i = true ↔ crn on ot v i = true ∧ (if bit s0 i = true then (1 : Int32) else 0) = nI k74)) {x0 : Nat} (hx0 : x0 < 100) (hP : ∀ i, Nth S x0 i → P (nI i, th, m, a, b, fr, to, w, d, ab, p, nx, l, t)) (hK : rk_ S 10 ≤ x0 → Ok (K (nI (x0 - rk_ S 10))) P) : ∀ (n k x : Nat), k + n = 10 → rk_ S k + x = x0 → Ok (F_cornerM_L83 K on ot v m a b fr to w d ab p nx l t th s0 k74 n k (nI x)) P
  | 0, k, x, hk, hx => by
    have : k = 10 := by omega
    subst this
    rw [F_cornerM_L83]
    have := hK (by omega)
    rw [show x0 - rk_ S 10 = x by omega] at this
    exact this
  | n + 1, k, x, hk, hx => by
    have hle := cf_le (p := at_ on ot v (nI k)) 24 0
    have cd : crn on ot v k = true ↔ 2 < cf (at_ on ot v (nI k)) 24 0 := by unfold crn; rw [decide_eq_true_iff]
    have skip : ¬ S k = true → rk_ S (k + 1) + x = x0 := fun z => by rw [rk_s, ig_f z]; omega
    rw [F_cornerM_L83, deg_eq, Option.bind_some]
    refine ok_if (fun c => ?_) (fun c => ?_)
    · have c : nI (cf (at_ on ot v (nI k)) 24 0) ≤ nI 2 := c
      rw [nLe (by omega) (by decide)] at c
      exact corner83_S hS hx0 hP hK n (k + 1) x (by omega) (skip (fun z => by have := cd.mp ((hS k (by omega)).mp z).1; omega))
    · have c : ¬ nI (cf (at_ on ot v (nI k)) 24 0) ≤ nI 2 := c
      rw [nLe (by omega) (by decide)] at c
      rw [bitv (by omega)]
      refine ok_if (fun c2 => ?_) (fun c2 => ?_)
      · have hSk : S k = true := (hS k (by omega)).mpr ⟨cd.mpr (by omega), c2⟩
        refine ok_if (fun c3 => ok_some (hP k ⟨by omega, hSk, ?_⟩)) (fun c3 => ?_)
        · have c3 : nI x = nI 0 := c3
          rw [nI_eq_iff (by omega) (by decide)] at c3
          omega
        · have hx1 : x ≠ 0 := fun z => c3 (by rw [z]; rfl)
          obtain ⟨y, hy⟩ : ∃ y, x = y + 1 := ⟨x - 1, by omega⟩
          rw [hy, nI_dec]
          exact corner83_S hS hx0 hP hK n (k + 1) y (by omega) (by rw [rk_s, ig_t hSk]; omega)
      · exact corner83_S hS hx0 hP hK n (k + 1) x (by omega) (skip (fun z => c2 ((hS k (by omega)).mp z).2))
def Cans (on ot : Nat → Int32) (s : Int32) (k i : Nat) : Prop := (cf (crn on ot s) 10 0 = 5 ∧ Nth (crn on ot s) k i) ∨ (cf (crn on ot s) 10 0 ≠ 5 ∧ ∃ F, Face on ot s F ∧ ((k < 3 ∧ Nth (fun b => crn on ot s b && !F b) k i) ∨ (3 ≤ k ∧ Nth (fun b => crn on ot s b && F b) (k - 3) i)))
theorem Cans.uq {on ot : Nat → Int32} {s : Int32} {k i j : Nat} (h : Cans on ot s k i) (h' : Cans on ot s k j) : i = j := by
  rcases h with ⟨h1, h2⟩ | ⟨h1, F, hF, h2⟩ <;> rcases h' with ⟨h1', h2'⟩ | ⟨h1', F', hF', h2'⟩
  · exact h2.uq (fun _ _ => rfl) h2'
  · exact absurd h1 h1'
  · exact absurd h1' h1
  · have e := Face.uq hF hF'
    rcases h2 with ⟨c, h2⟩ | ⟨c, h2⟩ <;> rcases h2' with ⟨c', h2'⟩ | ⟨c', h2'⟩
    · exact h2.uq (fun b hb => by show (crn on ot s b && !F b) = (crn on ot s b && !F' b); rw [e b hb]) h2'
    · omega
    · omega
    · exact h2.uq (fun b hb => by show (crn on ot s b && F b) = (crn on ot s b && F' b); rw [e b hb]) h2'
theorem Face.three {on ot : Nat → Int32} {s : Int32} (hL : LU on ot s) (hm : ∀ u, WN u (gA s on ot) → Mn (gN u)) (h5 : cf (crn on ot s) 10 0 ≠ 5) {F : Nat → Bool} (hF : Face on ot s F) : rk_ (fun b => crn on ot s b && !F b) 10 = 3 := by
  obtain ⟨u, co, hu, hl, h⟩ := hF
  have hmn := hm u hu
  have hco := hl.1
  have c10 : ¬ cr (gN u) 10 := fun z => by
    obtain ⟨y, ey⟩ := dg_pos (g := gN u) (a := 10) (by unfold cr at z; omega)
    have := (gA_lt hL ((hu.2 10 y).mp (gN_iff.mp ey))).1
    omega
  have n10 : ¬ crn on ot s 10 = true := fun z => c10 ((crn_cr hL hu (by decide)).mp z)
  have top : ∀ S : Nat → Bool, ¬ S 10 = true → ns S = rk_ S 10 := fun S hS => by
    show rk_ S 10 + ig (S 10) = rk_ S 10
    rw [ig_f hS]; rfl
  rcases Mn.kp (en (gN u)) (gN u) (Nat.le_refl _) hmn with k | k
  · exfalso
    have := k (crn on ot s) (fun b hb => crn_cr hL hu hb)
    rw [top _ n10, ← rk_cf] at this
    exact h5 this
  · have := k co ((crn_cr hL hu (by omega)).mp hl.2.1) (fun b => crn on ot s b && !F b && decide (b < 10)) (fun b hb => ?_)
    · rw [top _ (by simp)] at this
      rw [← this]
      refine su_congr 10 (fun b hb => ?_)
      show ig (crn on ot s b && !F b) = ig (crn on ot s b && !F b && decide (b < 10))
      rw [decide_eq_true hb, Bool.and_true]
    · rw [Bool.and_eq_true, Bool.and_eq_true, decide_eq_true_iff, crn_cr hL hu hb]
      constructor
      · rintro ⟨⟨z1, z2⟩, z3⟩
        refine ⟨z1, fun y => ?_⟩
        have := (h b z3).mpr ⟨z1, y⟩
        rw [this] at z2; cases z2
      · rintro ⟨z1, z2⟩
        have hb10 : b < 10 := by
          by_cases c : b = 10
          · rw [c] at z1; exact absurd z1 c10
          · omega
        refine ⟨⟨z1, ?_⟩, hb10⟩
        cases c : F b with
        | false => rfl
        | true => exact absurd ((h b hb10).mp c).2 z2
def CRN (Z : Int32 → Prop) (lb : Int32) (on ot : Nat → Int32) (p0 : Int32) (code : Int32) (A : Int32 → Prop) : Prop := ∃ s, PT0 Z lb s ∧ ((s = 0 ∧ code = 1) ∨ (s ≠ 0 ∧ (p0 < 0 ∨ ¬ p0 < nI (cf (crn on ot s) 10 0)) ∧ code = 2) ∨ (s ≠ 0 ∧ code = 0 ∧ ∃ k i, p0 = nI k ∧ k < cf (crn on ot s) 10 0 ∧ Cans on ot s k i ∧ A (nI i)))
theorem CRN.uq {Z : Int32 → Prop} {lb : Int32} {on ot : Nat → Int32} {p0 c c' : Int32} {A A' : Int32 → Prop} (h : CRN Z lb on ot p0 c A) (h' : CRN Z lb on ot p0 c' A') : c = c' ∧ (c = 0 → ∃ r, A r ∧ A' r) := by
  obtain ⟨s, p1, q1⟩ := h
  obtain ⟨s', p2, q2⟩ := h'
  have e := PT0_uq p1 p2
  subst e
  have hle := cf_le (p := crn on ot s) 10 0
  have bad : ∀ k, p0 = nI k → k < cf (crn on ot s) 10 0 → ¬ (p0 < 0 ∨ ¬ p0 < nI (cf (crn on ot s) 10 0)) := fun k e hk z => by
    rcases z with z | z
    · rw [e] at z; exact nI_nn (by omega) z
    · rw [e, nLt (by omega) (by omega)] at z; exact z hk
  rcases q1 with ⟨z1, z2⟩ | ⟨z1, z2, z3⟩ | ⟨z1, z2, k, i, z3, z4, z5, z6⟩ <;> rcases q2 with ⟨y1, y2⟩ | ⟨y1, y2, y3⟩ | ⟨y1, y2, k', i', y3, y4, y5, y6⟩
  · rw [z2, y2]; exact ⟨rfl, fun w => absurd w (by decide)⟩
  · exact absurd z1 y1
  · exact absurd z1 y1
  · exact absurd y1 z1
  · rw [z3, y3]; exact ⟨rfl, fun w => absurd w (by decide)⟩
  · exact absurd z2 (bad k' y3 y4)
  · exact absurd y1 z1
  · exact absurd y2 (bad k z3 z4)
  · refine ⟨by rw [z2, y2], fun _ => ?_⟩
    have ek : k = k' := by
      rw [z3, nI_eq_iff (by omega) (by omega)] at y3
      exact y3
    subst ek
    have ei := z5.uq y5
    subst ei
    exact ⟨nI i, z6, y6⟩
