theorem su_comm (f : Nat → Nat → Nat) (n : Nat) : ∀ m, su (fun a => su (fun b => f a b) n) m = su (fun b => su (fun a => f a b) m) n
  | 0 => (su_zero n (fun b _ => rfl)).symm
  | m + 1 => by
    show su (fun a => su (fun b => f a b) n) m + su (fun b => f m b) n = su (fun b => su (fun a => f a b) m + f m b) n
    rw [su_comm f n m, su_add]
def Jl (on ot : Nat → Int32) (v : Int32) (l i j : Nat) : Bool := bit v l && ((decide (on l = nI i) && decide (ot l = nI j)) || (decide (on l = nI j) && decide (ot l = nI i)))
theorem Jl_iff {on ot : Nat → Int32} {v : Int32} {l i j : Nat} : Jl on ot v l i j = true ↔ bit v l = true ∧ ((on l = nI i ∧ ot l = nI j) ∨ (on l = nI j ∧ ot l = nI i)) := by
  unfold Jl
  rw [Bool.and_eq_true, Bool.or_eq_true, Bool.and_eq_true, Bool.and_eq_true, decide_eq_true_iff, decide_eq_true_iff, decide_eq_true_iff, decide_eq_true_iff]
theorem at_iff {on ot : Nat → Int32} {v w : Int32} {l : Nat} : at_ on ot v w l = true ↔ bit v l = true ∧ (on l = w ∨ ot l = w) := by
  unfold at_
  rw [Bool.and_eq_true, Bool.or_eq_true, decide_eq_true_iff, decide_eq_true_iff]
theorem dg_at {on ot u : Nat → Int32} {v : Int32} (hv : LU on ot v) (hu : WN u (gA v on ot)) {i : Nat} (hi : i < 11) : dg (gN u) i = cf (at_ on ot v (nI i)) 24 0 := by
  rw [cf_su]
  have s1 : ∀ j, j < 11 → ig (gN u i j) = su (fun l => ig (Jl on ot v l i j)) 24 := fun j hj => by
    by_cases c : gN u i j = true
    · rw [ig_t c]
      obtain ⟨_, _, l, hl, hb, h⟩ := (hu.2 i j).mp (gN_iff.mp c)
      rw [su_congr (g := fun l' => if l' = l then 1 else 0) 24 (fun l' hl' => ?_), su_one 24 hl]
      by_cases e : l' = l
      · rw [if_pos e, e, ig_t (Jl_iff.mpr ⟨hb, h⟩)]
      · rw [if_neg e, ig_f (fun q => e ?_)]
        obtain ⟨hb', h'⟩ := Jl_iff.mp q
        obtain ⟨a, b, q1, q2, q3, q4⟩ := hv.1 l hl hb
        obtain ⟨a', b', r1, r2, r3, r4⟩ := hv.1 l' hl' hb'
        refine hv.2 l' l hl' hl hb' hb ?_ ?_
        · rw [q3, q4] at h
          rw [r3, r4] at h'
          rw [r3, q3]
          rcases h with ⟨e1, e2⟩ | ⟨e1, e2⟩ <;> rcases h' with ⟨e3, e4⟩ | ⟨e3, e4⟩
          · rw [e1, e3]
          · rw [nI_eq_iff (by omega) (by omega)] at e1 e2 e3 e4; omega
          · rw [nI_eq_iff (by omega) (by omega)] at e1 e2 e3 e4; omega
          · rw [e1, e3]
        · rw [q3, q4] at h
          rw [r3, r4] at h'
          rw [r4, q4]
          rcases h with ⟨e1, e2⟩ | ⟨e1, e2⟩ <;> rcases h' with ⟨e3, e4⟩ | ⟨e3, e4⟩
          · rw [e2, e4]
          · rw [nI_eq_iff (by omega) (by omega)] at e1 e2 e3 e4; omega
          · rw [nI_eq_iff (by omega) (by omega)] at e1 e2 e3 e4; omega
          · rw [e2, e4]
    · rw [ig_f c, su_zero 24 (fun l hl => ig_f (fun q => c ?_))]
      obtain ⟨hb, h⟩ := Jl_iff.mp q
      exact gN_iff.mpr ((hu.2 i j).mpr ⟨hi, hj, l, hl, hb, h⟩)
  have s2 : ∀ l, l < 24 → su (fun j => ig (Jl on ot v l i j)) 11 = ig (at_ on ot v (nI i) l) := fun l hl => by
    by_cases hb : bit v l = true
    · obtain ⟨a, b, q1, q2, q3, q4⟩ := hv.1 l hl hb
      have hJ : ∀ j, j < 11 → (Jl on ot v l i j = true ↔ (a = i ∧ b = j) ∨ (a = j ∧ b = i)) := fun j hj => by
        rw [Jl_iff, q3, q4, nI_eq_iff (by omega) (by omega), nI_eq_iff (by omega) (by omega), nI_eq_iff (by omega) (by omega), nI_eq_iff (by omega) (by omega)]
        exact ⟨fun h => h.2, fun h => ⟨hb, h⟩⟩
      have hA : at_ on ot v (nI i) l = true ↔ (a = i ∨ b = i) := by
        rw [at_iff, q3, q4, nI_eq_iff (by omega) (by omega), nI_eq_iff (by omega) (by omega)]
        exact ⟨fun h => h.2, fun h => ⟨hb, h⟩⟩
      by_cases c1 : a = i
      · rw [ig_t (hA.mpr (Or.inl c1)), su_congr (g := fun j => if j = b then 1 else 0) 11 (fun j hj => ?_), su_one 11 (by omega)]
        by_cases e : j = b
        · rw [if_pos e, ig_t ((hJ j hj).mpr (Or.inl ⟨c1, e.symm⟩))]
        · rw [if_neg e, ig_f (fun q => by rcases (hJ j hj).mp q with z | z <;> omega)]
      · by_cases c2 : b = i
        · rw [ig_t (hA.mpr (Or.inr c2)), su_congr (g := fun j => if j = a then 1 else 0) 11 (fun j hj => ?_), su_one 11 (by omega)]
          by_cases e : j = a
          · rw [if_pos e, ig_t ((hJ j hj).mpr (Or.inr ⟨e.symm, c2⟩))]
          · rw [if_neg e, ig_f (fun q => by rcases (hJ j hj).mp q with z | z <;> omega)]
        · rw [ig_f (fun q => by rcases hA.mp q with z | z; exact c1 z; exact c2 z), su_zero 11 (fun j hj => ig_f (fun q => by rcases (hJ j hj).mp q with z | z; exact c1 z.1; exact c2 z.2))]
    · rw [ig_f (fun q => hb (at_iff.mp q).1), su_zero 11 (fun j hj => ig_f (fun q => hb (Jl_iff.mp q).1))]
  show su (fun j => ig (gN u i j)) 11 = _
  rw [su_congr 11 s1, su_comm, su_congr 24 s2]
def crn (on ot : Nat → Int32) (v : Int32) (i : Nat) : Bool := decide (2 < cf (at_ on ot v (nI i)) 24 0)
theorem corn_S {K : Int32 → Option (Int32 × (Nat → Int32))} {P : Int32 × (Nat → Int32) → Prop} {u : Nat → Int32} (hB : Bd u) {q : Nat → Bool} (hq : ∀ i, i < 10 → (q i = true ↔ 3 ≤ dg (gN u) i)) (hK : ∀ v, (∀ i, bit v i = true ↔ i < 10 ∧ q i = true) → Ok (K v) P) : ∀ (n k : Nat) (v : Int32), k + n = 10 → (∀ i, bit v i = true ↔ i < k ∧ q i = true) → Ok (F_cornersOfG_L9 K u n k v) P
  | 0, k, v, hk, h => by
    have : k = 10 := by omega
    subst this
    rw [F_cornersOfG_L9]; exact hK v h
  | n + 1, k, v, hk, h => by
    rw [F_cornersOfG_L9, degree_eq (by omega), Option.bind_some, dg_bc hB (by omega)]
    have hd := dg_le (gN u) k
    refine ok_if (fun c => corn_S hB hq hK n (k + 1) _ (by omega) (fun i => ?_)) (fun c => corn_S hB hq hK n (k + 1) _ (by omega) (fun i => ?_))
    · have c : nI (dg (gN u) k) < nI 3 := c
      rw [nLt (by omega) (by decide)] at c
      rw [h i]
      constructor
      · rintro ⟨h1, h2⟩; exact ⟨by omega, h2⟩
      · rintro ⟨h1, h2⟩
        refine ⟨?_, h2⟩
        by_cases e : i = k
        · rw [e] at h2
          have := (hq k (by omega)).mp h2
          omega
        · omega
    · have c : ¬ nI (dg (gN u) k) < nI 3 := c
      rw [nLt (by omega) (by decide)] at c
      rw [bit_or, bit_shl (by omega), Bool.or_eq_true, h i, decide_eq_true_iff]
      constructor
      · rintro (⟨h1, h2⟩ | h1)
        · exact ⟨by omega, h2⟩
        · rw [h1]; exact ⟨by omega, (hq k (by omega)).mpr (by omega)⟩
      · rintro ⟨h1, h2⟩
        by_cases e : i = k
        · exact Or.inr e
        · exact Or.inl ⟨by omega, h2⟩
theorem corners_sem {nb lb : Int32} {le mo dx dy mt on ot mx my fr to hi : Nat → Int32} (hv : Inv nb lb le mo dx dy mt on ot mx my fr to hi) {near : Nat → Int32} {v : Int32} (hs : SubB v lb) : Ok (F_cornersOfG le mo near v) (fun R => (∀ i, bit R.1 i = true ↔ i < 10 ∧ crn on ot v i = true) ∧ WN R.2 (gA v on ot)) := by
  refine ok_bind (spin_sem ((LU_of hv).sub hs)) (fun u hu => ?_)
  have hu2 := hu.cg (gA_eq hv hs)
  refine corn_S (q := crn on ot v) hu.1 (fun i hi => ?_) (fun w hw => ok_some ⟨hw, hu2⟩) 10 0 0 rfl (fun i => ?_)
  · rw [dg_at ((LU_ofM hv).sub hs) hu2 (by omega)]
    unfold crn
    rw [decide_eq_true_iff]
    omega
  · rw [bit_zero]
    exact ⟨fun q => absurd q (by decide), fun q => absurd q.1 (Nat.not_lt_zero _)⟩
theorem bc_of {R : Int32} {q : Nat → Bool} (h : ∀ i, bit R i = true ↔ i < 10 ∧ q i = true) : f_bc R = nI (cf q 10 0) := by
  rw [bc_lt (n := 10) (by decide) (fun i hi => by
    cases c : bit R i with
    | false => rfl
    | true => have := ((h i).mp c).1; omega)]
  congr 1
  refine cf_congr 10 0 (fun i _ hi => beq_of ⟨fun c => ((h i).mp c).2, fun c => (h i).mpr ⟨by omega, c⟩⟩)
def WTN (Z : Int32 → Prop) (lb : Int32) (on ot : Nat → Int32) (r : Int32) : Prop := ∃ s, PT0 Z lb s ∧ ((s = 0 ∧ r = 0) ∨ (s ≠ 0 ∧ cf (crn on ot s) 10 0 = 5 ∧ r = 5) ∨ (s ≠ 0 ∧ cf (crn on ot s) 10 0 ≠ 5 ∧ r = 33))
theorem WTN_uq {Z : Int32 → Prop} {lb : Int32} {on ot : Nat → Int32} {a b : Int32} (h1 : WTN Z lb on ot a) (h2 : WTN Z lb on ot b) : a = b := by
  obtain ⟨s, p1, q1⟩ := h1
  obtain ⟨s', p2, q2⟩ := h2
  have e := PT0_uq p1 p2
  subst e
  rcases q1 with ⟨z1, z2⟩ | ⟨z1, z2, z3⟩ | ⟨z1, z2, z3⟩ <;> rcases q2 with ⟨y1, y2⟩ | ⟨y1, y2, y3⟩ | ⟨y1, y2, y3⟩
  · rw [z2, y2]
  · exact absurd z1 y1
  · exact absurd z1 y1
  · exact absurd y1 z1
  · rw [z3, y3]
  · exact absurd z2 y2
  · exact absurd y1 z1
  · exact absurd y2 z2
  · rw [z3, y3]
theorem nI5 {n : Nat} (h : n ≤ 10) : nI n = 5 ↔ n = 5 := nI_eq_iff (b := 5) (by omega) (by decide)
theorem st_witness (zx_nodeBits : Int32) (zx_lineBits : Int32) (zx_lessEnd : Nat → Int32) (zx_moreEnd : Nat → Int32) (zx_web_near : Nat → Int32) (zx_planeTest_backLines : Int32) (zx_planeTest_clash : Int32) (zx_planeTest_depthOf : Nat → Int32) (zx_planeTest_endingAt : Nat → Int32) (zx_planeTest_returns : Nat → Int32) (zx_planeTest_highest : Nat → Int32) (zx_planeTest_alike : Nat → Int32) (zx_planeTest_opposed : Nat → Int32) (zx_palette_there : Int32) (zx_palette_allowed : Int32) (zx_palette_shades : Nat → Int32) (zx_desk_xs : Nat → Int32) (zx_desk_ys : Nat → Int32) (zm_thrown : Int32) (zm_many : Int32) (zm_there : Nat → Int32) (zm_ones : Nat → Int32) (zm_others : Nat → Int32) (zm_xs : Nat → Int32) (zm_ys : Nat → Int32) (zm_a : Nat → Int32) (zm_b : Nat → Int32) (zm_from : Nat → Int32) (zm_to : Nat → Int32) (zm_way : Nat → Int32) (zm_depth : Nat → Int32) (zm_above : Nat → Int32) (zm_pile : Nat → Int32) (zm_next : Nat → Int32) (zm_leader : Nat → Int32) (zm_turned : Nat → Int32) (zm_piece : Nat → Int32) (zm_numbers : Nat → Int32) (zm_row : Nat → Int32) (zb : Nat → Int64) (hv : Inv zx_nodeBits zx_lineBits zx_lessEnd zx_moreEnd zx_desk_xs zx_desk_ys zm_there zm_ones zm_others zm_xs zm_ys zm_from zm_to zx_planeTest_highest) : ∃ Rx, F_witnessG zx_lineBits zx_lessEnd zx_moreEnd zx_web_near zx_planeTest_backLines zx_planeTest_clash zx_planeTest_depthOf zx_planeTest_endingAt zx_planeTest_returns zx_planeTest_highest zx_planeTest_alike zx_planeTest_opposed = some Rx ∧ ∃ Rm, F_witnessM zm_ones zm_others zm_a zm_b zm_from zm_to zm_way zm_depth zm_above zm_pile zm_next zm_leader zm_turned = some Rm ∧ (Rx.1 = Rm.1) ∧ Inv zx_nodeBits zx_lineBits zx_lessEnd zx_moreEnd zx_desk_xs zx_desk_ys zm_there zm_ones zm_others zm_xs zm_ys Rm.2.2.2.2.2.1 Rm.2.2.2.2.2.2.1 Rx.2.2.2.2.2.2.2.1 := by
  refine two_ok (P := fun R => PH R ∧ WTN (fun v => ZZ (gA v zx_lessEnd zx_moreEnd)) zx_lineBits zm_ones zm_others R.1) (Q := fun R => PF R ∧ WTN (fun v => ZZ (gA v zx_lessEnd zx_moreEnd)) zx_lineBits zm_ones zm_others R.1) (ok_bind (forb_sem (LU_of hv) (ZE_of hv) (HI_of hv)) (fun p hp => ok_if (fun c => ok_some ⟨hp.1.1, p.1, hp.2, Or.inl ⟨c, rfl⟩⟩) (fun c => ok_bind (corners_sem hv hp.1.2) (fun q hq => ?_)))) (ok_bind (patNow_sem (LB_of hv) (LU_ofM hv) (ZE_ofM hv) (FT_of hv)) (fun p hp => ok_if (fun c => ok_some ⟨hp.1.2, p.1, hp.2, Or.inl ⟨c, rfl⟩⟩) (fun c => ?_))) (fun a b h1 h2 => ⟨WTN_uq h1.2 h2.2, inv_rep hv h2.1 h1.1⟩)
  · have hc := cf_le (p := crn zm_ones zm_others p.1) 10 0
    rw [bc_of hq.1]
    exact ok_if (fun d => ok_some ⟨hp.1.1, p.1, hp.2, Or.inr (Or.inl ⟨c, (nI5 hc).mp d, rfl⟩)⟩) (fun d => ok_some ⟨hp.1.1, p.1, hp.2, Or.inr (Or.inr ⟨c, fun e => d ((nI5 hc).mpr e), rfl⟩)⟩)
  · have hc := cf_le (p := crn zm_ones zm_others p.1) 10 0
    refine ok_bind (⟨_, cc_eq _ _ _, rfl⟩ : Ok (F_countCornersM zm_ones zm_others p.1) (fun x => x = nI (cf (crn zm_ones zm_others p.1) 10 0))) (fun x hx => ?_)
    subst hx
    exact ok_if (fun d => ok_some ⟨hp.1.2, p.1, hp.2, Or.inr (Or.inl ⟨c, (nI5 hc).mp d, rfl⟩)⟩) (fun d => ok_some ⟨hp.1.2, p.1, hp.2, Or.inr (Or.inr ⟨c, fun e => d ((nI5 hc).mpr e), rfl⟩)⟩)
