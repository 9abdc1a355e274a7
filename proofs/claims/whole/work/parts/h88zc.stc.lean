theorem Nth.cg {S S' : Nat → Bool} (hS : ∀ b, b < 10 → S b = S' b) {k i : Nat} (h : Nth S k i) : Nth S' k i :=
  ⟨h.1, by rw [← hS i h.1]; exact h.2.1, by rw [← h.2.2]; exact (su_congr i (fun b hb => by show ig (S b) = ig (S' b); rw [hS b (by have := h.1; omega)])).symm⟩
theorem rk_cg {S S' : Nat → Bool} (hS : ∀ b, b < 10 → S b = S' b) : rk_ S 10 = rk_ S' 10 := su_congr 10 (fun b hb => by show ig (S b) = ig (S' b); rw [hS b hb])
theorem rk_split (S F : Nat → Bool) : rk_ S 10 = rk_ (fun b => S b && !F b) 10 + rk_ (fun b => S b && F b) 10 := by
  unfold rk_
  rw [← su_add]
  refine su_congr 10 (fun b _ => ?_)
  show ig (S b) = ig (S b && !F b) + ig (S b && F b)
  cases S b <;> cases F b <;> rfl
theorem pat_all {nb lb : Int32} {le mo dx dy mt on ot mx my fr to hi : Nat → Int32} (hv : Inv nb lb le mo dx dy mt on ot mx my fr to hi) {s : Int32} (hs : SubB s lb) (hp : PT0 (fun v => ZZ (gA v le mo)) lb s) (hz : s ≠ 0) (u : Nat → Int32) (hu : WN u (gA s on ot)) : Mn (gN u) := by
  have hnz : ¬ ZZ (gA lb le mo) := fun z => hz (hp.1 z)
  obtain ⟨h1, h2⟩ := PTr.least (Z := fun v => ZZ (gA v le mo)) (fun v v' h z => z.sub (fun i j q => gA_mono h i j q)) 24 0 lb s rfl (hp.2 hnz) hnz (fun l hl => absurd hl (Nat.not_lt_zero _))
  exact pat_Mn ((LU_ofM hv).sub hs) hu (fun z => h1 ((ZE_ofM hv s hs).mp z)) (fun l hl hb => (ZE_ofM hv (wt s l) (fun j hj => wt_sub hs j hj)).mpr (h2 l hl hb))
theorem small_k {p0 : Int32} {n : Nat} (hn : n ≤ 10) (h0 : ¬ p0 < 0) (h1 : p0 < nI n) : ∃ k, p0 = nI k ∧ k < n := by
  obtain ⟨k, hk, e⟩ := lit_in h0 (fun z => by
    rw [Int32.le_iff_toInt_le] at z
    rw [Int32.lt_iff_toInt_lt, nI_toInt (by omega)] at h1
    have : (24 : Int32).toInt = 24 := by decide
    omega)
  refine ⟨k, e, ?_⟩
  rw [e, nLt (by omega) (by omega)] at h1
  exact h1
def XT (Z : Int32 → Prop) (lb : Int32) (on ot : Nat → Int32) (p0 : Int32) (t : Nat) (x : Int32) : Prop := ∃ s, PT0 Z lb s ∧ ((s = 0 ∧ t = 2) ∨ (s ≠ 0 ∧ (p0 < 0 ∨ ¬ p0 < nI (cf (crn on ot s) 10 0)) ∧ t = 1) ∨ (s ≠ 0 ∧ t = 0 ∧ ∃ k i, p0 = nI k ∧ k < cf (crn on ot s) 10 0 ∧ Cans on ot s k i ∧ x = nI i))
theorem cornerT_sem {nb lb : Int32} {le mo dx dy mt on ot mx my fr to hi : Nat → Int32} (hv : Inv nb lb le mo dx dy mt on ot mx my fr to hi) {near : Nat → Int32} {bl cl : Int32} {dep en_ re al op : Nat → Int32} {p0 : Int32} : Ok (F_cornerT lb le mo near bl cl dep en_ re hi al op p0) (fun R => PH R.2 ∧ XT (fun v => ZZ (gA v le mo)) lb on ot p0 R.1 R.2.1) := by
  refine ok_bind (forb_sem (LU_of hv) (ZE_of hv) (HI_of hv)) (fun p hp => ok_if (fun c => ok_some ⟨hp.1.1, p.1, hp.2, Or.inl ⟨c, rfl⟩⟩) (fun c => ok_bind (corners_sem hv hp.1.2) (fun q hq => ?_)))
  have hle := cf_le (p := crn on ot p.1) 10 0
  have hbits : ∀ b, b < 10 → bit q.1 b = crn on ot p.1 b := fun b hb => beq_of ⟨fun z => ((hq.1 b).mp z).2, fun z => (hq.1 b).mpr ⟨hb, z⟩⟩
  have hrk : rk_ (bit q.1) 10 = cf (crn on ot p.1) 10 0 := by rw [rk_cf]; exact rk_cg hbits
  rw [bc_of hq.1]
  refine ok_if (fun c1 => ok_some ⟨hp.1.1, p.1, hp.2, Or.inr (Or.inl ⟨c, Or.inl c1, rfl⟩)⟩) (fun c1 => ok_if (fun c2 => ?_) (fun c2 => ok_some ⟨hp.1.1, p.1, hp.2, Or.inr (Or.inl ⟨c, Or.inr c2, rfl⟩)⟩))
  obtain ⟨k, e, hk⟩ := small_k hle c1 c2
  subst e
  have fin : ∀ (x : Int32) (i : Nat), x = nI i → Cans on ot p.1 k i → XT (fun v => ZZ (gA v le mo)) lb on ot (nI k) 0 x := fun x i e hc => ⟨p.1, hp.2, Or.inr (Or.inr ⟨c, rfl, k, i, rfl, hk, hc, e⟩)⟩
  refine ok_if (fun c5 => ?_) (fun c5 => ?_)
  · rw [nI5 hle] at c5
    refine ok_bind (nth_sem (v := q.1) (k := k) (by omega)) (fun r hr => ?_)
    obtain ⟨i, e, hi⟩ := hr
    exact ok_some ⟨hp.1.1, fin r i e (Or.inl ⟨c5, hi.cg hbits⟩)⟩
  · rw [nI5 hle] at c5
    refine ok_bind (facing_sem hv hp.1.2 hq.1 (by omega)) (fun r hr => ?_)
    obtain ⟨hF, hsub⟩ := hr
    have h3 := Face.three ((LU_ofM hv).sub hp.1.2) (pat_all hv hp.1.2 hp.2 c) c5 hF
    have hsp := rk_split (crn on ot p.1) (bit r.1)
    rw [← rk_cf] at hsp
    refine ok_if (fun c3 => ?_) (fun c3 => ?_)
    · have c3 : nI 3 ≤ nI k := c3
      rw [nLe (by decide) (by omega)] at c3
      obtain ⟨j, hj⟩ : ∃ j, k = j + 3 := ⟨k - 3, by omega⟩
      have hb2 : ∀ b, b < 10 → bit r.1 b = (fun b => crn on ot p.1 b && bit r.1 b) b := fun b hb => beq_of ⟨fun z => by
        show (crn on ot p.1 b && bit r.1 b) = true
        rw [Bool.and_eq_true]
        exact ⟨((hq.1 b).mp (hsub b z)).2, z⟩, fun z => by
        have z : (crn on ot p.1 b && bit r.1 b) = true := z
        rw [Bool.and_eq_true] at z; exact z.2⟩
      have hrf := rk_cg hb2
      have esub : nI k - 3 = nI j := by
        rw [hj, ← nAdd]
        exact Int32.add_sub_cancel _ _
      rw [esub]
      refine ok_bind (nth_sem (v := r.1) (k := j) (by omega)) (fun x hx => ?_)
      obtain ⟨i, e, hi⟩ := hx
      exact ok_some ⟨hp.1.1, fin x i e (Or.inr ⟨c5, bit r.1, hF, Or.inr ⟨c3, by rw [show k - 3 = j by omega]; exact hi.cg hb2⟩⟩)⟩
    · have c3 : ¬ nI 3 ≤ nI k := c3
      rw [nLe (by decide) (by omega)] at c3
      have hb2 : ∀ b, b < 10 → bit (q.1 &&& (r.1 ^^^ (-1))) b = (fun b => crn on ot p.1 b && !bit r.1 b) b := fun b hb => by
        show bit (q.1 &&& (r.1 ^^^ (-1))) b = (crn on ot p.1 b && !bit r.1 b)
        rw [bit_and, bit_not (by omega), hbits b hb]
      have hrf := rk_cg hb2
      refine ok_bind (nth_sem (v := q.1 &&& (r.1 ^^^ (-1))) (k := k) (by omega)) (fun x hx => ?_)
      obtain ⟨i, e, hi⟩ := hx
      exact ok_some ⟨hp.1.1, fin x i e (Or.inr ⟨c5, bit r.1, hF, Or.inl ⟨by omega, hi.cg hb2⟩⟩)⟩
theorem cornerW_sem {nb lb : Int32} {le mo dx dy mt on ot mx my fr to hi : Nat → Int32} (hv : Inv nb lb le mo dx dy mt on ot mx my fr to hi) {near : Nat → Int32} {bl cl : Int32} {dep en_ re al op : Nat → Int32} {p0 : Int32} {b : Nat → Int64} : Ok (F_cornerW lb le mo near bl cl dep en_ re hi al op b p0) (fun R => HI R.2.2.2.2.2.2.2.1 ∧ CRN (fun v => ZZ (gA v le mo)) lb on ot p0 R.1 (fun r => R.2.2.2.2.2.2.2.2.2.2 0 = Int32.toInt64 r)) := by
  refine ok_bind (cornerT_sem hv) (fun p hp => ?_)
  obtain ⟨hh, s, h1, h2⟩ := hp
  refine ok_if (fun h0 => ok_some ⟨hh, s, h1, ?_⟩) (fun h0 => ok_if (fun h2' => ok_some ⟨hh, s, h1, ?_⟩) (fun h2' => ok_if (fun h3 => ok_some ⟨hh, s, h1, ?_⟩) (fun h3 => ?_)))
  · rcases h2 with ⟨_, z⟩ | ⟨_, _, z⟩ | ⟨z1, _, k, i, z2, z3, z4, z5⟩
    · rw [h0] at z; cases z
    · rw [h0] at z; cases z
    · refine Or.inr (Or.inr ⟨z1, rfl, k, i, z2, z3, z4, ?_⟩)
      show Int32.toInt64 p.2.1 = Int32.toInt64 (nI i)
      rw [z5]
  · rcases h2 with ⟨z1, z⟩ | ⟨_, _, z⟩ | ⟨_, z, _⟩
    · exact Or.inl ⟨z1, rfl⟩
    · rw [h2'] at z; cases z
    · exact absurd z h0
  · rcases h2 with ⟨_, z⟩ | ⟨z1, z2, _⟩ | ⟨_, z, _⟩
    · exact absurd z h2'
    · exact Or.inr (Or.inl ⟨z1, z2, rfl⟩)
    · exact absurd z h0
  · rcases h2 with ⟨_, z⟩ | ⟨_, _, z⟩ | ⟨_, z, _⟩
    · exact absurd z h2'
    · exact absurd z h3
    · exact absurd z h0
theorem cornerM_sem {nb lb : Int32} {le mo dx dy mt on ot mx my fr to hi : Nat → Int32} (hv : Inv nb lb le mo dx dy mt on ot mx my fr to hi) {ma mb way dep abo pile nxt ld tu : Nat → Int32} {p0 : Int32} : Ok (F_cornerM on ot ma mb fr to way dep abo pile nxt ld tu p0) (fun R => PF R ∧ CRN (fun v => ZZ (gA v le mo)) lb on ot p0 R.2.1 (fun r => R.1 = r)) := by
  unfold F_cornerM
  refine ok_bind (patNow_sem (LB_of hv) (LU_ofM hv) (ZE_ofM hv) (FT_of hv)) (fun p hp => ?_)
  have hle := cf_le (p := crn on ot p.1) 10 0
  by_cases hz : p.1 = 0
  · rw [if_pos hz, Option.bind_some, if_pos hz]
    dsimp only
    rw [ref_1, Option.bind_some]
    exact ok_some ⟨hp.1.2, p.1, hp.2, Or.inl ⟨hz, rfl⟩⟩
  · rw [if_neg hz, cc_eq, Option.bind_some, Option.bind_some, if_neg hz]
    show Ok ((F_refusedM 0 (if p0 < 0 then (1 : Int32) else (if p0 < nI (cf (crn on ot p.1) 10 0) then 0 else 1)) 0).bind _) _
    by_cases hk : p0 < 0
    · rw [if_pos hk, ref_2, Option.bind_some]
      exact ok_some ⟨hp.1.2, p.1, hp.2, Or.inr (Or.inl ⟨hz, Or.inl hk, rfl⟩)⟩
    · rw [if_neg hk]
      by_cases hk2 : p0 < nI (cf (crn on ot p.1) 10 0)
      · rw [if_pos hk2, ref_0, Option.bind_some]
        refine ok_if (fun _ => ?_) (fun z => absurd rfl z)
        obtain ⟨k, e, hkn⟩ := small_k hle hk hk2
        subst e
        have hL := (LU_ofM hv).sub hp.1.1
        have hLS := LS_of hv p.1 hp.1.1
        refine ok_bind (Q := fun o => (cf (crn on ot p.1) 10 0 = 5 ∧ o = 0) ∨ (cf (crn on ot p.1) 10 0 ≠ 5 ∧ Face on ot p.1 (bit o))) (ok_if (fun c5 => ok_some (Or.inl ⟨(nI5 hle).mp c5, rfl⟩)) (fun c5 => ?_)) (fun o ho => ?_)
        · have c5 : ¬ nI (cf (crn on ot p.1) 10 0) = 5 := c5
          rw [nI5 hle] at c5
          obtain ⟨c, _, hc1, hc2⟩ := cf_pos (p := crn on ot p.1) 10 0 (by omega)
          refine ok_bind (opp2_S hLS (c := c) (by omega) hc2 64 0 (Nat.zero_le _) (by omega) (fun j hj => absurd hj (Nat.not_lt_zero _))) (fun r hr => ok_some (Or.inr ⟨c5, ?_⟩))
          obtain ⟨co, hl, hb⟩ := hr
          obtain ⟨u, _, hu⟩ := spin_sem (near := fun _ => 0) hL
          have hmn := pat_all hv hp.1.1 hp.2 hz u hu
          exact ⟨u, co, hu, hl, fun b hb10 => (hb b hb10).trans (opp_face hLS hL hu hmn hl.1 ((crn_cr hL hu (by have := hl.1; omega)).mp hl.2.1) hb10)⟩
        · have hsp := rk_split (crn on ot p.1) (bit o)
          rw [← rk_cf] at hsp
          have fin : ∀ i, Cans on ot p.1 k i → CRN (fun v => ZZ (gA v le mo)) lb on ot (nI k) 0 (fun r => nI i = r) := fun i hc => ⟨p.1, hp.2, Or.inr (Or.inr ⟨hz, rfl, k, i, rfl, hkn, hc, rfl⟩)⟩
          have hfive : cf (crn on ot p.1) 10 0 = 5 → ∀ b, (crn on ot p.1 b && !bit o b) = crn on ot p.1 b := fun h5 b => by
            rcases ho with ⟨_, e⟩ | ⟨z, _⟩
            · rw [e, bit_zero]; simp
            · exact absurd h5 z
          have hthree : cf (crn on ot p.1) 10 0 ≠ 5 → Face on ot p.1 (bit o) ∧ rk_ (fun b => crn on ot p.1 b && !bit o b) 10 = 3 := fun h5 => by
            rcases ho with ⟨z, _⟩ | ⟨_, hF⟩
            · exact absurd z h5
            · exact ⟨hF, Face.three hL (pat_all hv hp.1.1 hp.2 hz) h5 hF⟩
          have S0 : ∀ i, i < 10 → ((crn on ot p.1 i && !bit o i) = true ↔ crn on ot p.1 i = true ∧ (if bit o i = true then (1 : Int32) else 0) = nI 0) := fun i _ => by
            rw [Bool.and_eq_true]
            cases bit o i
            · exact ⟨fun z => ⟨z.1, rfl⟩, fun z => ⟨z.1, rfl⟩⟩
            · exact ⟨fun z => absurd z.2 (by decide), fun z => absurd z.2 (by decide)⟩
          have S1 : ∀ i, i < 10 → ((crn on ot p.1 i && bit o i) = true ↔ crn on ot p.1 i = true ∧ (if bit o i = true then (1 : Int32) else 0) = nI 1) := fun i _ => by
            rw [Bool.and_eq_true]
            cases bit o i
            · exact ⟨fun z => absurd z.2 (by decide), fun z => absurd z.2 (by decide)⟩
            · exact ⟨fun z => ⟨z.1, rfl⟩, fun z => ⟨z.1, rfl⟩⟩
          have P0 : ∀ i, Nth (fun b => crn on ot p.1 b && !bit o b) k i → Cans on ot p.1 k i := fun i hn => by
            by_cases h5 : cf (crn on ot p.1) 10 0 = 5
            · exact Or.inl ⟨h5, hn.cg (fun b _ => hfive h5 b)⟩
            · obtain ⟨hF, h3⟩ := hthree h5
              have := rk_lt (S := fun b => crn on ot p.1 b && !bit o b) hn.1 hn.2.1
              have hk3 : k < 3 := by rw [← h3, ← hn.2.2]; exact this
              exact Or.inr ⟨h5, bit o, hF, Or.inl ⟨hk3, hn⟩⟩
          have far : rk_ (fun b => crn on ot p.1 b && !bit o b) 10 ≤ k → (cf (crn on ot p.1) 10 0 ≠ 5 ∧ Face on ot p.1 (bit o)) ∧ rk_ (fun b => crn on ot p.1 b && !bit o b) 10 = 3 := fun hr => by
            have h5 : cf (crn on ot p.1) 10 0 ≠ 5 := fun h5 => by
              have e : rk_ (fun b => crn on ot p.1 b && !bit o b) 10 = rk_ (crn on ot p.1) 10 := rk_cg (fun b _ => hfive h5 b)
              rw [e, ← rk_cf] at hr
              omega
            exact ⟨⟨h5, (hthree h5).1⟩, (hthree h5).2⟩
          rw [F_cornerM_L74]
          refine corner83_S (S := fun b => crn on ot p.1 b && !bit o b) S0 (x0 := k) (by omega) (fun i hn => ⟨hp.1.2, fin i (P0 i hn)⟩) (fun hr => ?_) 10 0 k rfl (by show 0 + k = k; omega)
          obtain ⟨⟨h5, hF⟩, h3⟩ := far hr
          rw [h3] at hr hsp ⊢
          rw [F_cornerM_L74]
          exact corner83_S (S := fun b => crn on ot p.1 b && bit o b) S1 (x0 := k - 3) (by omega) (fun i hn => ⟨hp.1.2, fin i (Or.inr ⟨h5, bit o, hF, Or.inr ⟨hr, hn⟩⟩)⟩) (fun hr2 => by omega) 10 0 (k - 3) rfl (by show 0 + (k - 3) = k - 3; omega)
      · rw [if_neg hk2, ref_2, Option.bind_some]
        exact ok_some ⟨hp.1.2, p.1, hp.2, Or.inr (Or.inl ⟨hz, Or.inr hk2, rfl⟩)⟩
theorem st_corner (zx_nodeBits : Int32) (zx_lineBits : Int32) (zx_lessEnd : Nat → Int32) (zx_moreEnd : Nat → Int32) (zx_web_near : Nat → Int32) (zx_planeTest_backLines : Int32) (zx_planeTest_clash : Int32) (zx_planeTest_depthOf : Nat → Int32) (zx_planeTest_endingAt : Nat → Int32) (zx_planeTest_returns : Nat → Int32) (zx_planeTest_highest : Nat → Int32) (zx_planeTest_alike : Nat → Int32) (zx_planeTest_opposed : Nat → Int32) (zx_palette_there : Int32) (zx_palette_allowed : Int32) (zx_palette_shades : Nat → Int32) (zx_desk_xs : Nat → Int32) (zx_desk_ys : Nat → Int32) (zm_thrown : Int32) (zm_many : Int32) (zm_there : Nat → Int32) (zm_ones : Nat → Int32) (zm_others : Nat → Int32) (zm_xs : Nat → Int32) (zm_ys : Nat → Int32) (zm_a : Nat → Int32) (zm_b : Nat → Int32) (zm_from : Nat → Int32) (zm_to : Nat → Int32) (zm_way : Nat → Int32) (zm_depth : Nat → Int32) (zm_above : Nat → Int32) (zm_pile : Nat → Int32) (zm_next : Nat → Int32) (zm_leader : Nat → Int32) (zm_turned : Nat → Int32) (zm_piece : Nat → Int32) (zm_numbers : Nat → Int32) (zm_row : Nat → Int32) (zb : Nat → Int64) (p0 : Int32) (hv : Inv zx_nodeBits zx_lineBits zx_lessEnd zx_moreEnd zx_desk_xs zx_desk_ys zm_there zm_ones zm_others zm_xs zm_ys zm_from zm_to zx_planeTest_highest) : ∃ Rx, F_cornerW zx_lineBits zx_lessEnd zx_moreEnd zx_web_near zx_planeTest_backLines zx_planeTest_clash zx_planeTest_depthOf zx_planeTest_endingAt zx_planeTest_returns zx_planeTest_highest zx_planeTest_alike zx_planeTest_opposed zb p0 = some Rx ∧ ∃ Rm, F_cornerM zm_ones zm_others zm_a zm_b zm_from zm_to zm_way zm_depth zm_above zm_pile zm_next zm_leader zm_turned p0 = some Rm ∧ (Rm.2.1 = Rx.1) ∧ (Rx.1 = 0 → Rx.2.2.2.2.2.2.2.2.2.2 0 = Int32.toInt64 Rm.1) ∧ Inv zx_nodeBits zx_lineBits zx_lessEnd zx_moreEnd zx_desk_xs zx_desk_ys zm_there zm_ones zm_others zm_xs zm_ys Rm.2.2.2.2.2.1 Rm.2.2.2.2.2.2.1 Rx.2.2.2.2.2.2.2.1 := by
  exact two_ok (cornerW_sem hv) (cornerM_sem hv) (fun a b h1 h2 => ⟨(h1.2.uq h2.2).1.symm, fun z => by
    obtain ⟨r, r1, r2⟩ := (h1.2.uq h2.2).2 z
    rw [r1, r2], inv_rep hv h2.1 h1.1⟩)
