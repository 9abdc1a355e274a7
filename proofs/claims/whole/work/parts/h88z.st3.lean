def BHd (g : Nat → Nat → Bool) (p w u : Nat) : Prop := dg g u ≠ 2 ∧ ∃ I : Nat → Prop, (I w ∨ w = u) ∧ (∀ x, I x → dg g x = 2 ∧ ∀ y, g x y = true → I y ∨ y = p ∨ y = u) ∧ ∀ Q : Nat → Prop, Q w → (∀ a b, Q a → dg g a = 2 → g a b = true → Q b) → Q u
theorem at_edge {on ot u0 : Nat → Int32} {v : Int32} (hv : LSet on ot v) (hu : WN u0 (gA v on ot)) {l w p : Nat} (hw : w < 10) (hp : p < 10) (hwp : w ≠ p) (h1 : at_ on ot v (nI w) l = true) (h2 : at_ on ot v (nI p) l = true) : gN u0 w p = true := by
  obtain ⟨hl, hb⟩ := at_lt hv h1
  obtain ⟨x, _, hxw, e, _, ho⟩ := other_end hv hw h1
  have hpx : p = x := (ho p hp h2).resolve_left (Ne.symm hwp)
  refine gN_iff.mpr ((hu.2 w p).mpr ⟨by omega, by omega, l, hl, hb, ?_⟩)
  rw [hpx]
  by_cases c : on l = nI w
  · rw [if_pos c] at e; exact Or.inl ⟨c, e⟩
  · rw [if_neg c] at e
    exact Or.inr ⟨e, (at_iff.mp h1).2.resolve_left c⟩
theorem edge_at {on ot u0 : Nat → Int32} {v : Int32} (hL : LU on ot v) (hu : WN u0 (gA v on ot)) {w y : Nat} (e : gN u0 w y = true) : (w < 10 ∧ y < 10 ∧ w ≠ y) ∧ ∃ k, k < 24 ∧ at_ on ot v (nI w) k = true ∧ at_ on ot v (nI y) k = true := by
  have hg := (hu.2 w y).mp (gN_iff.mp e)
  refine ⟨gA_lt hL hg, ?_⟩
  obtain ⟨_, _, l, hl, hb, hj⟩ := hg
  refine ⟨l, hl, at_iff.mpr ⟨hb, ?_⟩, at_iff.mpr ⟨hb, ?_⟩⟩
  · rcases hj with ⟨k1, k2⟩ | ⟨k1, k2⟩
    · exact Or.inl k1
    · exact Or.inr k2
  · rcases hj with ⟨k1, k2⟩ | ⟨k1, k2⟩
    · exact Or.inr k2
    · exact Or.inl k1
theorem behind33_S {on ot u0 : Nat → Int32} {v : Int32} (hv : LSet on ot v) (hL : LU on ot v) (hu : WN u0 (gA v on ot)) : ∀ (f l w p : Nat), w < 10 → p < 10 → w ≠ p → at_ on ot v (nI w) l = true → at_ on ot v (nI p) l = true → Pc (F_cornerBehindM_L33 (fun _ y => some y) on ot v f (nI l) (nI w)) (fun r => ∃ u, u < 10 ∧ r = nI u ∧ BHd (gN u0) p w u)
  | 0, l, w, p, _, _, _, _, _ => fun r e => by rw [F_cornerBehindM_L33] at e; cases e
  | f + 1, l, w, p, hw, hp, hwp, hlw, hlp => by
    have hl24 := (at_lt hv hlw).1
    have hle := cf_le (p := at_ on ot v (nI w)) 24 0
    have hdg := dg_at hL hu (i := w) (by omega)
    rw [F_cornerBehindM_L33, deg_eq, Option.bind_some]
    refine pc_if (fun hd => ?_) (fun hd => pc_some ⟨w, hw, rfl, fun z => hd ?_, fun _ => False, Or.inr rfl, fun x z => z.elim, fun Q q _ => q⟩)
    · have hd : nI (cf (at_ on ot v (nI w)) 24 0) = nI 2 := hd
      rw [nI_eq_iff (by omega) (by decide)] at hd
      obtain ⟨y, e, hy⟩ := behind50_L (K := fun v6_50 => (if inb v6_50 24 = true then (if (on (Int32.toNatClampNeg v6_50)) = (nI w) then (F_cornerBehindM_L33 (fun _ y => some y) on ot v f v6_50 (ot (Int32.toNatClampNeg v6_50))) else (F_cornerBehindM_L33 (fun _ y => some y) on ot v f v6_50 (on (Int32.toNatClampNeg v6_50)))) else none)) (on := on) (ot := ot) (v := v) (li := nI l) (w := nI w) 24 0 (-1) rfl
      rw [e]
      refine pc_th (fun hin => ?_)
      rcases hy with ⟨e1, _⟩ | ⟨m, _, hm, e1, hml, hmw⟩
      · rw [e1] at hin
        obtain ⟨i, hi, q⟩ := inb_cases (by decide) hin
        exact absurd q.symm (nI_nm1 (by omega))
      · subst e1
        rw [nI_clamp (by omega)]
        have hml : m ≠ l := fun z => hml (by rw [z])
        obtain ⟨u', hu', huw, eu, hum, huo⟩ := other_end hv hw hmw
        have ih := behind33_S hv hL hu f m u' w hu' hw huw hum hmw
        have ewu := at_edge hv hu hw hu' (Ne.symm huw) hmw hum
        have build : ∀ u, BHd (gN u0) w u' u → BHd (gN u0) p w u := fun u hB => by
          obtain ⟨d, I, i1, i2, i3⟩ := hB
          refine ⟨d, fun x => x = w ∨ I x, Or.inl (Or.inl rfl), fun x hx => ?_, fun Q q st => i3 Q (st w u' q (by rw [hdg]; exact hd) ewu) st⟩
          rcases hx with hx | hx
          · subst hx
            refine ⟨by rw [hdg]; exact hd, fun y ey => ?_⟩
            obtain ⟨⟨_, hy10, hxy⟩, k, hk, k1, k2⟩ := edge_at hL hu ey
            rcases two_only hd hl24 hm hlw hmw (Ne.symm hml) hk k1 with z | z
            · rw [z] at k2
              obtain ⟨q, _, _, _, _, qo⟩ := other_end hv hw hlw
              have a1 := (qo y hy10 k2).resolve_left (Ne.symm hxy)
              have a2 := (qo p hp hlp).resolve_left (Ne.symm hwp)
              exact Or.inr (Or.inl (a1.trans a2.symm))
            · rw [z] at k2
              have a1 := (huo y hy10 k2).resolve_left (Ne.symm hxy)
              rw [a1]
              rcases i1 with i1 | i1
              · exact Or.inl (Or.inr i1)
              · exact Or.inr (Or.inr i1)
          · obtain ⟨j1, j2⟩ := i2 x hx
            refine ⟨j1, fun y ey => ?_⟩
            rcases j2 y ey with z | z | z
            · exact Or.inl (Or.inr z)
            · exact Or.inl (Or.inl z)
            · exact Or.inr (Or.inr z)
        refine pc_if (fun c => ?_) (fun c => ?_)
        · rw [if_pos c] at eu; rw [eu]
          intro r er
          obtain ⟨u, q1, q2, q3⟩ := ih r er
          exact ⟨u, q1, q2, build u q3⟩
        · rw [if_neg c] at eu; rw [eu]
          intro r er
          obtain ⟨u, q1, q2, q3⟩ := ih r er
          exact ⟨u, q1, q2, build u q3⟩
    · rw [hdg] at z; rw [z]; rfl
def EB (on ot : Nat → Int32) (v : Int32) (co l b : Nat) : Prop := at_ on ot v (nI co) l = true ∧ F_cornerBehindM on ot v (nI co) (nI l) = some (nI b)
theorem EB.run {on ot u0 : Nat → Int32} {v : Int32} (hv : LSet on ot v) (hL : LU on ot v) (hu : WN u0 (gA v on ot)) {co : Nat} (hco : co < 10) (hc3 : cf (at_ on ot v (nI co)) 24 0 ≠ 2) {l : Nat} (hl : at_ on ot v (nI co) l = true) : ∃ w u, w < 10 ∧ w ≠ co ∧ at_ on ot v (nI w) l = true ∧ u < 10 ∧ EB on ot v co l u ∧ BHd (gN u0) co w u := by
  have hl24 := (at_lt hv hl).1
  obtain ⟨r, er, _⟩ := behind_tot hv hco hc3 hl
  obtain ⟨w, hw, hwc, ew, hwl, _⟩ := other_end hv hco hl
  have er2 := er
  unfold F_cornerBehindM at er2
  rw [if_pos (inb_nI hl24 (by decide)), nI_clamp (by omega)] at er2
  have er3 : F_cornerBehindM_L33 (fun _ y => some y) on ot v 64 (nI l) (if on l = nI co then ot l else on l) = some r := er2
  rw [ew] at er3
  obtain ⟨u, q1, q2, q3⟩ := behind33_S hv hL hu 64 l w co hw hco hwc hwl hl r er3
  rw [q2] at er
  exact ⟨w, u, hw, hwc, hwl, q1, ⟨hl, er⟩, q3⟩
theorem EB.uq {on ot : Nat → Int32} {v : Int32} {co l b b' : Nat} (hb : b < 10) (hb' : b' < 10) (h : EB on ot v co l b) (h' : EB on ot v co l b') : b = b' := by
  have e := h.2.symm.trans h'.2
  exact (nI_eq_iff (by omega) (by omega)).mp (Option.some.inj e)
theorem opp23_S {on ot : Nat → Int32} {v : Int32} (hv : LSet on ot v) {co : Nat} (hco : co < 10) (hc3 : cf (at_ on ot v (nI co)) 24 0 ≠ 2) : ∀ (n k : Nat) (x : Int32), k + n = 24 → Ok (F_oppositeM_L23 (fun r => some r) on ot v (nI co) n k x) (fun r => ∀ b, b < 10 → (bit r b = true ↔ bit x b = true ∨ ∃ l, k ≤ l ∧ l < 24 ∧ EB on ot v co l b))
  | 0, k, x, hk => by
    rw [F_oppositeM_L23]
    exact ok_some (fun b _ => ⟨Or.inl, fun z => z.elim id (fun ⟨l, h1, h2, _⟩ => by omega)⟩)
  | n + 1, k, x, h => by
    rw [F_oppositeM_L23]
    refine ok_bind (Q := fun y => ∀ b, b < 10 → (bit y b = true ↔ bit x b = true ∨ EB on ot v co k b)) ?_ (fun y hy => ok_mono (opp23_S hv hco hc3 n (k + 1) y (by omega)) (fun r hr b hb => ?_))
    · have no : ¬ at_ on ot v (nI co) k = true → ∀ b, b < 10 → (bit x b = true ↔ bit x b = true ∨ EB on ot v co k b) := fun hn b _ => ⟨Or.inl, fun z => z.elim id (fun y => absurd y.1 hn)⟩
      have yes : at_ on ot v (nI co) k = true → Ok ((F_cornerBehindM on ot v (nI co) (nI k)).bind (fun p_69 => (some (x ||| (((1 : Int32)) <<< (p_69 &&& 31)))))) (fun y => ∀ b, b < 10 → (bit y b = true ↔ bit x b = true ∨ EB on ot v co k b)) := fun hat => by
        obtain ⟨r, er, u, hu, e⟩ := behind_tot hv hco hc3 hat
        subst e
        rw [er, Option.bind_some]
        refine ok_some (fun b hb => ?_)
        rw [bit_or, bit_shl (by omega), Bool.or_eq_true, decide_eq_true_iff]
        constructor
        · rintro (z | z)
          · exact Or.inl z
          · rw [z]; exact Or.inr ⟨hat, er⟩
        · rintro (z | z)
          · exact Or.inl z
          · exact Or.inr (EB.uq hb hu z ⟨hat, er⟩)
      refine ok_if (fun hb => ?_) (fun hb => ok_some (no (fun z => hb ((bit1_iff (by omega)).mpr (at_iff.mp z).1))))
      have hb : bit v k = true := (bit1_iff (by omega)).mp hb
      refine ok_if (fun h1 => yes (at_iff.mpr ⟨hb, Or.inl h1⟩)) (fun h1 => ok_if (fun h2 => yes (at_iff.mpr ⟨hb, Or.inr h2⟩)) (fun h2 => ok_some (no (fun z => (at_iff.mp z).2.elim h1 h2))))
    · rw [hr b hb, hy b hb]
      constructor
      · rintro ((z | z) | ⟨l, z1, z2, z3⟩)
        · exact Or.inl z
        · exact Or.inr ⟨k, Nat.le_refl _, by omega, z⟩
        · exact Or.inr ⟨l, by omega, z2, z3⟩
      · rintro (z | ⟨l, z1, z2, z3⟩)
        · exact Or.inl (Or.inl z)
        · by_cases c : l = k
          · rw [c] at z3; exact Or.inl (Or.inr z3)
          · exact Or.inr ⟨l, by omega, z2, z3⟩
def Lst (S : Nat → Bool) (co : Nat) : Prop := co < 10 ∧ S co = true ∧ ∀ i, i < co → ¬ S i = true
theorem opp2_S {on ot : Nat → Int32} {v : Int32} (hv : LSet on ot v) {c : Nat} (hc : c < 10) (hcc : crn on ot v c = true) : ∀ (f i : Nat), i ≤ c → c < i + f → (∀ j, j < i → ¬ crn on ot v j = true) → Ok (F_oppositeM_L2 (fun v2_2 => (F_oppositeM_L23 (fun v3_23 => some (v3_23)) on ot v v2_2 24 0 ((0 : Int32)))) on ot v f (nI i)) (fun r => ∃ co, Lst (crn on ot v) co ∧ ∀ b, b < 10 → (bit r b = true ↔ ∃ l, l < 24 ∧ EB on ot v co l b))
  | 0, i, h1, h2, _ => by omega
  | f + 1, i, h1, h2, hj => by
    have hle := cf_le (p := at_ on ot v (nI i)) 24 0
    have cd : ∀ j, crn on ot v j = true ↔ 2 < cf (at_ on ot v (nI j)) 24 0 := fun j => by unfold crn; rw [decide_eq_true_iff]
    rw [F_oppositeM_L2, deg_eq, Option.bind_some]
    refine ok_if (fun h => ?_) (fun h => ?_)
    · have h : nI 3 ≤ nI (cf (at_ on ot v (nI i)) 24 0) := h
      rw [nLe (by decide) (by omega)] at h
      refine ok_mono (opp23_S hv (co := i) (by omega) (by omega) 24 0 0 rfl) (fun r hr => ⟨i, ⟨by omega, (cd i).mpr (by omega), hj⟩, fun b hb => ?_⟩)
      rw [hr b hb, bit_zero]
      constructor
      · rintro (z | ⟨l, _, z2, z3⟩)
        · exact absurd z (by decide)
        · exact ⟨l, z2, z3⟩
      · rintro ⟨l, z2, z3⟩
        exact Or.inr ⟨l, Nat.zero_le _, z2, z3⟩
    · have h : ¬ nI 3 ≤ nI (cf (at_ on ot v (nI i)) 24 0) := h
      rw [nLe (by decide) (by omega)] at h
      have hic : i ≠ c := fun e => by rw [← e, cd i] at hcc; omega
      rw [nI_add1]
      refine opp2_S hv hc hcc f (i + 1) (by omega) (by omega) (fun j hj' => ?_)
      by_cases e : j = i
      · rw [e, cd i]; omega
      · exact hj j (by omega)
theorem opp_face {on ot u0 : Nat → Int32} {v : Int32} (hv : LSet on ot v) (hL : LU on ot v) (hu : WN u0 (gA v on ot)) (hm : Mn (gN u0)) {co : Nat} (hco : co < 10) (hcc : cr (gN u0) co) {b : Nat} (hb : b < 10) : (∃ l, l < 24 ∧ EB on ot v co l b) ↔ cr (gN u0) b ∧ b ≠ co ∧ Pwy (gN u0) co b := by
  have hg := hm.1
  have hdc := dg_at hL hu (i := co) (by omega)
  have hc3 : cf (at_ on ot v (nI co)) 24 0 ≠ 2 := by
    unfold cr at hcc; rw [hdc] at hcc; omega
  constructor
  · rintro ⟨l, hl, hE⟩
    obtain ⟨w, u, w1, w2, w3, u1, hE2, d, I, i1, i2, i3⟩ := EB.run hv hL hu hco hc3 hE.1
    have hbu := EB.uq hb u1 hE hE2
    subst hbu
    have ecw := at_edge hv hu hco w1 (Ne.symm w2) hE.1 w3
    have supb : Sup (gN u0) b := by
      have := i3 (fun x => Sup (gN u0) x) ⟨co, hg.sy ecw⟩ (fun x y _ _ e => ⟨x, hg.sy e⟩)
      exact this
    have crb : cr (gN u0) b := by
      obtain ⟨y, ey⟩ := supb
      have := hm.deg2 ey
      unfold cr; omega
    refine ⟨crb, fun hbc => ?_, fun P p1 p2 => i3 P (p1 w ecw) (fun a y pa da e => p2 a y pa (by unfold cr; omega) e)⟩
    rw [hbc] at i1 i2
    have Iw : I w := i1.resolve_right w2
    by_cases hex : ∃ c, Sup (gN u0) c ∧ c ≠ co ∧ ¬ I c
    · refine hm.cut (s := co) (by omega) (P := I) ⟨w, ⟨co, hg.sy ecw⟩, w2, Iw⟩ hex (fun x y hx hy Ix Iy e => ?_)
      rcases (i2 x Ix).2 y e with z | z | z
      · exact Iy z
      · exact hy z
      · exact hy z
    · have all : ∀ c, cr (gN u0) c ↔ c = co := fun c => by
        constructor
        · intro hc
          obtain ⟨y, ey⟩ := dg_pos (g := gN u0) (a := c) (by unfold cr at hc; omega)
          apply Classical.byContradiction
          intro z
          have Ic : I c := Classical.byContradiction (fun y' => hex ⟨c, ⟨y, ey⟩, z, y'⟩)
          have := (i2 c Ic).1
          unfold cr at hc; omega
        · intro z; rw [z]; exact hcc
      have n1 : ns (fun c => decide (c = co)) = 1 := by
        unfold ns
        rw [su_congr (g := fun i => if i = co then 1 else 0) 11 (fun i _ => ?_), su_one 11 (by omega)]
        by_cases c : i = co
        · rw [if_pos c]; exact ig_t (decide_eq_true c)
        · rw [if_neg c]; exact ig_f (fun z => c (decide_eq_true_iff.mp z))
      rcases Mn.kp (en (gN u0)) (gN u0) (Nat.le_refl _) hm with k | k
      · have := k (fun c => decide (c = co)) (fun c _ => by rw [decide_eq_true_iff]; exact (all c).symm)
        omega
      · have := k co hcc (fun c => decide (c = co)) (fun c _ => by
          rw [decide_eq_true_iff, all c]
          exact ⟨fun z => ⟨z, fun y => y.1 z⟩, fun z => z.1⟩)
        omega
  · rintro ⟨crb, hbc, hP⟩
    have := hP (fun x => x = co ∨ ∃ l u, l < 24 ∧ u < 10 ∧ EB on ot v co l u ∧ dg (gN u0) u ≠ 2 ∧ ∃ I : Nat → Prop, (∀ z, I z → dg (gN u0) z = 2 ∧ ∀ y, gN u0 z y = true → I y ∨ y = co ∨ y = u) ∧ (I x ∨ x = u)) (fun y ey => ?_) (fun x y px nx e => ?_)
    · rcases this with z | ⟨l, u, q1, q2, q3, q4, I, q5, q6⟩
      · exact absurd z hbc
      · rcases q6 with q6 | q6
        · have := (q5 b q6).1
          unfold cr at crb; omega
        · rw [q6]; exact ⟨l, q1, q3⟩
    · obtain ⟨⟨_, y10, hcy⟩, k, hk, k1, k2⟩ := edge_at hL hu ey
      obtain ⟨w, u, w1, w2, w3, u1, hE2, d, I, i1, i2, _⟩ := EB.run hv hL hu hco hc3 k1
      obtain ⟨q, _, _, _, _, qo⟩ := other_end hv hco k1
      have hyw : y = w := ((qo y y10 k2).resolve_left (Ne.symm hcy)).trans ((qo w w1 w3).resolve_left w2).symm
      exact Or.inr ⟨k, u, hk, u1, hE2, d, I, i2, by rw [hyw]; exact i1⟩
    · rcases px with px | ⟨l, u, q1, q2, q3, q4, I, q5, q6⟩
      · rw [px] at nx; exact absurd hcc nx
      · rcases q6 with q6 | q6
        · rcases (q5 x q6).2 y e with z | z | z
          · exact Or.inr ⟨l, u, q1, q2, q3, q4, I, q5, Or.inl z⟩
          · exact Or.inl z
          · exact Or.inr ⟨l, u, q1, q2, q3, q4, I, q5, Or.inr z⟩
        · have h2 := hm.deg2 e
          rw [q6] at h2 nx
          unfold cr at nx; omega
