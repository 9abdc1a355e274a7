def Mn (g : Nat → Nat → Bool) : Prop := Gb g ∧ ¬ ZZ (gd g) ∧ ∀ u v, g u v = true → ZZ (gd (del g u v))
theorem del_sw {g : Nat → Nat → Bool} {u v a b : Nat} : del g u v a b = true → del g v u a b = true := fun h => by
  obtain ⟨h1, h2, h3⟩ := del_iff.mp h
  exact del_iff.mpr ⟨h1, h3, h2⟩
theorem del_ff {g : Nat → Nat → Bool} {u v a b : Nat} (h : g a b = false) : del g u v a b = false := by
  cases c : del g u v a b
  · rfl
  · have := (del_iff.mp c).1; rw [h] at this; cases this
theorem Mn.con {g : Nat → Nat → Bool} (hm : Mn g) {u v : Nat} (e : g u v = true) (hn : ¬ ZZ (gd (ctr g u v))) : Mn (ctr g u v) := by
  have hg := hm.1
  have huv := hg.ne e
  have t2 : ∀ b, tt_ g u v b = true → ZZ (gd (del (ctr g u v) u b)) := fun b hb => by
    obtain ⟨h1, h2, h3⟩ := tt_iff.mp hb
    have hvb := hg.ne h1
    have e' : del g v b u v = true := del_iff.mpr ⟨e, fun z => huv z.1, fun z => h3 z.1.symm⟩
    refine (ZZ.ctr (hg.del v b) e' (hm.2.2 v b h1)).sub (fun x y q => ?_)
    obtain ⟨q1, q2, q3⟩ := del_iff.mp q
    rcases ctr_iff.mp q1 with k | ⟨k1, k2⟩ | ⟨k1, k2⟩
    · exact ctr_iff.mpr (Or.inl ⟨del_iff.mpr ⟨k.1, fun z => k.2.1 z.1, fun z => k.2.2 z.2⟩, k.2.1, k.2.2⟩)
    · obtain ⟨l1, l2, l3⟩ := tt_iff.mp k2
      have hyb : y ≠ b := fun z => q2 ⟨k1, z⟩
      exact ctr_iff.mpr (Or.inr (Or.inl ⟨k1, tt_iff.mpr ⟨del_iff.mpr ⟨l1, fun z => hyb z.2, fun z => hvb z.1⟩, del_ff l2, l3⟩⟩))
    · obtain ⟨l1, l2, l3⟩ := tt_iff.mp k2
      have hxb : x ≠ b := fun z => q3 ⟨z, k1⟩
      exact ctr_iff.mpr (Or.inr (Or.inr ⟨k1, tt_iff.mpr ⟨del_iff.mpr ⟨l1, fun z => hxb z.2, fun z => hvb z.1⟩, del_ff l2, l3⟩⟩))
  refine ⟨hg.ctr (hg.lt e).1, hn, fun a b eab => ?_⟩
  rcases ctr_iff.mp eab with k | ⟨k1, k2⟩ | ⟨k1, k2⟩
  · have e' : del g a b u v = true := del_iff.mpr ⟨e, fun z => k.2.2 z.2.symm, fun z => k.2.1 z.2.symm⟩
    refine (ZZ.ctr (hg.del a b) e' (hm.2.2 a b k.1)).sub (fun x y q => ?_)
    obtain ⟨q1, q2, q3⟩ := del_iff.mp q
    have tt' : ∀ c, tt_ g u v c = true → tt_ (del g a b) u v c = true := fun c hc => by
      obtain ⟨l1, l2, l3⟩ := tt_iff.mp hc
      exact tt_iff.mpr ⟨del_iff.mpr ⟨l1, fun z => k.2.1 z.1.symm, fun z => k.2.2 z.1.symm⟩, del_ff l2, l3⟩
    rcases ctr_iff.mp q1 with k' | ⟨k1, k2⟩ | ⟨k1, k2⟩
    · exact ctr_iff.mpr (Or.inl ⟨del_iff.mpr ⟨k'.1, q2, q3⟩, k'.2.1, k'.2.2⟩)
    · exact ctr_iff.mpr (Or.inr (Or.inl ⟨k1, tt' _ k2⟩))
    · exact ctr_iff.mpr (Or.inr (Or.inr ⟨k1, tt' _ k2⟩))
  · rw [k1]; exact t2 b k2
  · rw [k1]; exact (t2 a k2).sub (fun x y q => del_sw q)
theorem ns0 {S : Nat → Bool} (h : ∀ i, ¬ S i = true) : ns S = 0 := su_zero 11 (fun i _ => ig_f (h i))
theorem ns_cg {S T : Nat → Bool} (h : ∀ i, i < 11 → (S i = true ↔ T i = true)) : ns S = ns T := su_congr 11 (fun i hi => by
  show ig (S i) = ig (T i)
  rw [beq_of (h i hi)])
theorem dg_con {g : Nat → Nat → Bool} (hg : Gb g) {u v : Nat} (e : g u v = true) (hc : ∀ c, g u c = true → g v c = true → False) {b : Nat} (hbu : b ≠ u) (hbv : b ≠ v) : dg (ctr g u v) b = dg g b := by
  have huv := hg.ne e
  have R : ∀ x, x ≠ u → (ctr g u v b x = true ↔ g b x = true ∧ x ≠ v) := fun x hx => by
    constructor
    · intro h
      rcases ctr_iff.mp h with k | ⟨k1, _⟩ | ⟨k1, _⟩
      · exact ⟨k.1, k.2.2⟩
      · exact absurd k1 hbu
      · exact absurd k1 hx
    · intro h; exact ctr_of h.1 hbv h.2
  by_cases c : g b v = true
  · have cu : ¬ g b u = true := fun z => hc b (hg.sy z) (hg.sy c)
    have ku : ctr g u v b u = true := (hg.ctr (hg.lt e).1).sy (ctr_nb huv (hg.sy c) hbu hbv)
    have d1 : dg g b = ns (wo (g b) v) + 1 := ns_wo (S := g b) (hg.lt e).2 c
    have d2 : dg (ctr g u v) b = ns (wo (ctr g u v b) u) + 1 := ns_wo (S := ctr g u v b) (hg.lt e).1 ku
    rw [d1, d2, ns_cg (S := wo (ctr g u v b) u) (T := wo (g b) v) (fun x _ => ?_)]
    rw [wo_iff, wo_iff]
    constructor
    · rintro ⟨h1, h2⟩; exact (R x h2).mp h1
    · rintro ⟨h1, h2⟩
      have hxu : x ≠ u := fun z => cu (by rw [← z]; exact h1)
      exact ⟨(R x hxu).mpr ⟨h1, h2⟩, hxu⟩
  · refine ns_cg (S := ctr g u v b) (T := g b) (fun x _ => ?_)
    by_cases hx : x = u
    · rw [hx]
      constructor
      · intro h
        rcases ctr_iff.mp h with k | ⟨k1, _⟩ | ⟨_, k2⟩
        · exact k.1
        · exact absurd k1 hbu
        · exact absurd (hg.sy (tt_iff.mp k2).1) c
      · intro h; exact ctr_of h hbv huv
    · rw [R x hx]
      exact ⟨fun h => h.1, fun h => ⟨h, fun z => c (by rw [← z]; exact h)⟩⟩
theorem dg_con_u {g : Nat → Nat → Bool} (hg : Gb g) {u v : Nat} (e : g u v = true) (hc : ∀ c, g u c = true → g v c = true → False) : dg (ctr g u v) u + 2 = dg g u + dg g v := by
  have huv := hg.ne e
  have d1 : dg g u = ns (wo (g u) v) + 1 := ns_wo (S := g u) (hg.lt e).2 e
  have d2 : dg g v = ns (wo (g v) u) + 1 := ns_wo (S := g v) (hg.lt e).1 (hg.sy e)
  have d3 : dg (ctr g u v) u = ns (wo (g u) v) + ns (wo (g v) u) := by
    unfold dg ns
    rw [← su_add]
    refine su_congr 11 (fun b _ => ?_)
    show ig (ctr g u v u b) = ig (wo (g u) v b) + ig (wo (g v) u b)
    by_cases c1 : wo (g u) v b = true
    · obtain ⟨k1, k2⟩ := wo_iff.mp c1
      rw [ig_t c1, ig_t (ctr_of k1 huv k2), ig_f (fun z => hc b k1 (wo_iff.mp z).1)]
    · by_cases c2 : wo (g v) u b = true
      · obtain ⟨k1, k2⟩ := wo_iff.mp c2
        rw [ig_f c1, ig_t c2, ig_t (ctr_nb huv k1 k2 (Ne.symm (hg.ne k1)))]
      · rw [ig_f c1, ig_f c2, ig_f (fun z => ?_)]
        rcases ctr_iff.mp z with k | ⟨_, k2⟩ | ⟨k1, k2⟩
        · exact c1 (wo_iff.mpr ⟨k.1, k.2.2⟩)
        · obtain ⟨l1, l2, l3⟩ := tt_iff.mp k2
          exact c2 (wo_iff.mpr ⟨l1, l3⟩)
        · exact (tt_iff.mp k2).2.2 rfl
  omega
theorem two_of {S : Nat → Bool} (h : 2 ≤ ns S) : ∃ a b, S a = true ∧ S b = true ∧ a ≠ b := by
  obtain ⟨a, ha, hp⟩ := su_pos 11 (show 0 < su (fun i => ig (S i)) 11 by have : su (fun i => ig (S i)) 11 = ns S := rfl; omega)
  have hSa : S a = true := Classical.byContradiction (fun z => by
    have hp : 0 < ig (S a) := hp
    rw [ig_f z] at hp; omega)
  have hw := ns_wo ha hSa
  obtain ⟨b, hb, hq⟩ := su_pos 11 (show 0 < su (fun i => ig (wo S a i)) 11 by have : su (fun i => ig (wo S a i)) 11 = ns (wo S a) := rfl; omega)
  have hSb : wo S a b = true := Classical.byContradiction (fun z => by
    have hq : 0 < ig (wo S a b) := hq
    rw [ig_f z] at hq; omega)
  exact ⟨a, b, hSa, (wo_iff.mp hSb).1, Ne.symm (wo_iff.mp hSb).2⟩
theorem dg_le3 {g : Nat → Nat → Bool} {a p q r : Nat} (h : ∀ b, g a b = true → b = p ∨ b = q ∨ b = r) : dg g a ≤ 3 := by
  have h1 : dg g a ≤ su (fun b => ((if b = p then 1 else 0) + (if b = q then 1 else 0)) + (if b = r then 1 else 0)) 11 := su_mono 11 (fun b _ => by
    by_cases c : g a b = true
    · rw [ig_t c]
      rcases h b c with z | z | z
      · rw [if_pos z]; omega
      · rw [if_pos z]; omega
      · rw [if_pos z]; omega
    · rw [ig_f c]; omega)
  rw [su_add, su_add] at h1
  have e : ∀ p : Nat, su (fun b => if b = p then 1 else 0) 11 ≤ 1 := fun p => by
    by_cases c : p < 11
    · rw [su_one 11 c]; exact Nat.le_refl _
    · rw [su_zero 11 (fun i hi => if_neg (by omega))]; exact Nat.zero_le _
  have e1 := e p
  have e2 := e q
  have e3 := e r
  omega
theorem Mn.kur : ∀ (N : Nat) (g : Nat → Nat → Bool), en g ≤ N → Mn g → (∀ a b, g a b = true → 3 ≤ dg g a) → I5 g ∨ I33 g := by
  intro N
  induction N with
  | zero =>
    intro g hN hm h3
    exfalso
    refine hm.2.1 (few _ (fun _ => true) g hm.1 (fun _ _ _ => rfl) rfl (by omega))
  | succ N ih =>
    intro g hN hm h3
    have hg := hm.1
    by_cases hall : ∀ u v, g u v = true → ZZ (gd (ctr g u v))
    · exact Mm.kur ⟨hg, hm.2.1, hm.2.2, hall, h3⟩
    · exfalso
      obtain ⟨u, v, e, hn⟩ : ∃ u v, g u v = true ∧ ¬ ZZ (gd (ctr g u v)) := by
        apply Classical.byContradiction
        intro z
        exact hall (fun u v e => Classical.byContradiction (fun y => z ⟨u, v, e, y⟩))
      have huv := hg.ne e
      have hc : ∀ c, g u c = true → g v c = true → False := fun c k1 k2 => by
        have huc := hg.ne k1
        have hvc := hg.ne k2
        have e' : del g v c u v = true := del_iff.mpr ⟨e, fun z => huv z.1, fun z => huc z.1⟩
        refine hn ((ZZ.ctr (hg.del v c) e' (hm.2.2 v c k2)).sub (fun x y q => ?_))
        have tt' : ∀ b, tt_ g u v b = true → tt_ (del g v c) u v b = true := fun b hb => by
          obtain ⟨l1, l2, l3⟩ := tt_iff.mp hb
          exact tt_iff.mpr ⟨del_iff.mpr ⟨l1, (fun z => by rw [z.2, k1] at l2; cases l2), fun z => hvc z.1⟩, del_ff l2, l3⟩
        rcases ctr_iff.mp q with k' | ⟨m1, m2⟩ | ⟨m1, m2⟩
        · exact ctr_iff.mpr (Or.inl ⟨del_iff.mpr ⟨k'.1, fun z => k'.2.1 z.1, fun z => k'.2.2 z.2⟩, k'.2.1, k'.2.2⟩)
        · exact ctr_iff.mpr (Or.inr (Or.inl ⟨m1, tt' _ m2⟩))
        · exact ctr_iff.mpr (Or.inr (Or.inr ⟨m1, tt' _ m2⟩))
      have hmk := hm.con e hn
      have hgk := hmk.1
      have du := dg_con_u hg e hc
      have du3 := h3 u v e
      have dv3 := h3 v u (hg.sy e)
      have hk3 : ∀ a b, ctr g u v a b = true → 3 ≤ dg (ctr g u v) a := fun a b eab => by
        by_cases hau : a = u
        · rw [hau]; omega
        · have hav : a ≠ v := fun z => by
            rcases ctr_iff.mp eab with k | ⟨k1, _⟩ | ⟨_, k2⟩
            · exact k.2.1 z
            · exact hau k1
            · have := (tt_iff.mp k2).1
              rw [z] at this; exact hg.ne this rfl
          rw [dg_con hg e hc hau hav]
          rcases ctr_iff.mp eab with k | ⟨k1, _⟩ | ⟨_, k2⟩
          · exact h3 a b k.1
          · exact absurd k1 hau
          · exact h3 a v (hg.sy (tt_iff.mp k2).1)
      have hen := en_ctr hg e
      rcases ih (ctr g u v) (by omega) hmk hk3 with h5 | h33
      · -- five nodes: the two ends share the four others
        have w1 : dg g u = ns (wo (g u) v) + 1 := ns_wo (S := g u) (hg.lt e).2 e
        have w2 : dg g v = ns (wo (g v) u) + 1 := ns_wo (S := g v) (hg.lt e).1 (hg.sy e)
        obtain ⟨a, a', ha, ha', haa⟩ := two_of (S := wo (g u) v) (by omega)
        obtain ⟨b, b', hb, hb', hbb⟩ := two_of (S := wo (g v) u) (by omega)
        obtain ⟨ga, hav⟩ := wo_iff.mp ha
        obtain ⟨ga', hav'⟩ := wo_iff.mp ha'
        obtain ⟨gb, hbu⟩ := wo_iff.mp hb
        obtain ⟨gb', hbu'⟩ := wo_iff.mp hb'
        have hab : a ≠ b := fun z => hc a ga (by rw [z]; exact gb)
        have hab' : a ≠ b' := fun z => hc a ga (by rw [z]; exact gb')
        have ha'b : a' ≠ b := fun z => hc a' ga' (by rw [z]; exact gb)
        have ha'b' : a' ≠ b' := fun z => hc a' ga' (by rw [z]; exact gb')
        obtain ⟨p, q, r, s, t, _, ⟨e1, e2, e3, e4, e5, e6, e7, e8, e9, e10⟩, hin⟩ := h5
        have full : ∀ i j, (i = p ∨ i = q ∨ i = r ∨ i = s ∨ i = t) → (j = p ∨ j = q ∨ j = r ∨ j = s ∨ j = t) → i ≠ j → ctr g u v i j = true := by
          intro i j hi hj hij
          rcases hi with hi | hi | hi | hi | hi <;> rcases hj with hj | hj | hj | hj | hj <;> rw [hi, hj] at hij ⊢ <;> first | exact absurd rfl hij | assumption | (exact hgk.sy (by assumption))
        have Ia := hin a u (hgk.sy (ctr_of ga huv hav))
        have Ia' := hin a' u (hgk.sy (ctr_of ga' huv hav'))
        have Ib := hin b u (hgk.sy (ctr_nb huv gb hbu (Ne.symm (hg.ne gb))))
        have Ib' := hin b' u (hgk.sy (ctr_nb huv gb' hbu' (Ne.symm (hg.ne gb'))))
        have hau := Ne.symm (hg.ne ga)
        have hau' := Ne.symm (hg.ne ga')
        have inG : ∀ i j, i ≠ u → j ≠ u → ctr g u v i j = true → g i j = true := fun i j h1 h2 h => by
          rcases ctr_iff.mp h with k | ⟨k1, _⟩ | ⟨k1, _⟩
          · exact k.1
          · exact absurd k1 h1
          · exact absurd k1 h2
        have gaa := inG a a' hau hau' (full a a' Ia Ia' haa)
        have i33 : I33 g := by
          refine K33_all hg hm.2.2 (a1 := u) (a2 := b) (a3 := b') (b1 := v) (b2 := a) (b3 := a') (Ne.symm hbu) (Ne.symm hbu') hbb (Ne.symm hav) (Ne.symm hav') haa (fun i hi => ?_)
          rcases hi with hi | hi | hi
          · rw [hi]; exact ⟨e, ga, ga'⟩
          · rw [hi]; exact ⟨hg.sy gb, inG b a hbu hau (full b a Ib Ia (Ne.symm hab)), inG b a' hbu hau' (full b a' Ib Ia' (Ne.symm ha'b))⟩
          · rw [hi]; exact ⟨hg.sy gb', inG b' a hbu' hau (full b' a Ib' Ia (Ne.symm hab')), inG b' a' hbu' hau' (full b' a' Ib' Ia' (Ne.symm ha'b'))⟩
        have gd' : ZZ (gd (del g a a')) := hm.2.2 a a' gaa
        have ee : ∀ i j, g i j = true → ¬ (i = a ∧ j = a') → ¬ (i = a' ∧ j = a) → gd (del g a a') i j := fun i j h1 h2 h3 => del_iff.mpr ⟨h1, h2, h3⟩
        have hbv := Ne.symm (hg.ne gb)
        have hbv' := Ne.symm (hg.ne gb')
        exact no_K33 gd' (a := u) (b := b) (c := b') (p := v) (q := a) (r := a') (ee _ _ e (fun z => hau z.1.symm) (fun z => hau' z.1.symm)) (ee _ _ ga (fun z => hau z.1.symm) (fun z => hau' z.1.symm)) (ee _ _ ga' (fun z => hau z.1.symm) (fun z => hau' z.1.symm)) (ee _ _ (hg.sy gb) (fun z => hab z.1.symm) (fun z => ha'b z.1.symm)) (ee _ _ (inG b a hbu hau (full b a Ib Ia (Ne.symm hab))) (fun z => hab z.1.symm) (fun z => ha'b z.1.symm)) (ee _ _ (inG b a' hbu hau' (full b a' Ib Ia' (Ne.symm ha'b))) (fun z => hab z.1.symm) (fun z => ha'b z.1.symm)) (ee _ _ (hg.sy gb') (fun z => hab' z.1.symm) (fun z => ha'b' z.1.symm)) (ee _ _ (inG b' a hbu' hau (full b' a Ib' Ia (Ne.symm hab'))) (fun z => hab' z.1.symm) (fun z => ha'b' z.1.symm)) (ee _ _ (inG b' a' hbu' hau' (full b' a' Ib' Ia' (Ne.symm ha'b'))) (fun z => hab' z.1.symm) (fun z => ha'b' z.1.symm)) (Ne.symm hbu) (Ne.symm hav) (Ne.symm hbu') (Ne.symm hav') hbb haa huv (Ne.symm hau) (Ne.symm hau') hbv (Ne.symm hab) (Ne.symm ha'b) hbv' (Ne.symm hab') (Ne.symm ha'b')
      · -- three and three: no node has four lines
        obtain ⟨a1, a2, a3, b1, b2, b3, _, hed, hin⟩ := h33
        obtain ⟨b, hb⟩ : ∃ b, ctr g u v u b = true := by
          obtain ⟨b, _, hp⟩ := su_pos 11 (show 0 < su (fun i => ig (ctr g u v u i)) 11 by have : su (fun i => ig (ctr g u v u i)) 11 = dg (ctr g u v) u := rfl; omega)
          exact ⟨b, Classical.byContradiction (fun z => by
            have hp : 0 < ig (ctr g u v u b) := hp
            rw [ig_f z] at hp; omega)⟩
        by_cases hA : u = a1 ∨ u = a2 ∨ u = a3
        · by_cases hB : u = b1 ∨ u = b2 ∨ u = b3
          · -- a node on both sides
            obtain ⟨x1, x2, x3⟩ := hed u hA
            rcases hB with z | z | z
            · rw [← z] at x1; exact hgk.ne x1 rfl
            · rw [← z] at x2; exact hgk.ne x2 rfl
            · rw [← z] at x3; exact hgk.ne x3 rfl
          · have := dg_le3 (g := ctr g u v) (a := u) (p := b1) (q := b2) (r := b3) (fun c hc' => by
              rcases hin u c hc' with z | z
              · exact z.2
              · exact absurd z.1 hB)
            omega
        · have := dg_le3 (g := ctr g u v) (a := u) (p := a1) (q := a2) (r := a3) (fun c hc' => by
            rcases hin u c hc' with z | z
            · exact absurd z.1 hA
            · exact z.2)
          omega
