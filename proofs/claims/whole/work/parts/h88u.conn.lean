def Sup (g : Nat → Nat → Bool) (a : Nat) : Prop := ∃ b, g a b = true
def Mm (g : Nat → Nat → Bool) : Prop := Gb g ∧ ¬ ZZ (gd g) ∧ (∀ u v, g u v = true → ZZ (gd (del g u v))) ∧ (∀ u v, g u v = true → ZZ (gd (ctr g u v))) ∧ ∀ a b, g a b = true → 3 ≤ dg g a
theorem Sup.lt {g : Nat → Nat → Bool} (hg : Gb g) {a : Nat} (h : Sup g a) : a < 11 := by
  obtain ⟨b, e⟩ := h
  exact (hg.lt e).1
theorem shrink {g : Nat → Nat → Bool} (hm : Mm g) {D : Nat → Prop} (hlt : ∀ a, D a → a < 11) (cD : Cd g D) {p q : Nat} (hp : D p) (hq : D q) (hne : q ≠ p) : ∃ g1, Gb g1 ∧ ZZ (gd g1) ∧ (∀ a b, ¬ D a → ¬ D b → g a b = true → g1 a b = true) ∧ ∀ a b, D a → ¬ D b → g a b = true → g1 p b = true := by
  have hg := hm.1
  obtain ⟨v, hv, hvp, e⟩ := cD.nb hp hq hne
  have hpv := hg.ne e
  have hg' : Gb (ctr g p v) := hg.ctr (hg.lt e).1
  obtain ⟨g1, q1, q2, q3, q4⟩ := colP hg' (hm.2.2.2.1 p v e) (B := fun a => D a ∧ a ≠ v) (fun a h => hlt a h.1) (c := p) ⟨hp, hpv⟩ (cD.con hg hp hv e)
  refine ⟨g1, q1, q2, fun a b ha hb eab => ?_, fun a b ha hb eab => ?_⟩
  · exact q3 a b (fun z => ha z.1) (fun z => hb z.1) (ctr_of eab (fun z => ha (by rw [z]; exact hv)) (fun z => hb (by rw [z]; exact hv)))
  · have hbv : b ≠ v := fun z => hb (by rw [z]; exact hv)
    have hbp : b ≠ p := fun z => hb (by rw [z]; exact hp)
    by_cases ev : a = v
    · rw [ev] at eab
      exact q4 p b ⟨hp, hpv⟩ (fun z => hb z.1) (ctr_nb hpv eab hbp hbv)
    · exact q4 a b ⟨ha, ev⟩ (fun z => hb z.1) (ctr_of eab ev hbv)
theorem glm {g : Nat → Nat → Bool} (hm : Mm g) {s1 s2 s3 : Nat} (n12 : s1 ≠ s2) (n13 : s1 ≠ s3) (n23 : s2 ≠ s3) {S D D' : Nat → Prop} (hS : ∀ a, S a ↔ a = s1 ∨ a = s2 ∨ a = s3) (hD : ∀ a, D a → Sup g a ∧ ¬ S a) (hD' : ∀ a, D' a → Sup g a ∧ ¬ S a) (clD : ∀ a b, D a → g a b = true → ¬ S b → D b) (clD' : ∀ a b, D' a → g a b = true → ¬ S b → D' b) (dis : ∀ a, D a → ¬ D' a) (cD : Cd g D) (cD' : Cd g D') {p q p' q' : Nat} (hp : D p) (hq : D q) (hpq : q ≠ p) (hp' : D' p') (hq' : D' q') (hpq' : q' ≠ p') (att : ∀ s, S s → (∃ a, ¬ D a ∧ ¬ S a ∧ g s a = true) → ∃ a, D' a ∧ g s a = true) : False := by
  have hg := hm.1
  obtain ⟨g1, a1, a2, a3, a4⟩ := shrink hm (fun a h => (hD a h).1.lt hg) cD hp hq hpq
  obtain ⟨g2, b1, b2, b3, b4⟩ := shrink hm (fun a h => (hD' a h).1.lt hg) cD' hp' hq' hpq'
  obtain ⟨sd, h1, h2, h3⟩ : ∃ sd : Nat → Nat, (∀ a, sd a = 1 ↔ S a) ∧ (∀ a, sd a = 2 ↔ D a) ∧ ∀ a, sd a ≤ 2 := by
    have : ∀ a, ∃ n : Nat, (n = 1 ↔ S a) ∧ (n = 2 ↔ D a) ∧ n ≤ 2 := fun a => by
      by_cases c1 : S a
      · exact ⟨1, ⟨fun _ => c1, fun _ => rfl⟩, ⟨fun z => absurd z (by decide), fun z => absurd c1 (hD a z).2⟩, by decide⟩
      · by_cases c2 : D a
        · exact ⟨2, ⟨fun z => absurd z (by decide), fun z => absurd z c1⟩, ⟨fun _ => c2, fun _ => rfl⟩, by decide⟩
        · exact ⟨0, ⟨fun z => absurd z (by decide), fun z => absurd z c1⟩, ⟨fun z => absurd z (by decide), fun z => absurd z c2⟩, by decide⟩
    obtain ⟨sd, h⟩ := Classical.axiomOfChoice this
    exact ⟨sd, fun a => (h a).1, fun a => (h a).2.1, fun a => (h a).2.2⟩
  have n2 : ∀ a, sd a ≤ 1 → ¬ D a := fun a h z => by have := (h2 a).mpr z; omega
  have n1 : ∀ a, 1 ≤ sd a → ¬ D' a := fun a h z => by
    have y1 : ¬ sd a = 1 := fun w => (hD' a z).2 ((h1 a).mp w)
    have y2 : ¬ sd a = 2 := fun w => dis a ((h2 a).mp w) z
    have := h3 a
    omega
  refine hm.2.1 (ZZ.glue hg (g1 := g1) (g2 := g2) (t1 := p') (t2 := p) (sd := sd) n12 n13 n23 (fun a => (h1 a).trans (hS a)) ?_ ((h2 p).mpr hp) h3 (fun a b e ha hb => ?_) (fun a b e ha hb => a3 a b (n2 a ha) (n2 b hb) e) (fun a b e ha hb => a1.sy (a4 b a ((h2 b).mp hb) (n2 a (by omega)) (hg.sy e))) (fun a b e ha hb => b3 a b (n1 a ha) (n1 b hb) e) (fun a b e ha hb => ?_) a2 b2)
  · have y1 : ¬ sd p' = 1 := fun w => (hD' p' hp').2 ((h1 p').mp w)
    have y2 : ¬ sd p' = 2 := fun w => dis p' ((h2 p').mp w) hp'
    have := h3 p'
    omega
  · have hb := (h2 b).mp hb
    by_cases c : S a
    · have := (h1 a).mpr c; omega
    · have := (h2 a).mpr (clD b a hb (hg.sy e) c); omega
  · have hbD : ¬ D b := n2 b (by omega)
    have hbS : ¬ S b := fun z => by have := (h1 b).mpr z; omega
    obtain ⟨y, y1, y2⟩ := att a ((h1 a).mp ha) ⟨b, hbD, hbS, e⟩
    exact b1.sy (b4 y a y1 (n1 a (by omega)) (hg.sy y2))
def Sp (g : Nat → Nat → Bool) (S : Nat → Prop) : Prop := ∃ P : Nat → Prop, (∃ a, Sup g a ∧ ¬ S a ∧ P a) ∧ (∃ b, Sup g b ∧ ¬ S b ∧ ¬ P b) ∧ ∀ a b, ¬ S a → ¬ S b → P a → ¬ P b → g a b = true → False
theorem Sp.cg {g : Nat → Nat → Bool} (hg : Gb g) {S S' : Nat → Prop} (h : ∀ a, Sup g a → (S a ↔ S' a)) (hs : Sp g S) : Sp g S' := by
  obtain ⟨P, ⟨a, a1, a2, a3⟩, ⟨b, b1, b2, b3⟩, h3⟩ := hs
  refine ⟨P, ⟨a, a1, fun z => a2 ((h a a1).mpr z), a3⟩, ⟨b, b1, fun z => b2 ((h b b1).mpr z), b3⟩, fun x y hx hy px py e => ?_⟩
  exact h3 x y (fun z => hx ((h x ⟨y, e⟩).mp z)) (fun z => hy ((h y ⟨x, hg.sy e⟩).mp z)) px py e
theorem Sp.no {g : Nat → Nat → Bool} (hm : Mm g) {s1 s2 s3 : Nat} (n12 : s1 ≠ s2) (n13 : s1 ≠ s3) (n23 : s2 ≠ s3) {S : Nat → Prop} (hS : ∀ a, S a ↔ a = s1 ∨ a = s2 ∨ a = s3) (hin : ∀ a, Sup g a → ¬ S a → ∃ b, g a b = true ∧ ¬ S b) (hless : ∀ s, S s → Sup g s → ¬ Sp g (fun a => S a ∧ a ≠ s)) : ¬ Sp g S := by
  rintro ⟨P, ⟨a, a1, a2, a3⟩, ⟨b, b1, b2, b3⟩, h3⟩
  have hg := hm.1
  have Wa : Sup g a ∧ ¬ S a := ⟨a1, a2⟩
  have Wb : Sup g b ∧ ¬ S b := ⟨b1, b2⟩
  have inP : ∀ v, Rc g (fun x => Sup g x ∧ ¬ S x) a v → (Sup g v ∧ ¬ S v) ∧ P v := fun v h => h (fun v => (Sup g v ∧ ¬ S v) ∧ P v) ⟨Wa, a3⟩ (fun x y k1 k2 k3 => ⟨k2, Classical.byContradiction (fun z => h3 x y k1.1.2 k2.2 k1.2 z k3)⟩)
  have inN : ∀ v, Rc g (fun x => Sup g x ∧ ¬ S x) b v → (Sup g v ∧ ¬ S v) ∧ ¬ P v := fun v h => h (fun v => (Sup g v ∧ ¬ S v) ∧ ¬ P v) ⟨Wb, b3⟩ (fun x y k1 k2 k3 => ⟨k2, fun z => h3 y x k2.2 k1.1.2 z k1.2 (hg.sy k3)⟩)
  obtain ⟨q, eq, hq⟩ := hin a a1 a2
  obtain ⟨q', eq', hq'⟩ := hin b b1 b2
  have Sy : ∀ {x y : Nat}, g x y = true → Sup g y := fun {x y} e => ⟨x, hg.sy e⟩
  refine glm hm n12 n13 n23 hS (D := fun v => Rc g (fun x => Sup g x ∧ ¬ S x) a v) (D' := fun v => Rc g (fun x => Sup g x ∧ ¬ S x) b v) (fun v h => (inP v h).1) (fun v h => (inN v h).1) (fun x y h e hy => Rc.st h ⟨Sy e, hy⟩ e) (fun x y h e hy => Rc.st h ⟨Sy e, hy⟩ e) (fun v h z => (inN v z).2 (inP v h).2) (Rc.cl hg Wa) (Rc.cl hg Wb) (Rc.rf _ _ a) ((Rc.rf _ _ a).st ⟨Sy eq, hq⟩ eq) (Ne.symm (hg.ne eq)) (Rc.rf _ _ b) ((Rc.rf _ _ b).st ⟨Sy eq', hq'⟩ eq') (Ne.symm (hg.ne eq')) (fun s hs hx => ?_)
  obtain ⟨x, x1, x2, x3⟩ := hx
  apply Classical.byContradiction
  intro hno
  refine hless s hs ⟨x, x3⟩ ⟨fun v => Rc g (fun x => Sup g x ∧ ¬ S x) b v, ⟨b, b1, fun z => b2 z.1, Rc.rf _ _ _⟩, ⟨s, ⟨x, x3⟩, fun z => z.2 rfl, fun z => (inN s z).1.2 hs⟩, fun u v hu hv pu pv e => ?_⟩
  by_cases c : v = s
  · rw [c] at e
    exact hno ⟨u, pu, hg.sy e⟩
  · exact pv (Rc.st pu ⟨Sy e, fun z => hv ⟨z, c⟩⟩ e)
theorem dg_two {g : Nat → Nat → Bool} {a p q : Nat} (h : ∀ b, g a b = true → b = p ∨ b = q) : dg g a ≤ 2 := by
  have h1 : dg g a ≤ su (fun b => (if b = p then 1 else 0) + (if b = q then 1 else 0)) 11 := su_mono 11 (fun b _ => by
    by_cases c : g a b = true
    · rw [ig_t c]
      rcases h b c with z | z
      · rw [if_pos z]; omega
      · rw [if_pos z]; omega
    · rw [ig_f c]; omega)
  rw [su_add] at h1
  have e : ∀ p : Nat, su (fun b => if b = p then 1 else 0) 11 ≤ 1 := fun p => by
    by_cases c : p < 11
    · rw [su_one 11 c]; exact Nat.le_refl _
    · rw [su_zero 11 (fun i hi => if_neg (by omega))]; exact Nat.zero_le _
  have e1 := e p
  have e2 := e q
  omega
theorem Mm.c0 {g : Nat → Nat → Bool} (hm : Mm g) : ¬ Sp g (fun a => a = 11 ∨ a = 12 ∨ a = 13) := by
  have hg := hm.1
  have ns : ∀ s, s = 11 ∨ s = 12 ∨ s = 13 → ¬ Sup g s := fun s h z => by have := z.lt hg; omega
  refine Sp.no hm (by decide) (by decide) (by decide) (fun a => Iff.rfl) (fun a ha _ => ?_) (fun s hs z => absurd z (ns s hs))
  obtain ⟨b, e⟩ := ha
  exact ⟨b, e, fun z => ns b z ⟨a, hg.sy e⟩⟩
theorem Mm.c1 {g : Nat → Nat → Bool} (hm : Mm g) {p : Nat} (hp : p < 11) : ¬ Sp g (fun a => a = p ∨ a = 12 ∨ a = 13) := by
  have hg := hm.1
  have ns : ∀ s, s = 12 ∨ s = 13 → ¬ Sup g s := fun s h z => by have := z.lt hg; omega
  refine Sp.no hm (by omega) (by omega) (by decide) (fun a => Iff.rfl) (fun a ha hs => ?_) (fun s hs z => ?_)
  · apply Classical.byContradiction
    intro hno
    obtain ⟨b, e⟩ := ha
    have := dg_two (g := g) (a := a) (p := p) (q := p) (fun b e => by
      apply Classical.byContradiction
      intro z
      refine hno ⟨b, e, fun y => ?_⟩
      rcases y with y | y
      · exact z (Or.inl y)
      · exact ns b y ⟨a, hg.sy e⟩)
    have := hm.2.2.2.2 a b e
    omega
  · have hsp : s = p := hs.resolve_right (fun y => ns s y z)
    subst hsp
    intro h
    refine hm.c0 (h.cg hg (fun a ha => ⟨fun y => ?_, fun y => ?_⟩))
    · exact absurd ha (ns a (y.1.resolve_left y.2))
    · have := ha.lt hg; omega
theorem Mm.c2 {g : Nat → Nat → Bool} (hm : Mm g) {p q : Nat} (hp : p < 11) (hq : q < 11) (hpq : p ≠ q) : ¬ Sp g (fun a => a = p ∨ a = q ∨ a = 13) := by
  have hg := hm.1
  have ns : ∀ s, s = 12 ∨ s = 13 → ¬ Sup g s := fun s h z => by have := z.lt hg; omega
  refine Sp.no hm hpq (by omega) (by omega) (fun a => Iff.rfl) (fun a ha hs => ?_) (fun s hs z => ?_)
  · apply Classical.byContradiction
    intro hno
    obtain ⟨b, e⟩ := ha
    have := dg_two (g := g) (a := a) (p := p) (q := q) (fun b e => by
      apply Classical.byContradiction
      intro z
      refine hno ⟨b, e, fun y => ?_⟩
      rcases y with y | y | y
      · exact z (Or.inl y)
      · exact z (Or.inr y)
      · exact ns b (Or.inr y) ⟨a, hg.sy e⟩)
    have := hm.2.2.2.2 a b e
    omega
  · intro h
    have hz := z.lt hg
    rcases hs with hs | hs | hs
    · subst hs
      refine hm.c1 hq (h.cg hg (fun a ha => ⟨fun y => ?_, fun y => ?_⟩))
      · rcases y.1 with y1 | y1 | y1
        · exact absurd y1 y.2
        · exact Or.inl y1
        · exact Or.inr (Or.inr y1)
      · rcases y with y | y
        · exact ⟨Or.inr (Or.inl y), fun w => hpq (w.symm.trans y)⟩
        · exact absurd ha (ns a y)
    · subst hs
      refine hm.c1 hp (h.cg hg (fun a ha => ⟨fun y => ?_, fun y => ?_⟩))
      · rcases y.1 with y1 | y1 | y1
        · exact Or.inl y1
        · exact absurd y1 y.2
        · exact Or.inr (Or.inr y1)
      · rcases y with y | y
        · exact ⟨Or.inl y, fun w => hpq (y.symm.trans w)⟩
        · exact absurd ha (ns a y)
    · omega
theorem Mm.c3 {g : Nat → Nat → Bool} (hm : Mm g) {x y w : Nat} (hx : x < 11) (hy : y < 11) (hxy : x ≠ y) (hwx : w ≠ x) (hwy : w ≠ y) (hin : ∀ a, Sup g a → ¬ (a = x ∨ a = y ∨ a = w) → ∃ b, g a b = true ∧ ¬ (b = x ∨ b = y ∨ b = w)) : ¬ Sp g (fun a => a = x ∨ a = y ∨ a = w) := by
  have hg := hm.1
  have ns : ¬ Sup g 13 := fun z => by have := z.lt hg; omega
  refine Sp.no hm hxy (Ne.symm hwx) (Ne.symm hwy) (fun a => Iff.rfl) hin (fun s hs z => ?_)
  intro h
  have hz := z.lt hg
  rcases hs with hs | hs | hs
  · subst hs
    by_cases cw : w < 11
    · refine hm.c2 hy cw (Ne.symm hwy) (h.cg hg (fun a ha => ⟨fun q => ?_, fun q => ?_⟩))
      · rcases q.1 with q1 | q1 | q1
        · exact absurd q1 q.2
        · exact Or.inl q1
        · exact Or.inr (Or.inl q1)
      · rcases q with q | q | q
        · exact ⟨Or.inr (Or.inl q), fun z => hxy (z.symm.trans q)⟩
        · exact ⟨Or.inr (Or.inr q), fun z => hwx (q.symm.trans z)⟩
        · rw [q] at ha; exact absurd ha ns
    · refine hm.c1 hy (h.cg hg (fun a ha => ⟨fun q => ?_, fun q => ?_⟩))
      · have := ha.lt hg
        rcases q.1 with q1 | q1 | q1
        · exact absurd q1 q.2
        · exact Or.inl q1
        · omega
      · have := ha.lt hg
        rcases q with q | q
        · exact ⟨Or.inr (Or.inl q), fun z => hxy (z.symm.trans q)⟩
        · omega
  · subst hs
    by_cases cw : w < 11
    · refine hm.c2 hx cw (Ne.symm hwx) (h.cg hg (fun a ha => ⟨fun q => ?_, fun q => ?_⟩))
      · rcases q.1 with q1 | q1 | q1
        · exact Or.inl q1
        · exact absurd q1 q.2
        · exact Or.inr (Or.inl q1)
      · rcases q with q | q | q
        · exact ⟨Or.inl q, fun z => hxy (q.symm.trans z)⟩
        · exact ⟨Or.inr (Or.inr q), fun z => hwy (q.symm.trans z)⟩
        · rw [q] at ha; exact absurd ha ns
    · refine hm.c1 hx (h.cg hg (fun a ha => ⟨fun q => ?_, fun q => ?_⟩))
      · have := ha.lt hg
        rcases q.1 with q1 | q1 | q1
        · exact Or.inl q1
        · exact absurd q1 q.2
        · omega
      · have := ha.lt hg
        rcases q with q | q
        · exact ⟨Or.inl q, fun z => hxy (q.symm.trans z)⟩
        · omega
  · subst hs
    refine hm.c2 hx hy hxy (h.cg hg (fun a ha => ⟨fun q => ?_, fun q => ?_⟩))
    · rcases q.1 with q1 | q1 | q1
      · exact Or.inl q1
      · exact Or.inr (Or.inl q1)
      · exact absurd q1 q.2
    · rcases q with q | q | q
      · exact ⟨Or.inl q, fun z => hwx (z.symm.trans q)⟩
      · exact ⟨Or.inr (Or.inl q), fun z => hwy (z.symm.trans q)⟩
      · rw [q] at ha; exact absurd ha ns
theorem dg_three {g : Nat → Nat → Bool} (hg : Gb g) {a p q r : Nat} (h : dg g a ≤ 3) (e1 : g a p = true) (e2 : g a q = true) (e3 : g a r = true) (n1 : p ≠ q) (n2 : p ≠ r) (n3 : q ≠ r) (b : Nat) (e : g a b = true) : b = p ∨ b = q ∨ b = r := by
  apply Classical.byContradiction
  intro hno
  have d0 : dg g a = ns (g a) := rfl
  have d1 := ns_wo (S := g a) (hg.lt e1).2 e1
  have d2 := ns_wo (S := wo (g a) p) (hg.lt e2).2 (wo_iff.mpr ⟨e2, Ne.symm n1⟩)
  have d3 := ns_wo (S := wo (wo (g a) p) q) (hg.lt e3).2 (wo_iff.mpr ⟨wo_iff.mpr ⟨e3, Ne.symm n2⟩, Ne.symm n3⟩)
  have d4 := ns_wo (S := wo (wo (wo (g a) p) q) r) (hg.lt e).2 (wo_iff.mpr ⟨wo_iff.mpr ⟨wo_iff.mpr ⟨e, fun z => hno (Or.inl z)⟩, fun z => hno (Or.inr (Or.inl z))⟩, fun z => hno (Or.inr (Or.inr z))⟩)
  omega
theorem Mm.good {g : Nat → Nat → Bool} (hm : Mm g) : ∃ x y, g x y = true ∧ ∀ t, g t x = true → g t y = true → 3 < dg g t := by
  have hg := hm.1
  apply Classical.byContradiction
  intro hno
  have bad : ∀ x y, g x y = true → ∃ t, g t x = true ∧ g t y = true ∧ dg g t ≤ 3 := fun x y e => by
    apply Classical.byContradiction
    intro h
    exact hno ⟨x, y, e, fun t h1 h2 => Classical.byContradiction (fun z => h ⟨t, h1, h2, by omega⟩)⟩
  obtain ⟨x, y, exy⟩ : ∃ x y, g x y = true := by
    apply Classical.byContradiction
    intro h
    refine hm.2.1 ⟨fun _ _ _ => 0, fun _ _ _ => rfl, fun a b c d h1 => ?_⟩
    exact absurd ⟨a, b, h1⟩ h
  obtain ⟨t, e1, e2, ht⟩ := bad x y exy
  have hxy := hg.ne exy
  obtain ⟨w, e3, hwx, hwy⟩ : ∃ w, g t w = true ∧ w ≠ x ∧ w ≠ y := by
    apply Classical.byContradiction
    intro h
    have := dg_two (g := g) (a := t) (p := x) (q := y) (fun b e => by
      apply Classical.byContradiction
      intro z
      exact h ⟨b, e, fun q => z (Or.inl q), fun q => z (Or.inr q)⟩)
    have := hm.2.2.2.2 t x e1
    omega
  have Nt := dg_three hg ht e1 e2 e3 hxy (Ne.symm hwx) (Ne.symm hwy)
  obtain ⟨t2, f1, f2, ht2⟩ := bad t w e3
  have core : ∀ x y, g x y = true → g t x = true → g t y = true → w ≠ x → w ≠ y → (∀ b, g t b = true → b = x ∨ b = y ∨ b = w) → g x w = true → dg g x ≤ 3 → False := by
    intro x y exy e1 e2 hwx hwy Nt exw hx3
    have hxy := hg.ne exy
    have htx := hg.ne e1
    have hty := hg.ne e2
    have htw := hg.ne e3
    have Nx := dg_three hg hx3 (hg.sy e1) exy exw hty htw (Ne.symm hwy)
    by_cases h5 : ∃ b, Sup g b ∧ b ≠ t ∧ b ≠ x ∧ b ≠ y ∧ b ≠ w
    · obtain ⟨b, b1, b2, b3, b4, b5⟩ := h5
      have hb := b1.lt hg
      refine hm.c2 (hg.lt e2).2 (hg.lt e3).2 (Ne.symm hwy) ⟨fun a => a = t ∨ a = x, ⟨t, ⟨x, e1⟩, fun z => ?_, Or.inl rfl⟩, ⟨b, b1, fun z => ?_, fun z => z.elim b2 b3⟩, fun u v hu hv pu pv e => ?_⟩
      · rcases z with z | z | z
        · exact hty z
        · exact htw z
        · have := (hg.lt e1).1; omega
      · rcases z with z | z | z
        · exact b4 z
        · exact b5 z
        · omega
      · rcases pu with pu | pu
        · rw [pu] at e
          rcases Nt v e with z | z | z
          · exact pv (Or.inr z)
          · exact hv (Or.inl z)
          · exact hv (Or.inr (Or.inl z))
        · rw [pu] at e
          rcases Nx v e with z | z | z
          · exact pv (Or.inl z)
          · exact hv (Or.inl z)
          · exact hv (Or.inr (Or.inl z))
    · have all : ∀ b, Sup g b → b = t ∨ b = x ∨ b = y ∨ b = w := fun b hb => by
        apply Classical.byContradiction
        intro z
        exact h5 ⟨b, hb, fun q => z (Or.inl q), fun q => z (Or.inr (Or.inl q)), fun q => z (Or.inr (Or.inr (Or.inl q))), fun q => z (Or.inr (Or.inr (Or.inr q)))⟩
      have hS : Spp (fun b => decide (b = t ∨ b = x ∨ b = y ∨ b = w)) g := fun a b e => decide_eq_true (all a ⟨b, e⟩)
      have hn : ns (fun b => decide (b = t ∨ b = x ∨ b = y ∨ b = w)) ≤ 4 := by
        have h1 : ns (fun b => decide (b = t ∨ b = x ∨ b = y ∨ b = w)) ≤ su (fun b => ((if b = t then 1 else 0) + (if b = x then 1 else 0)) + ((if b = y then 1 else 0) + (if b = w then 1 else 0))) 11 := su_mono 11 (fun b _ => by
          by_cases c : b = t ∨ b = x ∨ b = y ∨ b = w
          · rw [ig_t (decide_eq_true c)]
            rcases c with c | c | c | c
            · rw [if_pos c]; omega
            · rw [if_pos c]; omega
            · rw [if_pos c]; omega
            · rw [if_pos c]; omega
          · rw [ig_f (fun q => c (decide_eq_true_iff.mp q))]; omega)
        rw [su_add, su_add, su_add, su_one 11 (hg.lt e1).1, su_one 11 (hg.lt e1).2, su_one 11 (hg.lt e2).2, su_one 11 (hg.lt e3).2] at h1
        exact h1
      have he := en_le hg hS
      have : (ns (fun b => decide (b = t ∨ b = x ∨ b = y ∨ b = w)) - 1) * ns (fun b => decide (b = t ∨ b = x ∨ b = y ∨ b = w)) ≤ 3 * 4 := Nat.mul_le_mul (by omega) hn
      exact hm.2.1 (five_few hg hS (by omega) (by omega))
  rcases Nt t2 (hg.sy f1) with z | z | z
  · subst z
    exact core t2 y exy e1 e2 hwx hwy Nt f2 ht2
  · subst z
    exact core t2 x (hg.sy exy) e2 e1 hwy hwx (fun b e => by
      rcases Nt b e with q | q | q
      · exact Or.inr (Or.inl q)
      · exact Or.inl q
      · exact Or.inr (Or.inr q)) f2 ht2
  · rw [z] at f2; exact hg.ne f2 rfl
theorem Mm.k2 {g : Nat → Nat → Bool} (hm : Mm g) {x y : Nat} (e : g x y = true) (good : ∀ t, g t x = true → g t y = true → 3 < dg g t) : K2 g (fun v => Sup g v ∧ v ≠ x ∧ v ≠ y) := by
  have hg := hm.1
  obtain ⟨hx, hy⟩ := hg.lt e
  have hxy := hg.ne e
  intro w P ha hb
  obtain ⟨a, ⟨a1, a2, a3⟩, a4, a5⟩ := ha
  obtain ⟨b, ⟨b1, b2, b3⟩, b4, b5⟩ := hb
  apply Classical.byContradiction
  intro hno
  have noe : ∀ u v, u ≠ x → u ≠ y → u ≠ w → v ≠ x → v ≠ y → v ≠ w → P u → ¬ P v → g u v = true → False := fun u v u1 u2 u3 v1 v2 v3 pu pv q => hno ⟨u, v, ⟨⟨v, q⟩, u1, u2⟩, ⟨⟨u, hg.sy q⟩, v1, v2⟩, u3, v3, pu, pv, q⟩
  by_cases cw : w = x ∨ w = y
  · have a13 := a1.lt hg
    have b13 := b1.lt hg
    refine hm.c2 hx hy hxy ⟨P, ⟨a, a1, fun z => ?_, a5⟩, ⟨b, b1, fun z => ?_, b5⟩, fun u v hu hv pu pv q => ?_⟩
    · rcases z with z | z | z
      · exact a2 z
      · exact a3 z
      · omega
    · rcases z with z | z | z
      · exact b2 z
      · exact b3 z
      · omega
    · have u1 : u ≠ x := fun z => hu (Or.inl z)
      have u2 : u ≠ y := fun z => hu (Or.inr (Or.inl z))
      have v1 : v ≠ x := fun z => hv (Or.inl z)
      have v2 : v ≠ y := fun z => hv (Or.inr (Or.inl z))
      exact noe u v u1 u2 (fun z => cw.elim (fun y => u1 (z.trans y)) (fun y => u2 (z.trans y))) v1 v2 (fun z => cw.elim (fun y => v1 (z.trans y)) (fun y => v2 (z.trans y))) pu pv q
  · have cx : w ≠ x := fun z => cw (Or.inl z)
    have cy : w ≠ y := fun z => cw (Or.inr z)
    refine hm.c3 hx hy hxy cx cy (fun t ht hs => ?_) ⟨P, ⟨a, a1, fun z => ?_, a5⟩, ⟨b, b1, fun z => ?_, b5⟩, fun u v hu hv pu pv q => ?_⟩
    · apply Classical.byContradiction
      intro h
      have Nt : ∀ b, g t b = true → b = x ∨ b = y ∨ b = w := fun b q => by
        apply Classical.byContradiction
        intro z
        exact h ⟨b, q, z⟩
      obtain ⟨b0, eb⟩ := ht
      have h3 := hm.2.2.2.2 t b0 eb
      have gx : g t x = true := by
        apply Classical.byContradiction
        intro z
        have := dg_two (g := g) (a := t) (p := y) (q := w) (fun b q => (Nt b q).resolve_left (fun y => z (by rw [← y]; exact q)))
        omega
      have gy : g t y = true := by
        apply Classical.byContradiction
        intro z
        have := dg_two (g := g) (a := t) (p := x) (q := w) (fun b q => by
          rcases Nt b q with y | y | y
          · exact Or.inl y
          · exact absurd (by rw [← y]; exact q) z
          · exact Or.inr y)
        omega
      have := good t gx gy
      have h1 : dg g t ≤ su (fun b => ((if b = x then 1 else 0) + (if b = y then 1 else 0)) + (if b = w then 1 else 0)) 11 := su_mono 11 (fun b _ => by
        by_cases c : g t b = true
        · rw [ig_t c]
          rcases Nt b c with z | z | z
          · rw [if_pos z]; omega
          · rw [if_pos z]; omega
          · rw [if_pos z]; omega
        · rw [ig_f c]; omega)
      rw [su_add, su_add, su_one 11 hx, su_one 11 hy] at h1
      have e3 : su (fun b => if b = w then 1 else 0) 11 ≤ 1 := by
        by_cases c : w < 11
        · rw [su_one 11 c]; exact Nat.le_refl _
        · rw [su_zero 11 (fun i hi => if_neg (by omega))]; exact Nat.zero_le _
      omega
    · rcases z with z | z | z
      · exact a2 z
      · exact a3 z
      · exact a4 z
    · rcases z with z | z | z
      · exact b2 z
      · exact b3 z
      · exact b4 z
    · exact noe u v (fun z => hu (Or.inl z)) (fun z => hu (Or.inr (Or.inl z))) (fun z => hu (Or.inr (Or.inr z))) (fun z => hv (Or.inl z)) (fun z => hv (Or.inr (Or.inl z))) (fun z => hv (Or.inr (Or.inr z))) pu pv q
