def cr (g : Nat → Nat → Bool) (a : Nat) : Prop := 3 ≤ dg g a
def Pwy (g : Nat → Nat → Bool) (s v : Nat) : Prop := ∀ P : Nat → Prop, (∀ b, g s b = true → P b) → (∀ a b, P a → ¬ cr g a → g a b = true → P b) → P v
def Kp (g : Nat → Nat → Bool) : Prop := (∀ T : Nat → Bool, (∀ b, b < 11 → (T b = true ↔ cr g b)) → ns T = 5) ∨ ∀ a, cr g a → ∀ T : Nat → Bool, (∀ b, b < 11 → (T b = true ↔ cr g b ∧ ¬ (b ≠ a ∧ Pwy g a b))) → ns T = 3
theorem dg_pos {g : Nat → Nat → Bool} {a : Nat} (h : 0 < dg g a) : ∃ b, g a b = true := by
  obtain ⟨b, _, hp⟩ := su_pos 11 (show 0 < su (fun i => ig (g a i)) 11 from h)
  exact ⟨b, Classical.byContradiction (fun z => by
    have hp : 0 < ig (g a b) := hp
    rw [ig_f z] at hp; omega)⟩
theorem ns_three {T : Nat → Bool} {p q r : Nat} (hp : p < 11) (hq : q < 11) (hr : r < 11) (n1 : p ≠ q) (n2 : p ≠ r) (n3 : q ≠ r) (h : ∀ i, i < 11 → (T i = true ↔ i = p ∨ i = q ∨ i = r)) : ns T = 3 := by
  have d1 := ns_wo (S := T) hp ((h p hp).mpr (Or.inl rfl))
  have d2 := ns_wo (S := wo T p) hq (wo_iff.mpr ⟨(h q hq).mpr (Or.inr (Or.inl rfl)), Ne.symm n1⟩)
  have d3 := ns_wo (S := wo (wo T p) q) hr (wo_iff.mpr ⟨wo_iff.mpr ⟨(h r hr).mpr (Or.inr (Or.inr rfl)), Ne.symm n2⟩, Ne.symm n3⟩)
  have d4 : ns (wo (wo (wo T p) q) r) = 0 := su_zero 11 (fun i hi => ig_f (fun z => by
    obtain ⟨z1, z2⟩ := wo_iff.mp z
    obtain ⟨z3, z4⟩ := wo_iff.mp z1
    obtain ⟨z5, z6⟩ := wo_iff.mp z3
    rcases (h i hi).mp z5 with y | y | y
    · exact z6 y
    · exact z4 y
    · exact z2 y))
  omega
theorem ns_five {T : Nat → Bool} {p q r s t : Nat} (hp : p < 11) (hq : q < 11) (hr : r < 11) (hs : s < 11) (ht : t < 11) (n : p ≠ q ∧ p ≠ r ∧ p ≠ s ∧ p ≠ t ∧ q ≠ r ∧ q ≠ s ∧ q ≠ t ∧ r ≠ s ∧ r ≠ t ∧ s ≠ t) (h : ∀ i, i < 11 → (T i = true ↔ i = p ∨ i = q ∨ i = r ∨ i = s ∨ i = t)) : ns T = 5 := by
  obtain ⟨n1, n2, n3, n4, n5, n6, n7, n8, n9, n10⟩ := n
  have d1 := ns_wo (S := T) hp ((h p hp).mpr (Or.inl rfl))
  have d2 := ns_wo (S := wo T p) hq (wo_iff.mpr ⟨(h q hq).mpr (Or.inr (Or.inl rfl)), Ne.symm n1⟩)
  have d3 := ns_three (T := wo (wo T p) q) hr hs ht n8 n9 n10 (fun i hi => by
    rw [wo_iff, wo_iff, h i hi]
    constructor
    · rintro ⟨⟨z1, z2⟩, z3⟩
      rcases z1 with z | z | z
      · exact absurd z z2
      · exact absurd z z3
      · exact z
    · intro z
      refine ⟨⟨Or.inr (Or.inr z), fun y => ?_⟩, fun y => ?_⟩
      · rcases z with z | z | z
        · exact n2 (y.symm.trans z)
        · exact n3 (y.symm.trans z)
        · exact n4 (y.symm.trans z)
      · rcases z with z | z | z
        · exact n5 (y.symm.trans z)
        · exact n6 (y.symm.trans z)
        · exact n7 (y.symm.trans z))
  omega
theorem I5.kp {g : Nat → Nat → Bool} (hg : Gb g) (h3 : ∀ a b, g a b = true → 3 ≤ dg g a) (h : I5 g) : Kp g := by
  obtain ⟨p, q, r, s, t, hn, ⟨e1, e2, e3, e4, e5, e6, e7, e8, e9, e10⟩, hin⟩ := h
  refine Or.inl (fun T hT => ns_five (hg.lt e1).1 (hg.lt e1).2 (hg.lt e2).2 (hg.lt e3).2 (hg.lt e4).2 hn (fun i hi => ?_))
  rw [hT i hi]
  constructor
  · intro hc
    obtain ⟨b, eb⟩ := dg_pos (g := g) (a := i) (by unfold cr at hc; omega)
    exact hin i b eb
  · intro z
    rcases z with z | z | z | z | z
    · rw [z]; exact h3 p q e1
    · rw [z]; exact h3 q p (hg.sy e1)
    · rw [z]; exact h3 r p (hg.sy e2)
    · rw [z]; exact h3 s p (hg.sy e3)
    · rw [z]; exact h3 t p (hg.sy e4)
theorem kp33 {g : Nat → Nat → Bool} (hg : Gb g) (h3 : ∀ a b, g a b = true → 3 ≤ dg g a) {x1 x2 x3 y1 y2 y3 : Nat} (n : x1 ≠ x2 ∧ x1 ≠ x3 ∧ x2 ≠ x3) (hxy : ∀ i j, (i = x1 ∨ i = x2 ∨ i = x3) → (j = y1 ∨ j = y2 ∨ j = y3) → g i j = true) (hin : ∀ u v, g u v = true → ((u = x1 ∨ u = x2 ∨ u = x3) ∧ (v = y1 ∨ v = y2 ∨ v = y3)) ∨ ((u = y1 ∨ u = y2 ∨ u = y3) ∧ (v = x1 ∨ v = x2 ∨ v = x3))) {a : Nat} (ha : a = x1 ∨ a = x2 ∨ a = x3) (T : Nat → Bool) (hT : ∀ b, b < 11 → (T b = true ↔ cr g b ∧ ¬ (b ≠ a ∧ Pwy g a b))) : ns T = 3 := by
  have hP : ∀ b, Pwy g a b ↔ g a b = true := fun b => by
    constructor
    · intro h
      exact h (fun x => g a x = true) (fun x z => z) (fun x y z1 z2 _ => absurd (h3 x a (hg.sy z1)) z2)
    · intro h P h1 _; exact h1 b h
  have dis : ∀ i, (i = x1 ∨ i = x2 ∨ i = x3) → (i = y1 ∨ i = y2 ∨ i = y3) → False := fun i h1 h2 => hg.ne (hxy i i h1 h2) rfl
  have lx : ∀ i, (i = x1 ∨ i = x2 ∨ i = x3) → i < 11 := fun i hi => (hg.lt (hxy i y1 hi (Or.inl rfl))).1
  refine ns_three (lx x1 (Or.inl rfl)) (lx x2 (Or.inr (Or.inl rfl))) (lx x3 (Or.inr (Or.inr rfl))) n.1 n.2.1 n.2.2 (fun i hi => ?_)
  rw [hT i hi, hP i]
  constructor
  · rintro ⟨h1, h2⟩
    obtain ⟨b, eb⟩ := dg_pos (g := g) (a := i) (by unfold cr at h1; omega)
    rcases hin i b eb with z | z
    · exact z.1
    · exact absurd ⟨fun y => dis a ha (by rw [← y]; exact z.1), hxy a i ha z.1⟩ h2
  · intro hi2
    refine ⟨h3 i y1 (hxy i y1 hi2 (Or.inl rfl)), fun z => ?_⟩
    rcases hin a i z.2 with y | y
    · exact dis i hi2 y.2
    · exact dis a ha y.1
theorem I33.kp {g : Nat → Nat → Bool} (hg : Gb g) (h3 : ∀ a b, g a b = true → 3 ≤ dg g a) (h : I33 g) : Kp g := by
  obtain ⟨a1, a2, a3, b1, b2, b3, ⟨n1, n2, n3, m1, m2, m3⟩, hed, hin⟩ := h
  have hxy : ∀ i j, (i = a1 ∨ i = a2 ∨ i = a3) → (j = b1 ∨ j = b2 ∨ j = b3) → g i j = true := fun i j hi hj => by
    obtain ⟨z1, z2, z3⟩ := hed i hi
    rcases hj with hj | hj | hj
    · rw [hj]; exact z1
    · rw [hj]; exact z2
    · rw [hj]; exact z3
  refine Or.inr (fun a ha T hT => ?_)
  obtain ⟨b, eb⟩ := dg_pos (g := g) (a := a) (by unfold cr at ha; omega)
  rcases hin a b eb with z | z
  · exact kp33 hg h3 ⟨n1, n2, n3⟩ hxy hin z.1 T hT
  · exact kp33 hg h3 ⟨m1, m2, m3⟩ (fun i j hi hj => hg.sy (hxy j i hj hi)) (fun u v e => (hin u v e).symm) z.1 T hT
theorem ctr_v {g : Nat → Nat → Bool} (hg : Gb g) {u v x : Nat} (huv : u ≠ v) : ¬ ctr g u v v x = true := fun h => by
  rcases ctr_iff.mp h with k | ⟨k1, _⟩ | ⟨_, k2⟩
  · exact k.2.1 rfl
  · exact huv k1.symm
  · exact hg.ne (tt_iff.mp k2).1 rfl
theorem Kp.up {g : Nat → Nat → Bool} (hg : Gb g) {a p q : Nat} (ep : g a p = true) (eq : g a q = true) (hpq : p ≠ q) (hN : ∀ b, g a b = true → b = p ∨ b = q) (hno : ¬ g p q = true) (h2 : dg g a = 2) (h : Kp (ctr g p a)) : Kp g := by
  have e := hg.sy ep
  have hpa := hg.ne e
  have hqa := Ne.symm (hg.ne eq)
  have hc : ∀ c, g p c = true → g a c = true → False := fun c h1 h2 => by
    rcases hN c h2 with z | z
    · rw [z] at h1; exact hg.ne h1 rfl
    · rw [z] at h1; exact hno h1
  have hg' : Gb (ctr g p a) := hg.ctr (hg.lt e).1
  have hcr : ∀ b, cr (ctr g p a) b ↔ cr g b := fun b => by
    unfold cr
    by_cases c1 : b = p
    · have := dg_con_u hg e hc
      rw [c1]; omega
    · by_cases c2 : b = a
      · have z : dg (ctr g p a) a = 0 := su_zero 11 (fun i _ => ig_f (ctr_v hg hpa))
        rw [c2]; omega
      · rw [dg_con hg e hc c1 c2]
  have hna : ¬ cr g a := by unfold cr; omega
  have epq : ctr g p a p q = true := ctr_nb hpa eq (Ne.symm hpq) hqa
  have inv : ∀ x y, ctr g p a x y = true → (g x y = true ∧ x ≠ a ∧ y ≠ a) ∨ (x = p ∧ y = q) ∨ (x = q ∧ y = p) := fun x y h => by
    rcases ctr_iff.mp h with k | ⟨k1, k2⟩ | ⟨k1, k2⟩
    · exact Or.inl k
    · obtain ⟨l1, l2, l3⟩ := tt_iff.mp k2
      exact Or.inr (Or.inl ⟨k1, (hN y l1).resolve_left l3⟩)
    · obtain ⟨l1, l2, l3⟩ := tt_iff.mp k2
      exact Or.inr (Or.inr ⟨(hN x l1).resolve_left l3, k1⟩)
  have hP : ∀ s v, cr g s → cr g v → v ≠ s → (Pwy (ctr g p a) s v ↔ Pwy g s v) := fun s v hs hv hvs => by
    have sa : s ≠ a := fun z => hna (by rw [← z]; exact hs)
    have va : v ≠ a := fun z => hna (by rw [← z]; exact hv)
    constructor
    · intro h P h1 h2'
      refine h P (fun b k => ?_) (fun x y px nx k => ?_)
      · rcases inv s b k with z | ⟨z1, z2⟩ | ⟨z1, z2⟩
        · exact h1 b z.1
        · rw [z2]; exact h2' a q (h1 a (by rw [z1]; exact e)) hna eq
        · rw [z2]; exact h2' a p (h1 a (by rw [z1]; exact hg.sy eq)) hna ep
      · have nx' : ¬ cr g x := fun z => nx ((hcr x).mpr z)
        rcases inv x y k with z | ⟨z1, z2⟩ | ⟨z1, z2⟩
        · exact h2' x y px nx' z.1
        · rw [z1] at px nx'
          rw [z2]; exact h2' a q (h2' p a px nx' e) hna eq
        · rw [z1] at px nx'
          rw [z2]; exact h2' a p (h2' q a px nx' (hg.sy eq)) hna ep
    · intro h P h1 h2'
      have step : ∀ x y, P x → ¬ cr g x → x ≠ a → y ≠ a → g x y = true → P y := fun x y px nx xa ya k => h2' x y px (fun z => nx ((hcr x).mp z)) (ctr_of k xa ya)
      have toq : (s = p ∨ (P p ∧ ¬ cr g p)) → P q := fun z => by
        rcases z with z | z
        · exact h1 q (by rw [z]; exact epq)
        · exact h2' p q z.1 (fun y => z.2 ((hcr p).mp y)) epq
      have top : (s = q ∨ (P q ∧ ¬ cr g q)) → P p := fun z => by
        rcases z with z | z
        · exact h1 p (by rw [z]; exact hg'.sy epq)
        · exact h2' q p z.1 (fun y => z.2 ((hcr q).mp y)) (hg'.sy epq)
      have := h (fun x => x = s ∨ (x = a ∧ ((s = p ∨ (P p ∧ ¬ cr g p)) ∨ (s = q ∨ (P q ∧ ¬ cr g q)))) ∨ (x ≠ a ∧ P x)) (fun b k => ?_) (fun x y px nx k => ?_)
      · rcases this with z | z | z
        · exact absurd z hvs
        · exact absurd z.1 va
        · exact z.2
      · by_cases ba : b = a
        · rw [ba] at k
          refine Or.inr (Or.inl ⟨ba, ?_⟩)
          rcases hN s (hg.sy k) with z | z
          · exact Or.inl (Or.inl z)
          · exact Or.inr (Or.inl z)
        · exact Or.inr (Or.inr ⟨ba, h1 b (ctr_of k sa ba)⟩)
      · rcases px with px | ⟨px, A⟩ | ⟨xa, px⟩
        · rw [px] at nx; exact absurd hs nx
        · rw [px] at k
          rcases hN y k with z | z
          · rw [z]
            rcases A with (A | A) | A
            · exact Or.inl A.symm
            · exact Or.inr (Or.inr ⟨hpa, A.1⟩)
            · exact Or.inr (Or.inr ⟨hpa, top A⟩)
          · rw [z]
            rcases A with A | (A | A)
            · exact Or.inr (Or.inr ⟨hqa, toq A⟩)
            · exact Or.inl A.symm
            · exact Or.inr (Or.inr ⟨hqa, A.1⟩)
        · by_cases ya : y = a
          · rw [ya] at k
            refine Or.inr (Or.inl ⟨ya, ?_⟩)
            rcases hN x (hg.sy k) with z | z
            · rw [z] at px nx; exact Or.inl (Or.inr ⟨px, nx⟩)
            · rw [z] at px nx; exact Or.inr (Or.inr ⟨px, nx⟩)
          · exact Or.inr (Or.inr ⟨ya, step x y px nx xa ya k⟩)
  rcases h with h | h
  · exact Or.inl (fun T hT => h T (fun b hb => (hT b hb).trans (hcr b).symm))
  · refine Or.inr (fun s hs T hT => h s ((hcr s).mpr hs) T (fun b hb => (hT b hb).trans ?_))
    rw [hcr b]
    constructor
    · rintro ⟨k1, k2⟩
      exact ⟨k1, fun z => k2 ⟨z.1, (hP s b hs k1 z.1).mp z.2⟩⟩
    · rintro ⟨k1, k2⟩
      exact ⟨k1, fun z => k2 ⟨z.1, (hP s b hs k1 z.1).mpr z.2⟩⟩
theorem Mn.kp : ∀ (N : Nat) (g : Nat → Nat → Bool), en g ≤ N → Mn g → Kp g := by
  intro N
  induction N with
  | zero =>
    intro g hN hm
    exact (hm.2.1 (few _ (fun _ => true) g hm.1 (fun _ _ _ => rfl) rfl (by omega))).elim
  | succ N ih =>
    intro g hN hm
    have hg := hm.1
    by_cases hlow : ∃ a b, g a b = true ∧ dg g a < 3
    · obtain ⟨a, b, eab, hlt⟩ := hlow
      obtain ⟨L, hL1, hL2, hL3, _⟩ := nb_list g a
      have hdel : ∀ x, g a x = true → ∀ b c, b ≠ a → c ≠ a → gd g b c → gd (del g a x) b c := fun x _ b c h1 h2 h3 => del_iff.mpr ⟨h3, fun z => h1 z.1, fun z => h2 z.2⟩
      rcases L with _ | ⟨p, _ | ⟨q, _ | ⟨r, L⟩⟩⟩
      · exact absurd ((hL2 b).mpr ⟨(hg.lt eab).2, eab⟩) (by simp)
      · exfalso
        have hp := (hL2 p).mp (by simp)
        refine hm.2.1 (ZZ.path (ad := gd g) (H := gd (del g a p)) (a := a) (p := p) (q := a + p + 1) (fun b c q => hg.sy q) (hg.ne hp.2) (by omega) (by omega) (fun w hw => Or.inl ?_) (fun b q => hg.ne q rfl) (hm.2.2 a p hp.2) (hdel p hp.2) (fun q => ?_))
        · have := (hL2 w).mpr ⟨(hg.lt hw).2, hw⟩
          simpa using this
        · have := (hL2 (a + p + 1)).mpr ⟨(hg.lt q).2, q⟩
          have : a + p + 1 = p := by simpa using this
          omega
      · have hp := (hL2 p).mp (by simp)
        have hq := (hL2 q).mp (by simp)
        have hpq : p ≠ q := by
          have : p < q := by simpa using hL3
          omega
        have hd2 : dg g a = 2 := by rw [← hL1]; rfl
        have hN2 : ∀ w, g a w = true → w = p ∨ w = q := fun w hw => by
          have := (hL2 w).mpr ⟨(hg.lt hw).2, hw⟩
          simpa using this
        have hap := hg.ne hp.2
        have haq := hg.ne hq.2
        have hno : ¬ g p q = true := fun z => hm.2.1 (ZZ.path (ad := gd g) (H := gd (del g a p)) (a := a) (p := p) (q := q) (fun b c q => hg.sy q) hap haq hpq hN2 (fun b q => hg.ne q rfl) (hm.2.2 a p hp.2) (hdel p hp.2) (fun _ => del_iff.mpr ⟨z, fun y => hap y.1.symm, fun y => haq y.2.symm⟩))
        have e := hg.sy hp.2
        have hn : ¬ ZZ (gd (ctr g p a)) := fun z => hm.2.1 (ZZ.path (ad := gd g) (H := gd (ctr g p a)) (a := a) (p := p) (q := q) (fun b c q => hg.sy q) hap haq hpq hN2 (fun b q => hg.ne q rfl) z (fun b c h1 h2 h3 => ctr_of h3 h1 h2) (fun k => ctr_nb (Ne.symm hap) k (Ne.symm hpq) (Ne.symm haq)))
        have hen := en_ctr hg e
        exact Kp.up hg hp.2 hq.2 hpq hN2 hno hd2 (ih (ctr g p a) (by omega) (hm.con e hn))
      · have : L.length + 1 + 1 + 1 = dg g a := by rw [← hL1]; rfl
        omega
    · have h3 : ∀ a b, g a b = true → 3 ≤ dg g a := fun a b e => Classical.byContradiction (fun z => hlow ⟨a, b, e, by omega⟩)
      rcases Mn.kur (en g) g (Nat.le_refl _) hm h3 with h | h
      · exact h.kp hg h3
      · exact h.kp hg h3
