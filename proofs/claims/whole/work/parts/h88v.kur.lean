theorem colS {g : Nat → Nat → Bool} (hg : Gb g) (hz : ZZ (gd g)) {B : Nat → Prop} (hlt : ∀ a, B a → a < 11) {c : Nat} (hc : B c) (cB : Cd g B) : ∃ g', Gb g' ∧ ZZ (gd g') ∧ (∀ A A' : Nat → Prop, (∀ a, A a → ¬ B a) → (∀ a, A' a → ¬ B a) → Adj g A A' → Adj g' A A') ∧ (∀ A : Nat → Prop, (∀ a, A a → ¬ B a) → Adj g B A → Adj g' (fun a => a = c) A) ∧ ∀ A : Nat → Prop, (∀ a, A a → ¬ B a) → Cd g A → Cd g' A := by
  obtain ⟨g', q1, q2, q3, q4⟩ := colP hg hz hlt hc cB
  refine ⟨g', q1, q2, fun A A' h1 h2 h => ?_, fun A h1 h => ?_, fun A h1 h p q hp hq => ?_⟩
  · obtain ⟨a, b, ha, hb, e⟩ := h
    exact ⟨a, b, ha, hb, q3 a b (h1 a ha) (h2 b hb) e⟩
  · obtain ⟨a, b, ha, hb, e⟩ := h
    exact ⟨c, b, rfl, hb, q4 a b ha (h1 b hb) e⟩
  · exact Rc.mono (fun _ z => z) hp (fun a b ha hb e => q3 a b (h1 a ha) (h1 b hb) e) (h p q hp hq)
theorem adj1 {g : Nat → Nat → Bool} {x y : Nat} (h : Adj g (fun a => a = x) (fun a => a = y)) : g x y = true := by
  obtain ⟨a, b, ha, hb, e⟩ := h
  have ha : a = x := ha
  have hb : b = y := hb
  rw [ha, hb] at e; exact e
theorem adj2 {g : Nat → Nat → Bool} {x y : Nat} (h : g x y = true) : Adj g (fun a => a = x) (fun a => a = y) := ⟨x, y, rfl, rfl, h⟩
def KS (g : Nat → Nat → Bool) (x y c c' d d' : Nat) (C C' D D' : Nat → Prop) : Prop := QS g (fun v => v < 11 ∧ v ≠ x ∧ v ≠ y) c c' d d' C C' D D' ∧ x ≠ y ∧ g x y = true ∧ (g x c = true ∧ g x c' = true) ∧ g y d = true ∧ g y d' = true
theorem KS.s1 {g : Nat → Nat → Bool} {x y c c' d d' : Nat} {C C' D D' : Nat → Prop} (h : KS g x y c c' d d' C C' D D') : KS g x y c' c d d' C' C D D' := by
  obtain ⟨⟨⟨v1, v2, v3, v4⟩, ⟨m1, m2, m3, m4⟩, ⟨k1, k2, k3, k4⟩, j1, j2, j3, j4⟩, hxy, e1, ⟨e2, e3⟩, e4, e5⟩ := h
  refine ⟨⟨⟨fun a z => v1 a ?_, fun a z => ⟨fun y => (v2 a y).1 z, v3 a z⟩, fun a z => (v2 a z).2, v4⟩, ⟨m2, m1, m3, m4⟩, ⟨k2, k1, k3, k4⟩, j3, j4, j1, j2⟩, hxy, e1, ⟨e3, e2⟩, e4, e5⟩
  rcases z with z | z | z
  · exact Or.inr (Or.inl z)
  · exact Or.inl z
  · exact Or.inr (Or.inr z)
theorem KS.s2 {g : Nat → Nat → Bool} (hg : Gb g) {x y c c' d d' : Nat} {C C' D D' : Nat → Prop} (h : KS g x y c c' d d' C C' D D') : KS g y x d d' c c' D D' C C' := by
  obtain ⟨⟨⟨v1, v2, v3, v4⟩, ⟨m1, m2, m3, m4⟩, ⟨k1, k2, k3, k4⟩, j1, j2, j3, j4⟩, hxy, e1, ⟨e2, e3⟩, e4, e5⟩ := h
  refine ⟨⟨⟨fun a z => ?_, fun a z => ⟨v4 a z, fun y => (v2 a y).2.1 z, fun y => (v3 a y).1 z⟩, fun a z => ⟨fun y => (v2 a y).2.2 z, fun y => (v3 a y).2 z⟩, fun a z => (v2 a z).1⟩, ⟨m3, m4, m1, m2⟩, ⟨k3, k4, k1, k2⟩, j1.sy hg, j3.sy hg, j2.sy hg, j4.sy hg⟩, Ne.symm hxy, hg.sy e1, ⟨e4, e5⟩, e2, e3⟩
  have := v1 a (by
    rcases z with z | z | z | z
    · exact Or.inr (Or.inr (Or.inl z))
    · exact Or.inr (Or.inr (Or.inr z))
    · exact Or.inl z
    · exact Or.inr (Or.inl z))
  exact ⟨this.1, this.2.2, this.2.1⟩
theorem KS.nz {g : Nat → Nat → Bool} (hg : Gb g) (hz : ZZ (gd g)) {x y c c' d d' : Nat} {C C' D D' : Nat → Prop} (h : KS g x y c c' d d' C C' D D') : False := by
  obtain ⟨⟨⟨v1, v2, v3, v4⟩, ⟨m1, m2, m3, m4⟩, ⟨k1, k2, k3, k4⟩, j1, j2, j3, j4⟩, hxy, e1, ⟨e2, e3⟩, e4, e5⟩ := h
  have VC := fun a (z : C a) => v1 a (Or.inl z)
  have VC' := fun a (z : C' a) => v1 a (Or.inr (Or.inl z))
  have VD := fun a (z : D a) => v1 a (Or.inr (Or.inr (Or.inl z)))
  have VD' := fun a (z : D' a) => v1 a (Or.inr (Or.inr (Or.inr z)))
  have sx : ∀ {B : Nat → Prop}, (∀ a, B a → a < 11 ∧ a ≠ x ∧ a ≠ y) → ∀ a, a = x → ¬ B a := fun hB a z w => (hB a w).2.1 z
  have sy : ∀ {B : Nat → Prop}, (∀ a, B a → a < 11 ∧ a ≠ x ∧ a ≠ y) → ∀ a, a = y → ¬ B a := fun hB a z w => (hB a w).2.2 z
  have s1 : ∀ {B : Nat → Prop} {p : Nat}, ¬ B p → ∀ a, a = p → ¬ B a := fun hB a z w => hB (by rw [← z]; exact w)
  obtain ⟨g1, h1, z1, A1, B1, C1⟩ := colS hg hz (fun a z => (VC a z).1) m1 k1
  have p1 := A1 _ _ (sx VC) (sy VC) (adj2 e1)
  have p2 := B1 _ (sx VC) ⟨c, x, m1, rfl, hg.sy e2⟩
  have p3 := A1 _ C' (sx VC) (fun a z w => (v2 a w).1 z) ⟨x, c', rfl, m2, e3⟩
  have p4 := A1 _ D (sy VC) (fun a z w => (v2 a w).2.1 z) ⟨y, d, rfl, m3, e4⟩
  have p5 := A1 _ D' (sy VC) (fun a z w => (v2 a w).2.2 z) ⟨y, d', rfl, m4, e5⟩
  have p6 := B1 D (fun a z w => (v2 a w).2.1 z) j1
  have p7 := B1 D' (fun a z w => (v2 a w).2.2 z) j2
  have p8 := A1 C' D (fun a z w => (v2 a w).1 z) (fun a z w => (v2 a w).2.1 z) j3
  have p9 := A1 C' D' (fun a z w => (v2 a w).1 z) (fun a z w => (v2 a w).2.2 z) j4
  have c1' := C1 C' (fun a z w => (v2 a w).1 z) k2
  have c1d := C1 D (fun a z w => (v2 a w).2.1 z) k3
  have c1d' := C1 D' (fun a z w => (v2 a w).2.2 z) k4
  have nc : ¬ C' c := (v2 c m1).1
  obtain ⟨g2, h2, z2, A2, B2, C2⟩ := colS h1 z1 (fun a z => (VC' a z).1) m2 c1'
  have q1 := A2 _ _ (sx VC') (sy VC') p1
  have q2 := A2 _ _ (s1 nc) (sx VC') p2
  have q3 := B2 _ (sx VC') (p3.sy h1)
  have q4 := A2 _ D (sy VC') (fun a z w => (v3 a w).1 z) p4
  have q5 := A2 _ D' (sy VC') (fun a z w => (v3 a w).2 z) p5
  have q6 := A2 _ D (s1 nc) (fun a z w => (v3 a w).1 z) p6
  have q7 := A2 _ D' (s1 nc) (fun a z w => (v3 a w).2 z) p7
  have q8 := B2 D (fun a z w => (v3 a w).1 z) p8
  have q9 := B2 D' (fun a z w => (v3 a w).2 z) p9
  have c2d := C2 D (fun a z w => (v3 a w).1 z) c1d
  have c2d' := C2 D' (fun a z w => (v3 a w).2 z) c1d'
  have ncd : ¬ D c := (v2 c m1).2.1
  have nc'd : ¬ D c' := (v3 c' m2).1
  obtain ⟨g3, h3, z3, A3, B3, C3⟩ := colS h2 z2 (fun a z => (VD a z).1) m3 c2d
  have r1 := A3 _ _ (sx VD) (sy VD) q1
  have r2 := A3 _ _ (s1 ncd) (sx VD) q2
  have r3 := A3 _ _ (s1 nc'd) (sx VD) q3
  have r4 := B3 _ (sy VD) (q4.sy h2)
  have r5 := A3 _ D' (sy VD) (fun a z w => v4 a w z) q5
  have r6 := B3 _ (s1 ncd) (q6.sy h2)
  have r7 := A3 _ D' (s1 ncd) (fun a z w => v4 a w z) q7
  have r8 := B3 _ (s1 nc'd) (q8.sy h2)
  have r9 := A3 _ D' (s1 nc'd) (fun a z w => v4 a w z) q9
  have c3d' := C3 D' (fun a z w => v4 a w z) c2d'
  have ncd' : ¬ D' c := (v2 c m1).2.2
  have nc'd' : ¬ D' c' := (v3 c' m2).2
  have ndd' : ¬ D' d := v4 d m3
  obtain ⟨g4, h4, z4, A4, B4, C4⟩ := colS h3 z3 (fun a z => (VD' a z).1) m4 c3d'
  have t1 := adj1 (A4 _ _ (sx VD') (sy VD') r1)
  have t2 := adj1 (A4 _ _ (s1 ncd') (sx VD') r2)
  have t3 := adj1 (A4 _ _ (s1 nc'd') (sx VD') r3)
  have t4 := adj1 (A4 _ _ (s1 ndd') (sy VD') r4)
  have t5 := adj1 (B4 _ (sy VD') (r5.sy h3))
  have t6 := adj1 (A4 _ _ (s1 ndd') (s1 ncd') r6)
  have t7 := adj1 (B4 _ (s1 ncd') (r7.sy h3))
  have t8 := adj1 (A4 _ _ (s1 ndd') (s1 nc'd') r8)
  have t9 := adj1 (B4 _ (s1 nc'd') (r9.sy h3))
  have xd : x ≠ d := Ne.symm (VD d m3).2.1
  have xd' : x ≠ d' := Ne.symm (VD' d' m4).2.1
  have dd' : d ≠ d' := fun z => ndd' (by rw [z]; exact m4)
  have yc : y ≠ c := Ne.symm (VC c m1).2.2
  have yc' : y ≠ c' := Ne.symm (VC' c' m2).2.2
  have cc' : c ≠ c' := fun z => nc (by rw [z]; exact m2)
  have xc : x ≠ c := Ne.symm (VC c m1).2.1
  have xc' : x ≠ c' := Ne.symm (VC' c' m2).2.1
  have dy : d ≠ y := (VD d m3).2.2
  have d'y : d' ≠ y := (VD' d' m4).2.2
  have dc : d ≠ c := fun z => ncd (by rw [← z]; exact m3)
  have dc' : d ≠ c' := fun z => nc'd (by rw [← z]; exact m3)
  have d'c : d' ≠ c := fun z => ncd' (by rw [← z]; exact m4)
  have d'c' : d' ≠ c' := fun z => nc'd' (by rw [← z]; exact m4)
  exact no_K33 z4 (a := x) (b := d) (c := d') (p := y) (q := c) (r := c') t1 (h4.sy t2) (h4.sy t3) t4 t6 t8 t5 t7 t9 xd yc xd' yc' dd' cc' hxy xc xc' dy dc dc' d'y d'c d'c'
theorem KS.one {g : Nat → Nat → Bool} (hm : Mm g) {x y c c' d d' : Nat} {C C' D D' : Nat → Prop} (h : KS g x y c c' d d' C C' D D') (a : Nat) (ha : C a) : a = c := by
  have hg := hm.1
  apply Classical.byContradiction
  intro hac
  obtain ⟨⟨⟨v1, v2, v3, v4⟩, ⟨m1, m2, m3, m4⟩, ⟨k1, k2, k3, k4⟩, j1, j2, j3, j4⟩, hxy, e1, ⟨e2, e3⟩, e4, e5⟩ := h
  obtain ⟨v, hv, hvc, e⟩ := k1.nb m1 ha hac
  have hcv := hg.ne e
  have Vv := v1 v (Or.inl hv)
  have nv : ∀ {B : Nat → Prop}, (∀ a, C a → ¬ B a) → ∀ a, B a → a ≠ v := fun hB a hb z => hB v hv (by rw [← z]; exact hb)
  have nC' := nv (B := C') (fun a z => (v2 a z).1)
  have nD := nv (B := D) (fun a z => (v2 a z).2.1)
  have nD' := nv (B := D') (fun a z => (v2 a z).2.2)
  have keep : ∀ {B : Nat → Prop}, (∀ a, B a → a ≠ v) → Cd g B → Cd (ctr g c v) B := fun hB hC p q hp hq => Rc.mono (fun _ z => z) hp (fun a b ha hb e => ctr_of e (hB a ha) (hB b hb)) (hC p q hp hq)
  have adC : ∀ {B : Nat → Prop}, (∀ a, C a → ¬ B a) → Adj g C B → Adj (ctr g c v) (fun a => C a ∧ a ≠ v) B := fun {B} hB hJ => by
    obtain ⟨p, q, hp, hq, eq⟩ := hJ
    have hqv := nv hB q hq
    have hqc : q ≠ c := fun z => hB c m1 (by rw [← z]; exact hq)
    by_cases z : p = v
    · rw [z] at eq
      exact ⟨c, q, ⟨m1, hcv⟩, hq, ctr_nb hcv eq hqc hqv⟩
    · exact ⟨p, q, ⟨hp, z⟩, hq, ctr_of eq z hqv⟩
  have adk : ∀ {A B : Nat → Prop}, (∀ a, A a → a ≠ v) → (∀ a, B a → a ≠ v) → Adj g A B → Adj (ctr g c v) A B := fun hA hB hJ => by
    obtain ⟨p, q, hp, hq, eq⟩ := hJ
    exact ⟨p, q, hp, hq, ctr_of eq (hA p hp) (hB q hq)⟩
  refine KS.nz (g := ctr g c v) (hg.ctr (hg.lt e).1) (hm.2.2.2.1 c v e) (x := x) (y := y) (c := c) (c' := c') (d := d) (d' := d') (C := fun a => C a ∧ a ≠ v) (C' := C') (D := D) (D' := D') ⟨⟨⟨fun a z => v1 a (z.imp_left (fun w => w.1)), fun a z => v2 a z.1, v3, v4⟩, ⟨⟨m1, hcv⟩, m2, m3, m4⟩, ⟨k1.con hg m1 hv e, keep nC' k2, keep nD k3, keep nD' k4⟩, adC (fun a z => (v2 a z).2.1) j1, adC (fun a z => (v2 a z).2.2) j2, adk nC' nD j3, adk nC' nD' j4⟩, hxy, ctr_of e1 (Ne.symm Vv.2.1) (Ne.symm Vv.2.2), ⟨ctr_of e2 (Ne.symm Vv.2.1) hcv, ctr_of e3 (Ne.symm Vv.2.1) (nC' c' m2)⟩, ctr_of e4 (Ne.symm Vv.2.2) (nD d m3), ctr_of e5 (Ne.symm Vv.2.2) (nD' d' m4)⟩
def I33 (g : Nat → Nat → Bool) : Prop := ∃ a1 a2 a3 b1 b2 b3 : Nat, (a1 ≠ a2 ∧ a1 ≠ a3 ∧ a2 ≠ a3 ∧ b1 ≠ b2 ∧ b1 ≠ b3 ∧ b2 ≠ b3) ∧ (∀ i, (i = a1 ∨ i = a2 ∨ i = a3) → g i b1 = true ∧ g i b2 = true ∧ g i b3 = true) ∧ ∀ u v, g u v = true → ((u = a1 ∨ u = a2 ∨ u = a3) ∧ (v = b1 ∨ v = b2 ∨ v = b3)) ∨ ((u = b1 ∨ u = b2 ∨ u = b3) ∧ (v = a1 ∨ v = a2 ∨ v = a3))
theorem K33_all {g : Nat → Nat → Bool} (hg : Gb g) (hdel : ∀ u v, g u v = true → ZZ (gd (del g u v))) {a1 a2 a3 b1 b2 b3 : Nat} (n12 : a1 ≠ a2) (n13 : a1 ≠ a3) (n23 : a2 ≠ a3) (m12 : b1 ≠ b2) (m13 : b1 ≠ b3) (m23 : b2 ≠ b3) (h : ∀ i, (i = a1 ∨ i = a2 ∨ i = a3) → g i b1 = true ∧ g i b2 = true ∧ g i b3 = true) : I33 g := by
  refine ⟨a1, a2, a3, b1, b2, b3, ⟨n12, n13, n23, m12, m13, m23⟩, h, fun u v e => ?_⟩
  apply Classical.byContradiction
  intro hno
  have ee : ∀ i j, (i = a1 ∨ i = a2 ∨ i = a3) → (j = b1 ∨ j = b2 ∨ j = b3) → g i j = true → gd (del g u v) i j := fun i j hi hj eij => del_iff.mpr ⟨eij, fun z => hno (Or.inl ⟨by rw [← z.1]; exact hi, by rw [← z.2]; exact hj⟩), fun z => hno (Or.inr ⟨by rw [← z.2]; exact hj, by rw [← z.1]; exact hi⟩)⟩
  have A1 : a1 = a1 ∨ a1 = a2 ∨ a1 = a3 := Or.inl rfl
  have A2 : a2 = a1 ∨ a2 = a2 ∨ a2 = a3 := Or.inr (Or.inl rfl)
  have A3 : a3 = a1 ∨ a3 = a2 ∨ a3 = a3 := Or.inr (Or.inr rfl)
  have B1 : b1 = b1 ∨ b1 = b2 ∨ b1 = b3 := Or.inl rfl
  have B2 : b2 = b1 ∨ b2 = b2 ∨ b2 = b3 := Or.inr (Or.inl rfl)
  have B3 : b3 = b1 ∨ b3 = b2 ∨ b3 = b3 := Or.inr (Or.inr rfl)
  obtain ⟨x1, x2, x3⟩ := h a1 A1
  obtain ⟨y1, y2, y3⟩ := h a2 A2
  obtain ⟨z1, z2, z3⟩ := h a3 A3
  exact no_K33 (hdel u v e) (ee _ _ A1 B1 x1) (ee _ _ A1 B2 x2) (ee _ _ A1 B3 x3) (ee _ _ A2 B1 y1) (ee _ _ A2 B2 y2) (ee _ _ A2 B3 y3) (ee _ _ A3 B1 z1) (ee _ _ A3 B2 z2) (ee _ _ A3 B3 z3) n12 m12 n13 m13 n23 m23 (hg.ne x1) (hg.ne x2) (hg.ne x3) (hg.ne y1) (hg.ne y2) (hg.ne y3) (hg.ne z1) (hg.ne z2) (hg.ne z3)
theorem KS.fin {g : Nat → Nat → Bool} (hm : Mm g) {x y c c' d d' : Nat} {C C' D D' : Nat → Prop} (h : KS g x y c c' d d' C C' D D') : I33 g := by
  have hg := hm.1
  have o1 := KS.one hm h
  have o2 := KS.one hm h.s1
  have o3 := KS.one hm (h.s2 hg)
  have o4 := KS.one hm (h.s2 hg).s1
  obtain ⟨⟨⟨v1, v2, v3, v4⟩, ⟨m1, m2, m3, m4⟩, ⟨k1, k2, k3, k4⟩, j1, j2, j3, j4⟩, hxy, e1, ⟨e2, e3⟩, e4, e5⟩ := h
  have sg : ∀ {A B : Nat → Prop} {p q : Nat}, (∀ a, A a → a = p) → (∀ a, B a → a = q) → Adj g A B → g q p = true := fun hA hB hJ => by
    obtain ⟨a, b, ha, hb, e⟩ := hJ
    rw [hA a ha, hB b hb] at e; exact hg.sy e
  have dc := sg o1 o3 j1
  have d'c := sg o1 o4 j2
  have dc' := sg o2 o3 j3
  have d'c' := sg o2 o4 j4
  have VC := v1 c (Or.inl m1)
  have VC' := v1 c' (Or.inr (Or.inl m2))
  have VD := v1 d (Or.inr (Or.inr (Or.inl m3)))
  have VD' := v1 d' (Or.inr (Or.inr (Or.inr m4)))
  refine K33_all hg hm.2.2.1 (a1 := x) (a2 := d) (a3 := d') (b1 := y) (b2 := c) (b3 := c') (Ne.symm VD.2.1) (Ne.symm VD'.2.1) (fun z => v4 d m3 (by rw [z]; exact m4)) (Ne.symm VC.2.2) (Ne.symm VC'.2.2) (fun z => (v2 c m1).1 (by rw [z]; exact m2)) (fun i hi => ?_)
  rcases hi with hi | hi | hi
  · rw [hi]; exact ⟨e1, e2, e3⟩
  · rw [hi]; exact ⟨hg.sy e4, dc, dc'⟩
  · rw [hi]; exact ⟨hg.sy e5, d'c, d'c'⟩
def T5 (g : Nat → Nat → Bool) (x y c1 c2 c3 : Nat) (C1 C2 C3 : Nat → Prop) : Prop := Q3 g (fun v => v < 11 ∧ v ≠ x ∧ v ≠ y) c1 c2 c3 C1 C2 C3 ∧ x ≠ y ∧ g x y = true ∧ (g x c1 = true ∧ g x c2 = true ∧ g x c3 = true) ∧ g y c1 = true ∧ g y c2 = true ∧ g y c3 = true
theorem T5.rot {g : Nat → Nat → Bool} (hg : Gb g) {x y c1 c2 c3 : Nat} {C1 C2 C3 : Nat → Prop} (h : T5 g x y c1 c2 c3 C1 C2 C3) : T5 g x y c2 c3 c1 C2 C3 C1 := by
  obtain ⟨⟨⟨v1, v2, v3⟩, ⟨m1, m2, m3⟩, ⟨k1, k2, k3⟩, j1, j2, j3⟩, hxy, e1, ⟨e2, e3, e4⟩, e5, e6, e7⟩ := h
  refine ⟨⟨⟨fun a z => v1 a ?_, fun a z => ⟨v3 a z, fun w => (v2 a w).1 z⟩, fun a z w => (v2 a w).2 z⟩, ⟨m2, m3, m1⟩, ⟨k2, k3, k1⟩, j3, j1.sy hg, j2.sy hg⟩, hxy, e1, ⟨e3, e4, e2⟩, e6, e7, e5⟩
  rcases z with z | z | z
  · exact Or.inr (Or.inl z)
  · exact Or.inr (Or.inr z)
  · exact Or.inl z
theorem T5.nz {g : Nat → Nat → Bool} (hg : Gb g) (hz : ZZ (gd g)) {x y c1 c2 c3 : Nat} {C1 C2 C3 : Nat → Prop} (h : T5 g x y c1 c2 c3 C1 C2 C3) : False := by
  obtain ⟨⟨⟨v1, v2, v3⟩, ⟨m1, m2, m3⟩, ⟨k1, k2, k3⟩, j1, j2, j3⟩, hxy, e1, ⟨e2, e3, e4⟩, e5, e6, e7⟩ := h
  have V1 := fun a (z : C1 a) => v1 a (Or.inl z)
  have V2 := fun a (z : C2 a) => v1 a (Or.inr (Or.inl z))
  have V3 := fun a (z : C3 a) => v1 a (Or.inr (Or.inr z))
  have sx : ∀ {B : Nat → Prop}, (∀ a, B a → a < 11 ∧ a ≠ x ∧ a ≠ y) → ∀ a, a = x → ¬ B a := fun hB a z w => (hB a w).2.1 z
  have sy : ∀ {B : Nat → Prop}, (∀ a, B a → a < 11 ∧ a ≠ x ∧ a ≠ y) → ∀ a, a = y → ¬ B a := fun hB a z w => (hB a w).2.2 z
  have s1 : ∀ {B : Nat → Prop} {p : Nat}, ¬ B p → ∀ a, a = p → ¬ B a := fun hB a z w => hB (by rw [← z]; exact w)
  have d12 : ∀ a, C2 a → ¬ C1 a := fun a z w => (v2 a w).1 z
  have d13 : ∀ a, C3 a → ¬ C1 a := fun a z w => (v2 a w).2 z
  have d23 : ∀ a, C3 a → ¬ C2 a := fun a z w => v3 a w z
  obtain ⟨g1, h1, z1, A1, B1, D1⟩ := colS hg hz (fun a z => (V1 a z).1) m1 k1
  have p1 := A1 _ _ (sx V1) (sy V1) (adj2 e1)
  have p2 := B1 _ (sx V1) ⟨c1, x, m1, rfl, hg.sy e2⟩
  have p3 := A1 _ C2 (sx V1) d12 ⟨x, c2, rfl, m2, e3⟩
  have p4 := A1 _ C3 (sx V1) d13 ⟨x, c3, rfl, m3, e4⟩
  have p5 := B1 _ (sy V1) ⟨c1, y, m1, rfl, hg.sy e5⟩
  have p6 := A1 _ C2 (sy V1) d12 ⟨y, c2, rfl, m2, e6⟩
  have p7 := A1 _ C3 (sy V1) d13 ⟨y, c3, rfl, m3, e7⟩
  have p8 := B1 C2 d12 j1
  have p9 := B1 C3 d13 j2
  have p10 := A1 C2 C3 d12 d13 j3
  have n12 : ¬ C2 c1 := (v2 c1 m1).1
  have n13 : ¬ C3 c1 := (v2 c1 m1).2
  have n23 : ¬ C3 c2 := v3 c2 m2
  obtain ⟨g2, h2, z2, A2, B2, D2⟩ := colS h1 z1 (fun a z => (V2 a z).1) m2 (D1 C2 d12 k2)
  have q1 := A2 _ _ (sx V2) (sy V2) p1
  have q2 := A2 _ _ (s1 n12) (sx V2) p2
  have q3 := B2 _ (sx V2) (p3.sy h1)
  have q4 := A2 _ C3 (sx V2) d23 p4
  have q5 := A2 _ _ (s1 n12) (sy V2) p5
  have q6 := B2 _ (sy V2) (p6.sy h1)
  have q7 := A2 _ C3 (sy V2) d23 p7
  have q8 := B2 _ (s1 n12) (p8.sy h1)
  have q9 := A2 _ C3 (s1 n12) d23 p9
  have q10 := B2 C3 d23 p10
  obtain ⟨g3, h3, z3, A3, B3, _⟩ := colS h2 z2 (fun a z => (V3 a z).1) m3 (D2 C3 d23 (D1 C3 d13 k3))
  have t1 := adj1 (A3 _ _ (sx V3) (sy V3) q1)
  have t2 := adj1 (A3 _ _ (s1 n13) (sx V3) q2)
  have t3 := adj1 (A3 _ _ (s1 n23) (sx V3) q3)
  have t4 := adj1 (B3 _ (sx V3) (q4.sy h2))
  have t5 := adj1 (A3 _ _ (s1 n13) (sy V3) q5)
  have t6 := adj1 (A3 _ _ (s1 n23) (sy V3) q6)
  have t7 := adj1 (B3 _ (sy V3) (q7.sy h2))
  have t8 := adj1 (A3 _ _ (s1 n23) (s1 n13) q8)
  have t9 := adj1 (B3 _ (s1 n13) (q9.sy h2))
  have t10 := adj1 (B3 _ (s1 n23) (q10.sy h2))
  exact no_K5 z3 (a := x) (b := y) (c := c1) (d := c2) (e := c3) t1 (h3.sy t2) (h3.sy t3) (h3.sy t4) (h3.sy t5) (h3.sy t6) (h3.sy t7) (h3.sy t8) (h3.sy t9) (h3.sy t10) hxy (Ne.symm (V1 c1 m1).2.1) (Ne.symm (V2 c2 m2).2.1) (Ne.symm (V3 c3 m3).2.1) (Ne.symm (V1 c1 m1).2.2) (Ne.symm (V2 c2 m2).2.2) (Ne.symm (V3 c3 m3).2.2) (fun z => n12 (by rw [z]; exact m2)) (fun z => n13 (by rw [z]; exact m3)) (fun z => n23 (by rw [z]; exact m3))
theorem T5.one {g : Nat → Nat → Bool} (hm : Mm g) {x y c1 c2 c3 : Nat} {C1 C2 C3 : Nat → Prop} (h : T5 g x y c1 c2 c3 C1 C2 C3) (a : Nat) (ha : C1 a) : a = c1 := by
  have hg := hm.1
  apply Classical.byContradiction
  intro hac
  obtain ⟨⟨⟨v1, v2, v3⟩, ⟨m1, m2, m3⟩, ⟨k1, k2, k3⟩, j1, j2, j3⟩, hxy, e1, ⟨e2, e3, e4⟩, e5, e6, e7⟩ := h
  obtain ⟨v, hv, hvc, e⟩ := k1.nb m1 ha hac
  have hcv := hg.ne e
  have Vv := v1 v (Or.inl hv)
  have nv : ∀ {B : Nat → Prop}, (∀ a, C1 a → ¬ B a) → ∀ a, B a → a ≠ v := fun hB a hb z => hB v hv (by rw [← z]; exact hb)
  have nC2 := nv (B := C2) (fun a z => (v2 a z).1)
  have nC3 := nv (B := C3) (fun a z => (v2 a z).2)
  have keep : ∀ {B : Nat → Prop}, (∀ a, B a → a ≠ v) → Cd g B → Cd (ctr g c1 v) B := fun hB hC p q hp hq => Rc.mono (fun _ z => z) hp (fun a b ha hb e => ctr_of e (hB a ha) (hB b hb)) (hC p q hp hq)
  have adC : ∀ {B : Nat → Prop}, (∀ a, C1 a → ¬ B a) → Adj g C1 B → Adj (ctr g c1 v) (fun a => C1 a ∧ a ≠ v) B := fun {B} hB hJ => by
    obtain ⟨p, q, hp, hq, eq⟩ := hJ
    have hqv := nv hB q hq
    have hqc : q ≠ c1 := fun z => hB c1 m1 (by rw [← z]; exact hq)
    by_cases z : p = v
    · rw [z] at eq
      exact ⟨c1, q, ⟨m1, hcv⟩, hq, ctr_nb hcv eq hqc hqv⟩
    · exact ⟨p, q, ⟨hp, z⟩, hq, ctr_of eq z hqv⟩
  have adk : Adj (ctr g c1 v) C2 C3 := by
    obtain ⟨p, q, hp, hq, eq⟩ := j3
    exact ⟨p, q, hp, hq, ctr_of eq (nC2 p hp) (nC3 q hq)⟩
  have xv : x ≠ v := Ne.symm Vv.2.1
  have yv : y ≠ v := Ne.symm Vv.2.2
  exact T5.nz (g := ctr g c1 v) (hg.ctr (hg.lt e).1) (hm.2.2.2.1 c1 v e) (x := x) (y := y) (c1 := c1) (c2 := c2) (c3 := c3) (C1 := fun a => C1 a ∧ a ≠ v) (C2 := C2) (C3 := C3) ⟨⟨⟨fun a z => v1 a (z.imp_left (fun w => w.1)), fun a z => v2 a z.1, v3⟩, ⟨⟨m1, hcv⟩, m2, m3⟩, ⟨k1.con hg m1 hv e, keep nC2 k2, keep nC3 k3⟩, adC (fun a z => (v2 a z).1) j1, adC (fun a z => (v2 a z).2) j2, adk⟩, hxy, ctr_of e1 xv yv, ⟨ctr_of e2 xv hcv, ctr_of e3 xv (nC2 c2 m2), ctr_of e4 xv (nC3 c3 m3)⟩, ctr_of e5 yv hcv, ctr_of e6 yv (nC2 c2 m2), ctr_of e7 yv (nC3 c3 m3)⟩
def I5 (g : Nat → Nat → Bool) : Prop := ∃ p q r s t : Nat, (p ≠ q ∧ p ≠ r ∧ p ≠ s ∧ p ≠ t ∧ q ≠ r ∧ q ≠ s ∧ q ≠ t ∧ r ≠ s ∧ r ≠ t ∧ s ≠ t) ∧ (g p q = true ∧ g p r = true ∧ g p s = true ∧ g p t = true ∧ g q r = true ∧ g q s = true ∧ g q t = true ∧ g r s = true ∧ g r t = true ∧ g s t = true) ∧ ∀ u v, g u v = true → u = p ∨ u = q ∨ u = r ∨ u = s ∨ u = t
theorem T5.fin {g : Nat → Nat → Bool} (hm : Mm g) {x y c1 c2 c3 : Nat} {C1 C2 C3 : Nat → Prop} (h : T5 g x y c1 c2 c3 C1 C2 C3) : I5 g := by
  have hg := hm.1
  have o1 := T5.one hm h
  have o2 := T5.one hm (h.rot hg)
  have o3 := T5.one hm ((h.rot hg).rot hg)
  obtain ⟨⟨⟨v1, v2, v3⟩, ⟨m1, m2, m3⟩, ⟨k1, k2, k3⟩, j1, j2, j3⟩, hxy, e1, ⟨e2, e3, e4⟩, e5, e6, e7⟩ := h
  have sg : ∀ {A B : Nat → Prop} {p q : Nat}, (∀ a, A a → a = p) → (∀ a, B a → a = q) → Adj g A B → g p q = true := fun hA hB hJ => by
    obtain ⟨a, b, ha, hb, e⟩ := hJ
    rw [hA a ha, hB b hb] at e; exact e
  have f12 := sg o1 o2 j1
  have f13 := sg o1 o3 j2
  have f23 := sg o2 o3 j3
  refine ⟨x, y, c1, c2, c3, ⟨hxy, hg.ne e2, hg.ne e3, hg.ne e4, hg.ne e5, hg.ne e6, hg.ne e7, hg.ne f12, hg.ne f13, hg.ne f23⟩, ⟨e1, e2, e3, e4, e5, e6, e7, f12, f13, f23⟩, fun u v e => ?_⟩
  apply Classical.byContradiction
  intro hno
  have nx : u ≠ x := fun z => hno (Or.inl z)
  have ny : u ≠ y := fun z => hno (Or.inr (Or.inl z))
  have n1 : u ≠ c1 := fun z => hno (Or.inr (Or.inr (Or.inl z)))
  have n2 : u ≠ c2 := fun z => hno (Or.inr (Or.inr (Or.inr (Or.inl z))))
  have n3 : u ≠ c3 := fun z => hno (Or.inr (Or.inr (Or.inr (Or.inr z))))
  have ee : ∀ i j, u ≠ i → u ≠ j → g i j = true → gd (del g u v) i j := fun i j hi hj eij => del_iff.mpr ⟨eij, fun z => hi z.1.symm, fun z => hj z.2.symm⟩
  exact no_K5 (hm.2.2.1 u v e) (ee _ _ nx ny e1) (ee _ _ nx n1 e2) (ee _ _ nx n2 e3) (ee _ _ nx n3 e4) (ee _ _ ny n1 e5) (ee _ _ ny n2 e6) (ee _ _ ny n3 e7) (ee _ _ n1 n2 f12) (ee _ _ n1 n3 f13) (ee _ _ n2 n3 f23) hxy (hg.ne e2) (hg.ne e3) (hg.ne e4) (hg.ne e5) (hg.ne e6) (hg.ne e7) (hg.ne f12) (hg.ne f13) (hg.ne f23)
theorem Mm.kur {g : Nat → Nat → Bool} (hm : Mm g) : I5 g ∨ I33 g := by
  have hg := hm.1
  obtain ⟨x, y, e, good⟩ := hm.good
  have k2 := hm.k2 e good
  have hxy := hg.ne e
  have hlt : ∀ v, (Sup g v ∧ v ≠ x ∧ v ≠ y) → v < 11 := fun v h => h.1.lt hg
  obtain ⟨X, hX⟩ := hm.2.2.2.1 x y e
  rcases alt_or hg e hm.2.1 Tn_lt hX with ⟨c, c', d, d', a1, a2, a3, a4, b1, b2, b3, b4, n1, n2, n3, n4, n5, n6, odd⟩ | ⟨c1, c2, c3, n12, n13, n23, ⟨a1, b1⟩, ⟨a2, b2⟩, a3, b3⟩
  · have Vc : Sup g c ∧ c ≠ x ∧ c ≠ y := ⟨⟨x, hg.sy a1⟩, Ne.symm (hg.ne a1), a2⟩
    have Vc' : Sup g c' ∧ c' ≠ x ∧ c' ≠ y := ⟨⟨x, hg.sy a3⟩, Ne.symm (hg.ne a3), a4⟩
    have Vd : Sup g d ∧ d ≠ x ∧ d ≠ y := ⟨⟨y, hg.sy b1⟩, b2, Ne.symm (hg.ne b1)⟩
    have Vd' : Sup g d' ∧ d' ≠ x ∧ d' ≠ y := ⟨⟨y, hg.sy b3⟩, b4, Ne.symm (hg.ne b3)⟩
    obtain ⟨C, C', D, D', ⟨v1, v2, v3, v4⟩, hQ⟩ := lem_Q hg hlt k2 Vc Vc' Vd Vd' n1 n2 n3 n4 n5 n6 (fun P Q hP hQ hPQ pc pc' qd qd' cP cQ => by
      have := no_disj hg e Tn_lt hX (P := P) (Q := Q) (fun a h => (hP a h).2) (fun a h => (hQ a h).2) hPQ pc pc' qd qd' cP cQ a1 a3 b1 b3 n1 n2
      omega)
    exact Or.inr (KS.fin hm ⟨⟨⟨fun a z => ⟨hlt a (v1 a z), (v1 a z).2⟩, v2, v3, v4⟩, hQ⟩, hxy, e, ⟨a1, a3⟩, b1, b3⟩)
  · have V : ∀ {c}, g x c = true → g y c = true → Sup g c ∧ c ≠ x ∧ c ≠ y := fun a b => ⟨⟨x, hg.sy a⟩, Ne.symm (hg.ne a), Ne.symm (hg.ne b)⟩
    obtain ⟨C1, C2, C3, ⟨v1, v2, v3⟩, hQ⟩ := lem_Q3 hg hlt k2 (c := c1) (d := c2) (c' := c3) (V a1 b1) (V a2 b2) (V a3 b3) n13 n12 (Ne.symm n23)
    exact Or.inl (T5.fin hm ⟨⟨⟨fun a z => ⟨hlt a (v1 a z), (v1 a z).2⟩, v2, v3⟩, hQ⟩, hxy, e, ⟨a1, a2, a3⟩, b1, b2, b3⟩)
