theorem Mn.deg2 {g : Nat → Nat → Bool} (hm : Mn g) {a b : Nat} (e : g a b = true) : 2 ≤ dg g a := by
  have hg := hm.1
  apply Classical.byContradiction
  intro hlt
  have d0 : dg g a = ns (g a) := rfl
  have d1 := ns_wo (S := g a) (hg.lt e).2 e
  have hN : ∀ w, g a w = true → w = b := fun w hw => by
    apply Classical.byContradiction
    intro z
    have d2 := ns_wo (S := wo (g a) b) (hg.lt hw).2 (wo_iff.mpr ⟨hw, z⟩)
    omega
  refine hm.2.1 (ZZ.path (ad := gd g) (H := gd (del g a b)) (a := a) (p := b) (q := a + b + 1) (fun b c q => hg.sy q) (hg.ne e) (by omega) (by omega) (fun w hw => Or.inl (hN w hw)) (fun b q => hg.ne q rfl) (hm.2.2 a b e) (fun x y h1 h2 h3 => del_iff.mpr ⟨h3, fun z => h1 z.1, fun z => h2 z.2⟩) (fun q => ?_))
  have := hN _ q
  omega
theorem Mn.cut {g : Nat → Nat → Bool} (hm : Mn g) {s : Nat} (hs : s < 11) {P : Nat → Prop} (ha : ∃ a, Sup g a ∧ a ≠ s ∧ P a) (hb : ∃ b, Sup g b ∧ b ≠ s ∧ ¬ P b) (hno : ∀ a b, a ≠ s → b ≠ s → P a → ¬ P b → g a b = true → False) : False := by
  have hg := hm.1
  have nb : ∀ a, Sup g a → ∃ w, g a w = true ∧ w ≠ s := fun a ⟨b, e⟩ => by
    by_cases c : b = s
    · have h2 := hm.deg2 e
      have d0 : dg g a = ns (g a) := rfl
      obtain ⟨x, y, hx, hy, hxy⟩ := two_of (S := g a) (by omega)
      by_cases z : x = s
      · exact ⟨y, hy, fun w => hxy (z.trans w.symm)⟩
      · exact ⟨x, hx, z⟩
    · exact ⟨b, e, c⟩
  have pick : ∀ R : Nat → Prop, (∃ a, Sup g a ∧ a ≠ s ∧ R a) → ∃ t, Sup g t ∧ t ≠ s ∧ R t ∧ ∀ c, R c → c ≠ s → g s c = true → g s t = true := fun R hR => by
    by_cases c : ∃ c, R c ∧ c ≠ s ∧ g s c = true
    · obtain ⟨c, h1, h2, h3⟩ := c
      exact ⟨c, ⟨s, hg.sy h3⟩, h2, h1, fun _ _ _ _ => h3⟩
    · obtain ⟨a, h1, h2, h3⟩ := hR
      exact ⟨a, h1, h2, h3, fun x k1 k2 k3 => absurd ⟨x, k1, k2, k3⟩ c⟩
  obtain ⟨t2, a1, a2, a3, a4⟩ := pick P ha
  obtain ⟨t1, b1, b2, b3, b4⟩ := pick (fun x => ¬ P x) hb
  obtain ⟨w2, e2, hw2⟩ := nb t2 a1
  obtain ⟨w1, e1, hw1⟩ := nb t1 b1
  have Pw2 : P w2 := Classical.byContradiction (fun z => hno t2 w2 a2 hw2 a3 z e2)
  have Pw1 : ¬ P w1 := fun z => hno w1 t1 hw1 b2 z b3 (hg.sy e1)
  obtain ⟨sd, h1, h2, h3⟩ : ∃ sd : Nat → Nat, (∀ a, sd a = 1 ↔ a = s ∨ a = 12 ∨ a = 13) ∧ (∀ a, sd a = 2 ↔ (P a ∧ ¬ (a = s ∨ a = 12 ∨ a = 13))) ∧ ∀ a, sd a ≤ 2 := by
    have : ∀ a, ∃ n : Nat, (n = 1 ↔ a = s ∨ a = 12 ∨ a = 13) ∧ (n = 2 ↔ (P a ∧ ¬ (a = s ∨ a = 12 ∨ a = 13))) ∧ n ≤ 2 := fun a => by
      by_cases c1 : a = s ∨ a = 12 ∨ a = 13
      · exact ⟨1, ⟨fun _ => c1, fun _ => rfl⟩, ⟨fun z => absurd z (by decide), fun z => absurd c1 z.2⟩, by decide⟩
      · by_cases c2 : P a
        · exact ⟨2, ⟨fun z => absurd z (by decide), fun z => absurd z c1⟩, ⟨fun _ => ⟨c2, c1⟩, fun _ => rfl⟩, by decide⟩
        · exact ⟨0, ⟨fun z => absurd z (by decide), fun z => absurd z c1⟩, ⟨fun z => absurd z (by decide), fun z => absurd z.1 c2⟩, by decide⟩
    obtain ⟨sd, h⟩ := Classical.axiomOfChoice this
    exact ⟨sd, fun a => (h a).1, fun a => (h a).2.1, fun a => (h a).2.2⟩
  have out : ∀ {a}, Sup g a → a ≠ s → ¬ (a = s ∨ a = 12 ∨ a = 13) := fun {a} h k z => by
    have := h.lt hg
    rcases z with z | z | z
    · exact k z
    · omega
    · omega
  have s2 : ∀ {a}, Sup g a → a ≠ s → P a → sd a = 2 := fun h k p => (h2 _).mpr ⟨p, out h k⟩
  have s0 : ∀ {a}, Sup g a → a ≠ s → ¬ P a → sd a = 0 := fun {a} h k p => by
    have y1 : ¬ sd a = 1 := fun z => out h k ((h1 a).mp z)
    have y2 : ¬ sd a = 2 := fun z => p ((h2 a).mp z).1
    have := h3 a
    omega
  have is : ∀ {a b}, g a b = true → sd a = 1 → a = s := fun {a b} e z => by
    have := (hg.lt e).1
    rcases (h1 a).mp z with z | z | z
    · exact z
    · omega
    · omega
  have d2 := s2 a1 a2 a3
  have d2' := s2 ⟨t2, hg.sy e2⟩ hw2 Pw2
  have d0 := s0 b1 b2 b3
  have d0' := s0 ⟨t1, hg.sy e1⟩ hw1 Pw1
  have ss : sd s = 1 := (h1 s).mpr (Or.inl rfl)
  refine hm.2.1 (ZZ.glue hg (g1 := del g t2 w2) (g2 := del g t1 w1) (s1 := s) (s2 := 12) (s3 := 13) (t1 := t1) (t2 := t2) (sd := sd) (by omega) (by omega) (by decide) h1 d0 d2 h3 (fun a b e ka kb => ?_) (fun a b e ka kb => ?_) (fun a b e ka kb => ?_) (fun a b e ka kb => ?_) (fun a b e ka kb => ?_) (hm.2.2 t2 w2 e2) (hm.2.2 t1 w1 e1))
  · have pb := (h2 b).mp kb
    refine hno b a (fun z => pb.2 (Or.inl z)) (fun z => by rw [z, ss] at ka; cases ka) pb.1 (fun z => ?_) (hg.sy e)
    have := s2 ⟨b, e⟩ (fun y => by rw [y, ss] at ka; cases ka) z
    omega
  · refine del_iff.mpr ⟨e, fun z => ?_, fun z => ?_⟩
    · rw [z.1] at ka; omega
    · rw [z.1] at ka; omega
  · have hs' := is e ka
    rw [hs'] at e ⊢
    have pb := (h2 b).mp kb
    refine del_iff.mpr ⟨a4 b pb.1 (fun z => pb.2 (Or.inl z)) e, fun z => a2 z.1.symm, fun z => hw2 z.1.symm⟩
  · refine del_iff.mpr ⟨e, fun z => ?_, fun z => ?_⟩
    · rw [z.1] at ka; omega
    · rw [z.1] at ka; omega
  · have hs' := is e ka
    rw [hs'] at e ⊢
    have nb' : b ≠ s := fun z => by rw [z, ss] at kb; cases kb
    refine del_iff.mpr ⟨b4 b (fun z => ?_) nb' e, fun z => b2 z.1.symm, fun z => hw1 z.1.symm⟩
    have := s2 ⟨s, hg.sy e⟩ nb' z
    omega
theorem PTr.least {Z : Int32 → Prop} (hmono : ∀ v v', SubB v' v → Z v → Z v') : ∀ (n k : Nat) (v r : Int32), k + n = 24 → PTr Z n k v r → ¬ Z v → (∀ l, l < k → bit v l = true → Z (wt v l)) → ¬ Z r ∧ ∀ l, l < 24 → bit r l = true → Z (wt r l)
  | 0, k, v, r, hk, h, h1, h2 => by
    have h : r = v := h
    rw [h]; exact ⟨h1, fun l hl => h2 l (by omega)⟩
  | n + 1, k, v, r, hk, h, h1, h2 => by
    by_cases c : Z (wt v k)
    · refine PTr.least hmono n (k + 1) v r (by omega) (h.1 c) h1 (fun l hl hb => ?_)
      by_cases e : l = k
      · rw [e]; exact c
      · exact h2 l (by omega) hb
    · refine PTr.least hmono n (k + 1) (wt v k) r (by omega) (h.2 c) c (fun l hl hb => ?_)
      have hb' : bit v l = true ∧ l ≠ k := by
        unfold wt at hb
        rw [clr_bit (by omega) l, Bool.and_eq_true] at hb
        exact ⟨hb.1, by simpa using hb.2⟩
      refine hmono (wt v l) _ (fun j hj => ?_) (h2 l (by omega) hb'.1)
      unfold wt at hj ⊢
      rw [clr_bit (by omega) j, clr_bit (by omega) j, Bool.and_eq_true, Bool.and_eq_true] at hj
      rw [clr_bit (by omega) j, Bool.and_eq_true]
      exact ⟨hj.1.1, hj.2⟩
theorem gA_mono {on ot : Nat → Int32} {v v' : Int32} (h : SubB v' v) (i j : Nat) (q : gA v' on ot i j) : gA v on ot i j := by
  obtain ⟨h1, h2, l, hl, hb, h3⟩ := q
  exact ⟨h1, h2, l, hl, h l hb, h3⟩
theorem pat_Mn {on ot u : Nat → Int32} {s : Int32} (hv : LU on ot s) (hu : WN u (gA s on ot)) (h1 : ¬ ZZ (gA s on ot)) (h2 : ∀ l, l < 24 → bit s l = true → ZZ (gA (wt s l) on ot)) : Mn (gN u) := by
  have hW := hu.wb (fun a b q => (gA_lt hv q).2.2) (fun a b q => gA_sy q)
  refine ⟨gN_Gb hW, fun z => h1 (z.sub (fun a b q => gN_iff.mpr ((hu.2 a b).mpr q))), fun a b e => ?_⟩
  obtain ⟨_, _, l, hl, hb, hj⟩ := (hu.2 a b).mp (gN_iff.mp e)
  refine (h2 l hl hb).sub (fun x y q => ?_)
  obtain ⟨q1, q2, q3⟩ := del_iff.mp q
  obtain ⟨x1, x2, l', hl', hb', hj'⟩ := (hu.2 x y).mp (gN_iff.mp q1)
  refine ⟨x1, x2, l', hl', ?_, hj'⟩
  unfold wt
  rw [clr_bit (by omega) l', hb']
  have hne : l' ≠ l := fun z => by
    rw [z] at hj'
    obtain ⟨p, q, _, _, q3', q4⟩ := hv.1 l hl hb
    have ha := (gN_iff.mp e).1
    have hb2 := (gN_iff.mp e).2.1
    rw [q3', q4] at hj hj'
    rcases hj with ⟨k1, k2⟩ | ⟨k1, k2⟩ <;> rcases hj' with ⟨m1, m2⟩ | ⟨m1, m2⟩ <;> rw [nI_eq_iff (by omega) (by omega)] at k1 k2 m1 m2
    · exact q2 ⟨by omega, by omega⟩
    · exact q3 ⟨by omega, by omega⟩
    · exact q3 ⟨by omega, by omega⟩
    · exact q2 ⟨by omega, by omega⟩
  rw [decide_eq_false hne]; rfl
