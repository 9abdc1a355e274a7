theorem max_ex {α : Type} (Φ : α → Prop) (m : α → Nat) (B : Nat) (hB : ∀ a, Φ a → m a ≤ B) (h : ∃ a, Φ a) : ∃ a, Φ a ∧ ∀ b, Φ b → m b ≤ m a := by
  have key : ∀ k a, Φ a → B - m a ≤ k → ∃ a, Φ a ∧ ∀ b, Φ b → m b ≤ m a := by
    intro k
    induction k with
    | zero =>
      intro a ha hk
      exact ⟨a, ha, fun b hb => by have := hB b hb; omega⟩
    | succ k ih =>
      intro a ha hk
      by_cases c : ∃ b, Φ b ∧ m a < m b
      · obtain ⟨b, hb, hlt⟩ := c
        have := hB b hb
        exact ih b hb (by omega)
      · exact ⟨a, ha, fun b hb => Classical.byContradiction (fun q => c ⟨b, hb, by omega⟩)⟩
  obtain ⟨a, ha⟩ := h
  exact key _ a ha (Nat.le_refl _)
def K2 (g : Nat → Nat → Bool) (V : Nat → Prop) : Prop := ∀ w (P : Nat → Prop), (∃ a, V a ∧ a ≠ w ∧ P a) → (∃ b, V b ∧ b ≠ w ∧ ¬ P b) → ∃ a b, V a ∧ V b ∧ a ≠ w ∧ b ≠ w ∧ P a ∧ ¬ P b ∧ g a b = true
theorem Cd.un {g : Nat → Nat → Bool} (hg : Gb g) {A B : Nat → Prop} (hA : Cd g A) (hB : Cd g B) (h : Adj g A B) : Cd g (fun a => A a ∨ B a) := by
  obtain ⟨a, b, ha, hb, e⟩ := h
  refine Cd.of hg (c := a) (Or.inl ha) (fun v hv => ?_)
  rcases hv with hv | hv
  · exact Rc.mono (fun _ q => Or.inl q) ha (fun _ _ _ _ q => q) (hA a v ha hv)
  · exact ((Rc.rf g (fun a => A a ∨ B a) a).st (Or.inr hb) e).tr (Rc.mono (fun _ q => Or.inr q) hb (fun _ _ _ _ q => q) (hB b v hb hv))
theorem Cd.one (g : Nat → Nat → Bool) (d : Nat) : Cd g (fun a => a = d) := fun a b ha hb => by
  have ha : a = d := ha
  have hb : b = d := hb
  rw [ha, hb]; exact Rc.rf _ _ _
def Rr (g : Nat → Nat → Bool) (E : Nat → Prop) (c' a u : Nat) : Prop := a ≠ c' ∧ Rc g (fun x => E x ∧ x ≠ a) c' u
theorem Rr.mem {g : Nat → Nat → Bool} {E : Nat → Prop} {c' a u : Nat} (hE : E c') (h : Rr g E c' a u) : E u ∧ u ≠ a := Rc.mem (W := fun x => E x ∧ x ≠ a) ⟨hE, Ne.symm h.1⟩ h.2
theorem Rr.st {g : Nat → Nat → Bool} {E : Nat → Prop} {c' a x y : Nat} (h : Rr g E c' a x) (hy : E y) (n : y ≠ a) (e : g x y = true) : Rr g E c' a y := ⟨h.1, h.2.st ⟨hy, n⟩ e⟩
theorem Rr.self {g : Nat → Nat → Bool} {E : Nat → Prop} {c' a : Nat} (hne : a ≠ c') : Rr g E c' a c' := ⟨hne, Rc.rf _ _ _⟩
theorem Rr.conn {g : Nat → Nat → Bool} (hg : Gb g) {E : Nat → Prop} {c' a : Nat} (hE : E c') (hne : a ≠ c') : Cd g (fun u => Rr g E c' a u) := fun p q hp hq => by
  have := Rc.cl hg (W := fun x => E x ∧ x ≠ a) (s := c') ⟨hE, Ne.symm hne⟩ p q hp.2 hq.2
  exact Rc.mono (fun _ z => ⟨hne, z⟩) hp.2 (fun _ _ _ _ z => z) this
theorem Rr.way {g : Nat → Nat → Bool} (hg : Gb g) {E : Nat → Prop} (cE : Cd g E) {c c' a : Nat} (hc : E c) (ha : E a) (hn : ¬ Rr g E c' a c) : Rc g (fun u => E u ∧ ¬ Rr g E c' a u) c a := by
  have := cE c a hc ha (fun u => E u ∧ ((¬ Rr g E c' a u ∧ Rc g (fun u => E u ∧ ¬ Rr g E c' a u) c u) ∨ Rc g (fun u => E u ∧ ¬ Rr g E c' a u) c a)) ⟨hc, Or.inl ⟨hn, Rc.rf _ _ _⟩⟩ (fun w b h1 h2 h3 => by
    obtain ⟨hw, h1⟩ := h1
    refine ⟨h2, ?_⟩
    rcases h1 with ⟨q1, q2⟩ | q
    · by_cases cb : Rr g E c' a b
      · by_cases ew : w = a
        · rw [ew] at q2; exact Or.inr q2
        · exact absurd (cb.st hw ew (hg.sy h3)) q1
      · exact Or.inl ⟨cb, q2.st ⟨h2, cb⟩ h3⟩
    · exact Or.inr q)
  rcases this.2 with ⟨_, q⟩ | q
  · exact q
  · exact q
theorem Rr.connT {g : Nat → Nat → Bool} (hg : Gb g) {E : Nat → Prop} (cE : Cd g E) {c c' a : Nat} (hc : E c) (ha : E a) (hn : ¬ Rr g E c' a c) : Cd g (fun u => E u ∧ ¬ Rr g E c' a u) := by
  have way := Rr.way hg cE hc ha hn
  refine Cd.of hg (c := c) ⟨hc, hn⟩ (fun v hv => ?_)
  have := cE c v hc hv.1 (fun u => E u ∧ (Rr g E c' a u ∨ Rc g (fun u => E u ∧ ¬ Rr g E c' a u) c u)) ⟨hc, Or.inr (Rc.rf _ _ _)⟩ (fun w b h1 h2 h3 => by
    refine ⟨h2, ?_⟩
    by_cases cb : Rr g E c' a b
    · exact Or.inl cb
    · refine Or.inr ?_
      rcases h1.2 with q | q
      · have eb : b = a := Classical.byContradiction (fun z => cb (q.st h2 z h3))
        rw [eb]; exact way
      · exact q.st ⟨h2, cb⟩ h3)
  exact this.2.resolve_left hv.2
theorem Rr.lin {g : Nat → Nat → Bool} {E : Nat → Prop} (cE : Cd g E) {c' v x : Nat} (hc' : E c') (hv : E v) (hx : ¬ Rr g E c' v x) (hne : x ≠ v) : (∀ u, Rr g E c' v u → Rr g E c' x u) ∧ Rr g E c' x v := by
  have hxc : x ≠ c' := fun q => by
    by_cases z : v = c'
    · exact hne (q.trans z.symm)
    · rw [q] at hx; exact hx (Rr.self z)
  have sub : ∀ u, Rr g E c' v u → Rr g E c' x u := fun u hu => (hu.2 (fun u => Rr g E c' v u ∧ Rr g E c' x u) ⟨Rr.self hu.1, Rr.self hxc⟩ (fun a b h1 h2 h3 => by
    have k := h1.1.st h2.1 h2.2 h3
    exact ⟨k, h1.2.st h2.1 (fun z => hx (by rw [← z]; exact k)) h3⟩)).2
  refine ⟨sub, ?_⟩
  by_cases z : v = c'
  · rw [z]; exact Rr.self hxc
  · have := cE c' v hc' hv (fun u => E u ∧ (Rr g E c' v u ∨ Rr g E c' x v)) ⟨hc', Or.inl (Rr.self z)⟩ (fun a b h1 h2 h3 => by
      refine ⟨h2, ?_⟩
      rcases h1.2 with q | q
      · by_cases eb : b = v
        · refine Or.inr ?_
          have k := (sub a q).st h2 (fun y => hne (y.symm.trans eb)) h3
          rw [eb] at k; exact k
        · exact Or.inl (q.st h2 eb h3)
      · exact Or.inr q)
    rcases this.2 with q | q
    · exact absurd rfl (q.mem hc').2
    · exact q
theorem Rr.meas {g : Nat → Nat → Bool} {E : Nat → Prop} (cE : Cd g E) {c' : Nat} (hc' : E c') (hlt : ∀ v, E v → v < 11) : ∃ rz : Nat → Nat, (∀ v, rz v ≤ 11) ∧ ∀ x v, E x → E v → ¬ Rr g E c' v x → x ≠ v → rz v < rz x := by
  obtain ⟨S, hS⟩ := Classical.axiomOfChoice (fun v => toB (fun u => Rr g E c' v u))
  refine ⟨fun v => ns (S v), fun v => ?_, fun x v hx hv hn hne => ?_⟩
  · have h := su_mono (f := fun i => ig (S v i)) (g := fun _ => 1) 11 (fun i _ => ig_le _)
    have e : su (fun _ => 1) 11 = 11 := by decide
    rw [e] at h
    exact h
  · obtain ⟨sub, k⟩ := Rr.lin cE hc' hv hn hne
    have w := ns_wo (hlt v hv) ((hS x v).mpr k)
    have : ns (S v) ≤ ns (wo (S x) v) := su_mono 11 (fun i _ => ig_mono (fun q => wo_iff.mpr ⟨(hS x i).mpr (sub i ((hS v i).mp q)), (((hS v i).mp q).mem hc').2⟩))
    show ns (S v) < ns (S x)
    omega
theorem q_core {g : Nat → Nat → Bool} (hg : Gb g) {V D D' E : Nat → Prop} (k2 : K2 g V) (hV : ∀ v, V v → D v ∨ D' v ∨ E v) (hD : ∀ v, D v → V v) (hD' : ∀ v, D' v → V v) (hE : ∀ v, E v → V v) (dDE : ∀ v, D v → ¬ E v) (dD'E : ∀ v, D' v → ¬ E v) (dDD : ∀ v, D v → ¬ D' v) (cE : Cd g E) {c c' d d' : Nat} (hc : E c) (hc' : E c') (hd : D d) (hd' : D' d') (nDD : ∀ x y, D x → D' y → g x y = true → False) (hsep : ∀ v, E v → (∃ x, (D x ∨ D' x) ∧ g x v = true) → ¬ Rr g E c' v c) {rz : Nat → Nat} (hrz : ∀ x v, E x → E v → ¬ Rr g E c' v x → x ≠ v → rz v < rz x) {a a' : Nat} (ha : E a ∧ ∃ x, D x ∧ g x a = true) (ha' : E a' ∧ ∃ x, D' x ∧ g x a' = true) (hmax' : ∀ b, (E b ∧ ∃ x, D' x ∧ g x b = true) → rz b ≤ rz a') (hle : rz a' ≤ rz a) : ∃ C C' : Nat → Prop, (∀ v, C v → E v) ∧ (∀ v, C' v → E v) ∧ (∀ v, C v → ¬ C' v) ∧ C c ∧ C' c' ∧ Cd g C ∧ Cd g C' ∧ Adj g C D ∧ Adj g C D' ∧ Adj g C' D ∧ Adj g C' D' := by
  have ne : ∀ {p q : Nat}, E p → D q → q ≠ p := fun h1 h2 z => dDE _ h2 (by rw [z]; exact h1)
  have ne' : ∀ {p q : Nat}, E p → D' q → q ≠ p := fun h1 h2 z => dD'E _ h2 (by rw [z]; exact h1)
  have inD' : ∀ y, E y → (∃ x, D' x ∧ g x y = true) → y ≠ a' → Rr g E c' a' y := fun y h1 h2 h3 => by
    apply Classical.byContradiction
    intro h
    have := hrz y a' h1 ha'.1 h h3
    have := hmax' y ⟨h1, h2⟩
    omega
  obtain ⟨y, hy1, hy2, hy3⟩ : ∃ y, E y ∧ (∃ x, D' x ∧ g x y = true) ∧ y ≠ a' := by
    obtain ⟨p, q, v1, v2, m1, m2, w1, w2, e⟩ := k2 a' D' ⟨d', hD' _ hd', ne' ha'.1 hd', hd'⟩ ⟨d, hD _ hd, ne ha'.1 hd, dDD _ hd⟩
    rcases hV q v2 with z | z | z
    · exact (nDD q p z w1 (hg.sy e)).elim
    · exact absurd z w2
    · exact ⟨q, z, ⟨p, w1, e⟩, m2⟩
  have hyR := inD' y hy1 hy2 hy3
  have hac' := hyR.1
  have hsa' := hsep a' ha'.1 (by obtain ⟨x, h1, h2⟩ := ha'.2; exact ⟨x, Or.inr h1, h2⟩)
  have hsa := hsep a ha.1 (by obtain ⟨x, h1, h2⟩ := ha.2; exact ⟨x, Or.inl h1, h2⟩)
  have naR : ¬ Rr g E c' a' a := fun h => by
    have hne := (h.mem hc').2
    by_cases h2 : Rr g E c' a a'
    · have way := Rr.way hg cE hc ha'.1 hsa'
      have back := Rc.sy hg (W := fun u => E u ∧ ¬ Rr g E c' a' u) ⟨hc, hsa'⟩ way
      exact hsa ⟨h2.1, h2.2.tr (Rc.mono (W := fun u => E u ∧ ¬ Rr g E c' a' u) (fun u hu => ⟨hu.1, fun z => hu.2 (by rw [z]; exact h)⟩) ⟨ha'.1, fun z => (z.mem hc').2 rfl⟩ (fun _ _ _ _ z => z) back)⟩
    · have := hrz a' a ha'.1 ha.1 h2 (Ne.symm hne)
      omega
  have adj3 : Adj g (fun u => Rr g E c' a' u) D := by
    apply Classical.byContradiction
    intro hno
    obtain ⟨p, q, v1, v2, m1, m2, w1, w2, e⟩ := k2 a' (fun v => D v ∨ (E v ∧ ¬ Rr g E c' a' v)) ⟨d, hD _ hd, ne ha'.1 hd, Or.inl hd⟩ ⟨d', hD' _ hd', ne' ha'.1 hd', fun z => z.elim (fun z => dDD _ z hd') (fun z => dD'E _ hd' z.1)⟩
    rcases hV q v2 with z | z | z
    · exact w2 (Or.inl z)
    · rcases w1 with w1 | ⟨w1, w3⟩
      · exact nDD p q w1 z e
      · exact w3 (inD' p w1 ⟨q, z, hg.sy e⟩ m1)
    · have zr : Rr g E c' a' q := Classical.byContradiction (fun y => w2 (Or.inr ⟨z, y⟩))
      rcases w1 with w1 | ⟨w1, w3⟩
      · exact hno ⟨q, p, zr, w1, hg.sy e⟩
      · exact w3 (zr.st w1 m1 (hg.sy e))
  refine ⟨fun u => E u ∧ ¬ Rr g E c' a' u, fun u => Rr g E c' a' u, fun v h => h.1, fun v h => (h.mem hc').1, fun v h => h.2, ⟨hc, hsa'⟩, Rr.self hac', Rr.connT hg cE hc ha'.1 hsa', Rr.conn hg hc' hac', ?_, ?_, adj3, ?_⟩
  · obtain ⟨x, h1, h2⟩ := ha.2
    exact ⟨a, x, ⟨ha.1, naR⟩, h1, hg.sy h2⟩
  · obtain ⟨x, h1, h2⟩ := ha'.2
    exact ⟨a', x, ⟨ha'.1, fun z => (z.mem hc').2 rfl⟩, h1, hg.sy h2⟩
  · obtain ⟨x, h1, h2⟩ := hy2
    exact ⟨y, x, hyR, h1, hg.sy h2⟩
def QS (g : Nat → Nat → Bool) (V : Nat → Prop) (c c' d d' : Nat) (C C' D D' : Nat → Prop) : Prop := ((∀ a, C a ∨ C' a ∨ D a ∨ D' a → V a) ∧ (∀ a, C a → ¬ C' a ∧ ¬ D a ∧ ¬ D' a) ∧ (∀ a, C' a → ¬ D a ∧ ¬ D' a) ∧ (∀ a, D a → ¬ D' a)) ∧ (C c ∧ C' c' ∧ D d ∧ D' d') ∧ (Cd g C ∧ Cd g C' ∧ Cd g D ∧ Cd g D') ∧ Adj g C D ∧ Adj g C D' ∧ Adj g C' D ∧ Adj g C' D'
theorem ns_add {D : Nat → Bool} {v : Nat} (hv : v < 11) (h : ¬ D v = true) : ns (fun i => D i || decide (i = v)) = ns D + 1 := by
  rw [ns_wo (a := v) hv (by simp)]
  congr 1
  refine su_congr 11 (fun i _ => ?_)
  show ig (wo (fun i => D i || decide (i = v)) v i) = ig (D i)
  congr 1
  refine beq_of ⟨fun q => ?_, fun q => ?_⟩
  · obtain ⟨q1, q2⟩ := wo_iff.mp q
    have q1 : (D i || decide (i = v)) = true := q1
    rw [Bool.or_eq_true, decide_eq_true_iff] at q1
    exact q1.resolve_right q2
  · refine wo_iff.mpr ⟨?_, fun z => h (by rw [← z]; exact q)⟩
    show (D i || decide (i = v)) = true
    rw [q]; rfl
theorem ns_le (S : Nat → Bool) : ns S ≤ 11 := by
  have h := su_mono (f := fun i => ig (S i)) (g := fun _ => 1) 11 (fun i _ => ig_le _)
  have e : su (fun _ => 1) 11 = 11 := by decide
  rw [e] at h
  exact h
theorem lem_Q {g : Nat → Nat → Bool} (hg : Gb g) {V : Nat → Prop} (hVlt : ∀ v, V v → v < 11) (k2 : K2 g V) {c c' d d' : Nat} (Vc : V c) (Vc' : V c') (Vd : V d) (Vd' : V d') (n1 : c ≠ c') (n2 : d ≠ d') (n3 : c ≠ d) (n4 : c ≠ d') (n5 : c' ≠ d) (n6 : c' ≠ d') (hnd : ∀ P Q : Nat → Prop, (∀ a, P a → V a) → (∀ a, Q a → V a) → (∀ a, P a → ¬ Q a) → P c → P c' → Q d → Q d' → Cd g P → Cd g Q → False) : ∃ C C' D D', QS g V c c' d d' C C' D D' := by
  by_cases h0 : Rc g (fun v => V v ∧ v ≠ d ∧ v ≠ d') c c'
  · obtain ⟨⟨D, D'⟩, hΦ, hmax⟩ := max_ex (fun p : (Nat → Bool) × (Nat → Bool) => (p.1 d = true ∧ p.2 d' = true) ∧ (∀ a, p.1 a = true → (V a ∧ a ≠ c ∧ a ≠ c') ∧ ¬ p.2 a = true) ∧ (∀ a, p.2 a = true → V a ∧ a ≠ c ∧ a ≠ c') ∧ Cd g (fun a => p.1 a = true) ∧ Cd g (fun a => p.2 a = true) ∧ Rc g (fun v => V v ∧ ¬ p.1 v = true ∧ ¬ p.2 v = true) c c') (fun p => ns p.1 + ns p.2) 22 (fun p _ => by have := ns_le p.1; have := ns_le p.2; show ns p.1 + ns p.2 ≤ 22; omega) (by
      have one : ∀ d : Nat, Cd g (fun a => decide (a = d) = true) := fun d a b ha hb => by
        have ha : decide (a = d) = true := ha
        have hb : decide (b = d) = true := hb
        rw [decide_eq_true_iff] at ha hb
        rw [ha, hb]; exact Rc.rf _ _ _
      refine ⟨(fun i => decide (i = d), fun i => decide (i = d')), ⟨decide_eq_true rfl, decide_eq_true rfl⟩, fun a ha => ?_, fun a ha => ?_, one d, one d', ?_⟩
      · have ha : a = d := decide_eq_true_iff.mp ha
        rw [ha]
        exact ⟨⟨Vd, Ne.symm n3, Ne.symm n5⟩, fun z => n2 (decide_eq_true_iff.mp z)⟩
      · have ha : a = d' := decide_eq_true_iff.mp ha
        rw [ha]
        exact ⟨Vd', Ne.symm n4, Ne.symm n6⟩
      · exact Rc.mono (W := fun v => V v ∧ v ≠ d ∧ v ≠ d') (fun v hv => ⟨hv.1, fun z => hv.2.1 (decide_eq_true_iff.mp z), fun z => hv.2.2 (decide_eq_true_iff.mp z)⟩) ⟨Vc, n3, n4⟩ (fun _ _ _ _ z => z) h0)
    obtain ⟨⟨hDd, hDd'⟩, hD, hD', cD, cD', hcc⟩ := hΦ
    have Wc : V c ∧ ¬ D c = true ∧ ¬ D' c = true := ⟨Vc, fun z => (hD c z).1.2.1 rfl, fun z => (hD' c z).2.1 rfl⟩
    have cE : Cd g (fun v => Rc g (fun v => V v ∧ ¬ D v = true ∧ ¬ D' v = true) c v) := Rc.cl hg Wc
    have EW : ∀ v, Rc g (fun v => V v ∧ ¬ D v = true ∧ ¬ D' v = true) c v → V v ∧ ¬ D v = true ∧ ¬ D' v = true := fun v h => Rc.mem (W := fun v => V v ∧ ¬ D v = true ∧ ¬ D' v = true) Wc h
    have nDD : ∀ x y, D x = true → D' y = true → g x y = true → False := fun x y hx hy e => hnd (fun v => Rc g (fun v => V v ∧ ¬ D v = true ∧ ¬ D' v = true) c v) (fun a => D a = true ∨ D' a = true) (fun a h => (EW a h).1) (fun a h => h.elim (fun z => (hD a z).1.1) (fun z => (hD' a z).1)) (fun a h z => z.elim (EW a h).2.1 (EW a h).2.2) (Rc.rf _ _ _) hcc (Or.inl hDd) (Or.inr hDd') cE (Cd.un hg cD cD' ⟨x, y, hx, hy, e⟩)
    have grow : ∀ (X : Nat → Bool), Cd g (fun a => X a = true) → ∀ v x, X x = true → g x v = true → Cd g (fun a => (X a || decide (a = v)) = true) := fun X cX v x hx e => by
      have := Cd.un hg cX (Cd.one g v) ⟨x, v, hx, rfl, e⟩
      intro p q hp hq
      have tr : ∀ a, (X a || decide (a = v)) = true → X a = true ∨ a = v := fun a h => by
        rw [Bool.or_eq_true, decide_eq_true_iff] at h; exact h
      exact Rc.mono (W := fun a => X a = true ∨ a = v) (fun a h => by
        show (X a || decide (a = v)) = true
        rw [Bool.or_eq_true, decide_eq_true_iff]; exact h) (tr p hp) (fun _ _ _ _ z => z) (this p q (tr p hp) (tr q hq))
    have tr : ∀ (X : Nat → Bool) (a v : Nat), (X a || decide (a = v)) = true → X a = true ∨ a = v := fun X a v h => by
      rw [Bool.or_eq_true, decide_eq_true_iff] at h; exact h
    have sep : ∀ v, V v → ¬ D v = true → ¬ D' v = true → v ≠ c → v ≠ c' → (∃ x, (D x = true ∨ D' x = true) ∧ g x v = true) → ¬ Rc g (fun u => (V u ∧ ¬ D u = true ∧ ¬ D' u = true) ∧ u ≠ v) c c' := by
      intro v Vv h1 h2 h3 h4 hx hr
      obtain ⟨x, hx | hx, e⟩ := hx
      · have := hmax (fun i => D i || decide (i = v), D') ⟨⟨by show (D d || decide (d = v)) = true; rw [show D d = true from hDd]; rfl, hDd'⟩, fun a ha => ?_, hD', grow D cD v x hx e, cD', ?_⟩
        · have this : ns (fun i => D i || decide (i = v)) + ns D' ≤ ns D + ns D' := this
          rw [ns_add (hVlt v Vv) h1] at this
          omega
        · rcases tr D a v ha with z | z
          · exact hD a z
          · rw [z]; exact ⟨⟨Vv, h3, h4⟩, h2⟩
        · exact Rc.mono (W := fun u => (V u ∧ ¬ D u = true ∧ ¬ D' u = true) ∧ u ≠ v) (fun u hu => ⟨hu.1.1, fun z => (tr D u v z).elim hu.1.2.1 hu.2, hu.1.2.2⟩) ⟨Wc, Ne.symm h3⟩ (fun _ _ _ _ z => z) hr
      · have := hmax (D, fun i => D' i || decide (i = v)) ⟨⟨hDd, by show (D' d' || decide (d' = v)) = true; rw [show D' d' = true from hDd']; rfl⟩, fun a ha => ?_, fun a ha => ?_, cD, grow D' cD' v x hx e, ?_⟩
        · have this : ns D + ns (fun i => D' i || decide (i = v)) ≤ ns D + ns D' := this
          rw [ns_add (hVlt v Vv) h2] at this
          omega
        · refine ⟨(hD a ha).1, fun z => ?_⟩
          rcases tr D' a v z with z | z
          · exact (hD a ha).2 z
          · exact h1 (by rw [← z]; exact ha)
        · rcases tr D' a v ha with z | z
          · exact hD' a z
          · rw [z]; exact ⟨Vv, h3, h4⟩
        · exact Rc.mono (W := fun u => (V u ∧ ¬ D u = true ∧ ¬ D' u = true) ∧ u ≠ v) (fun u hu => ⟨hu.1.1, hu.1.2.1, fun z => (tr D' u v z).elim hu.1.2.2 hu.2⟩) ⟨Wc, Ne.symm h3⟩ (fun _ _ _ _ z => z) hr
    have hV : ∀ v, V v → D v = true ∨ D' v = true ∨ Rc g (fun v => V v ∧ ¬ D v = true ∧ ¬ D' v = true) c v := by
      intro v Vv
      apply Classical.byContradiction
      intro hno
      have w1 : ¬ D v = true := fun z => hno (Or.inl z)
      have w2 : ¬ D' v = true := fun z => hno (Or.inr (Or.inl z))
      have w3 : ¬ Rc g (fun v => V v ∧ ¬ D v = true ∧ ¬ D' v = true) c v := fun z => hno (Or.inr (Or.inr z))
      have Wv : V v ∧ ¬ D v = true ∧ ¬ D' v = true := ⟨Vv, w1, w2⟩
      have nE : ∀ p, Rc g (fun v => V v ∧ ¬ D v = true ∧ ¬ D' v = true) v p → ¬ Rc g (fun v => V v ∧ ¬ D v = true ∧ ¬ D' v = true) c p := fun p h1 h2 => w3 (h2.tr (Rc.sy hg (W := fun v => V v ∧ ¬ D v = true ∧ ¬ D' v = true) Wv h1))
      obtain ⟨p, q, v1, v2, _, _, f1, f2, e⟩ := k2 11 (fun p => Rc g (fun v => V v ∧ ¬ D v = true ∧ ¬ D' v = true) v p) ⟨v, Vv, by have := hVlt v Vv; omega, Rc.rf _ _ _⟩ ⟨c, Vc, by have := hVlt c Vc; omega, fun z => nE c z (Rc.rf _ _ _)⟩
      have Wp := Rc.mem (W := fun v => V v ∧ ¬ D v = true ∧ ¬ D' v = true) Wv f1
      have hq : D q = true ∨ D' q = true := Classical.byContradiction (fun z => f2 (f1.st ⟨v2, fun y => z (Or.inl y), fun y => z (Or.inr y)⟩ e))
      have pc : p ≠ c := fun z => nE p f1 (by rw [z]; exact Rc.rf _ _ _)
      have pc' : p ≠ c' := fun z => nE p f1 (by rw [z]; exact hcc)
      refine sep p v1 Wp.2.1 Wp.2.2 pc pc' ⟨q, hq, hg.sy e⟩ ?_
      have := hcc (fun u => Rc g (fun v => V v ∧ ¬ D v = true ∧ ¬ D' v = true) c u ∧ Rc g (fun u => (V u ∧ ¬ D u = true ∧ ¬ D' u = true) ∧ u ≠ p) c u) ⟨Rc.rf _ _ _, Rc.rf _ _ _⟩ (fun a b k1 k2 k3 => ⟨k1.1.st k2 k3, k1.2.st ⟨k2, fun z => nE p f1 (by rw [← z]; exact k1.1.st k2 k3)⟩ k3⟩)
      exact this.2
    have hsep : ∀ v, Rc g (fun v => V v ∧ ¬ D v = true ∧ ¬ D' v = true) c v → (∃ x, (D x = true ∨ D' x = true) ∧ g x v = true) → ¬ Rr g (fun v => Rc g (fun v => V v ∧ ¬ D v = true ∧ ¬ D' v = true) c v) c' v c := by
      intro v hv hx hr
      have w := EW v hv
      have hvc : v ≠ c := fun z => (hr.mem hcc).2 z.symm
      refine sep v w.1 w.2.1 w.2.2 hvc hr.1 hx ?_
      have b := Rc.sy hg (W := fun x => Rc g (fun v => V v ∧ ¬ D v = true ∧ ¬ D' v = true) c x ∧ x ≠ v) ⟨hcc, Ne.symm hr.1⟩ hr.2
      exact Rc.mono (W := fun x => Rc g (fun v => V v ∧ ¬ D v = true ∧ ¬ D' v = true) c x ∧ x ≠ v) (fun x hx => ⟨EW x hx.1, hx.2⟩) ⟨Rc.rf _ _ _, Ne.symm hvc⟩ (fun _ _ _ _ z => z) b
    obtain ⟨rz, hrb, hrz⟩ := Rr.meas cE (c' := c') hcc (fun v hv => hVlt v (EW v hv).1)
    have exA : ∃ a, (fun a => Rc g (fun v => V v ∧ ¬ D v = true ∧ ¬ D' v = true) c a ∧ ∃ x, D x = true ∧ g x a = true) a := by
      obtain ⟨p, q, v1, v2, _, _, f1, f2, e⟩ := k2 11 (fun p => D p = true) ⟨d, Vd, by have := hVlt d Vd; omega, hDd⟩ ⟨c, Vc, by have := hVlt c Vc; omega, Wc.2.1⟩
      rcases hV q v2 with z | z | z
      · exact absurd z f2
      · exact (nDD p q f1 z e).elim
      · exact ⟨q, z, p, f1, e⟩
    have exA' : ∃ a, (fun a => Rc g (fun v => V v ∧ ¬ D v = true ∧ ¬ D' v = true) c a ∧ ∃ x, D' x = true ∧ g x a = true) a := by
      obtain ⟨p, q, v1, v2, _, _, f1, f2, e⟩ := k2 11 (fun p => D' p = true) ⟨d', Vd', by have := hVlt d' Vd'; omega, hDd'⟩ ⟨c, Vc, by have := hVlt c Vc; omega, Wc.2.2⟩
      rcases hV q v2 with z | z | z
      · exact (nDD q p z f1 (hg.sy e)).elim
      · exact absurd z f2
      · exact ⟨q, z, p, f1, e⟩
    obtain ⟨a, ha, hma⟩ := max_ex _ rz 11 (fun a _ => hrb a) exA
    obtain ⟨a', ha', hma'⟩ := max_ex _ rz 11 (fun a _ => hrb a) exA'
    rcases Nat.le_total (rz a') (rz a) with hle | hle
    · obtain ⟨C, C', q1, q2, q3, q4, q5, q6, q7, q8, q9, q10, q11⟩ := q_core hg (V := V) (D := fun a => D a = true) (D' := fun a => D' a = true) (E := fun v => Rc g (fun v => V v ∧ ¬ D v = true ∧ ¬ D' v = true) c v) k2 hV (fun v h => (hD v h).1.1) (fun v h => (hD' v h).1) (fun v h => (EW v h).1) (fun v h z => (EW v z).2.1 h) (fun v h z => (EW v z).2.2 h) (fun v h => (hD v h).2) cE (Rc.rf _ _ _) hcc hDd hDd' nDD hsep hrz ha ha' hma' hle
      refine ⟨C, C', fun a => D a = true, fun a => D' a = true, ⟨fun a h => ?_, fun a h => ⟨q3 a h, (EW a (q1 a h)).2.1, (EW a (q1 a h)).2.2⟩, fun a h => ⟨(EW a (q2 a h)).2.1, (EW a (q2 a h)).2.2⟩, fun a h => (hD a h).2⟩, ⟨q4, q5, hDd, hDd'⟩, ⟨q6, q7, cD, cD'⟩, q8, q9, q10, q11⟩
      rcases h with h | h | h | h
      · exact (EW a (q1 a h)).1
      · exact (EW a (q2 a h)).1
      · exact (hD a h).1.1
      · exact (hD' a h).1
    · obtain ⟨C, C', q1, q2, q3, q4, q5, q6, q7, q8, q9, q10, q11⟩ := q_core hg (V := V) (D := fun a => D' a = true) (D' := fun a => D a = true) (E := fun v => Rc g (fun v => V v ∧ ¬ D v = true ∧ ¬ D' v = true) c v) k2 (fun v h => by
        rcases hV v h with z | z | z
        · exact Or.inr (Or.inl z)
        · exact Or.inl z
        · exact Or.inr (Or.inr z)) (fun v h => (hD' v h).1) (fun v h => (hD v h).1.1) (fun v h => (EW v h).1) (fun v h z => (EW v z).2.2 h) (fun v h z => (EW v z).2.1 h) (fun v h z => (hD v z).2 h) cE (Rc.rf _ _ _) hcc hDd' hDd (fun x y hx hy e => nDD y x hy hx (hg.sy e)) (fun v hv hx => hsep v hv (by obtain ⟨x, h1, h2⟩ := hx; exact ⟨x, h1.symm, h2⟩)) hrz ha' ha hma hle
      refine ⟨C, C', fun a => D a = true, fun a => D' a = true, ⟨fun a h => ?_, fun a h => ⟨q3 a h, (EW a (q1 a h)).2.1, (EW a (q1 a h)).2.2⟩, fun a h => ⟨(EW a (q2 a h)).2.1, (EW a (q2 a h)).2.2⟩, fun a h => (hD a h).2⟩, ⟨q4, q5, hDd, hDd'⟩, ⟨q6, q7, cD, cD'⟩, q9, q8, q11, q10⟩
      rcases h with h | h | h | h
      · exact (EW a (q1 a h)).1
      · exact (EW a (q2 a h)).1
      · exact (hD a h).1.1
      · exact (hD' a h).1
  · have Wc : V c ∧ c ≠ d ∧ c ≠ d' := ⟨Vc, n3, n4⟩
    have Wc' : V c' ∧ c' ≠ d ∧ c' ≠ d' := ⟨Vc', n5, n6⟩
    have M1 : ∀ v, Rc g (fun v => V v ∧ v ≠ d ∧ v ≠ d') c v → V v ∧ v ≠ d ∧ v ≠ d' := fun v h => Rc.mem (W := fun v => V v ∧ v ≠ d ∧ v ≠ d') Wc h
    have M2 : ∀ v, Rc g (fun v => V v ∧ v ≠ d ∧ v ≠ d') c' v → V v ∧ v ≠ d ∧ v ≠ d' := fun v h => Rc.mem (W := fun v => V v ∧ v ≠ d ∧ v ≠ d') Wc' h
    have adj : ∀ s, V s → s ≠ d → s ≠ d' → Adj g (fun v => Rc g (fun v => V v ∧ v ≠ d ∧ v ≠ d') s v) (fun a => a = d) ∧ Adj g (fun v => Rc g (fun v => V v ∧ v ≠ d ∧ v ≠ d') s v) (fun a => a = d') := fun s Vs s1 s2 => by
      have M : ∀ v, Rc g (fun v => V v ∧ v ≠ d ∧ v ≠ d') s v → V v ∧ v ≠ d ∧ v ≠ d' := fun v h => Rc.mem (W := fun v => V v ∧ v ≠ d ∧ v ≠ d') ⟨Vs, s1, s2⟩ h
      constructor
      · obtain ⟨p, q, v1, v2, m1, m2, f1, f2, e⟩ := k2 d' (fun v => Rc g (fun v => V v ∧ v ≠ d ∧ v ≠ d') s v) ⟨s, Vs, s2, Rc.rf _ _ _⟩ ⟨d, Vd, n2, fun z => (M d z).2.1 rfl⟩
        have : q = d := Classical.byContradiction (fun z => f2 (f1.st ⟨v2, z, m2⟩ e))
        exact ⟨p, q, f1, this, e⟩
      · obtain ⟨p, q, v1, v2, m1, m2, f1, f2, e⟩ := k2 d (fun v => Rc g (fun v => V v ∧ v ≠ d ∧ v ≠ d') s v) ⟨s, Vs, s1, Rc.rf _ _ _⟩ ⟨d', Vd', Ne.symm n2, fun z => (M d' z).2.2 rfl⟩
        have : q = d' := Classical.byContradiction (fun z => f2 (f1.st ⟨v2, m2, z⟩ e))
        exact ⟨p, q, f1, this, e⟩
    refine ⟨fun v => Rc g (fun v => V v ∧ v ≠ d ∧ v ≠ d') c v, fun v => Rc g (fun v => V v ∧ v ≠ d ∧ v ≠ d') c' v, fun a => a = d, fun a => a = d', ⟨fun a h => ?_, fun a h => ⟨fun z => h0 (h.tr (Rc.sy hg (W := fun v => V v ∧ v ≠ d ∧ v ≠ d') Wc' z)), (M1 a h).2.1, (M1 a h).2.2⟩, fun a h => (M2 a h).2, fun a h z => n2 (h.symm.trans z)⟩, ⟨Rc.rf _ _ _, Rc.rf _ _ _, rfl, rfl⟩, ⟨Rc.cl hg Wc, Rc.cl hg Wc', Cd.one g d, Cd.one g d'⟩, (adj c Vc n3 n4).1, (adj c Vc n3 n4).2, (adj c' Vc' n5 n6).1, (adj c' Vc' n5 n6).2⟩
    rcases h with h | h | h | h
    · exact (M1 a h).1
    · exact (M2 a h).1
    · rw [h]; exact Vd
    · rw [h]; exact Vd'
def Q3 (g : Nat → Nat → Bool) (V : Nat → Prop) (c1 c2 c3 : Nat) (C1 C2 C3 : Nat → Prop) : Prop := ((∀ a, C1 a ∨ C2 a ∨ C3 a → V a) ∧ (∀ a, C1 a → ¬ C2 a ∧ ¬ C3 a) ∧ (∀ a, C2 a → ¬ C3 a)) ∧ (C1 c1 ∧ C2 c2 ∧ C3 c3) ∧ (Cd g C1 ∧ Cd g C2 ∧ Cd g C3) ∧ Adj g C1 C2 ∧ Adj g C1 C3 ∧ Adj g C2 C3
theorem lem_Q3 {g : Nat → Nat → Bool} (hg : Gb g) {V : Nat → Prop} (hVlt : ∀ v, V v → v < 11) (k2 : K2 g V) {c d c' : Nat} (Vc : V c) (Vd : V d) (Vc' : V c') (n1 : c ≠ c') (n3 : c ≠ d) (n5 : c' ≠ d) : ∃ C D C', Q3 g V c d c' C D C' := by
  have h0 : Rc g (fun v => V v ∧ v ≠ d) c c' := by
    apply Classical.byContradiction
    intro hno
    obtain ⟨p, q, v1, v2, m1, m2, f1, f2, e⟩ := k2 d (fun v => Rc g (fun v => V v ∧ v ≠ d) c v) ⟨c, Vc, n3, Rc.rf _ _ _⟩ ⟨c', Vc', n5, hno⟩
    exact f2 (f1.st ⟨v2, m2⟩ e)
  obtain ⟨D, hΦ, hmax⟩ := max_ex (fun p : Nat → Bool => p d = true ∧ (∀ a, p a = true → V a ∧ a ≠ c ∧ a ≠ c') ∧ Cd g (fun a => p a = true) ∧ Rc g (fun v => V v ∧ ¬ p v = true) c c') ns 11 (fun p _ => ns_le p) (by
    have one : Cd g (fun a => decide (a = d) = true) := fun a b ha hb => by
      have ha : decide (a = d) = true := ha
      have hb : decide (b = d) = true := hb
      rw [decide_eq_true_iff] at ha hb
      rw [ha, hb]; exact Rc.rf _ _ _
    refine ⟨fun i => decide (i = d), decide_eq_true rfl, fun a ha => ?_, one, ?_⟩
    · have ha : a = d := decide_eq_true_iff.mp ha
      rw [ha]
      exact ⟨Vd, Ne.symm n3, Ne.symm n5⟩
    · exact Rc.mono (W := fun v => V v ∧ v ≠ d) (fun v hv => ⟨hv.1, fun z => hv.2 (decide_eq_true_iff.mp z)⟩) ⟨Vc, n3⟩ (fun _ _ _ _ z => z) h0)
  obtain ⟨hDd, hD, cD, hcc⟩ := hΦ
  have Wc : V c ∧ ¬ D c = true := ⟨Vc, fun z => (hD c z).2.1 rfl⟩
  have cE : Cd g (fun v => Rc g (fun v => V v ∧ ¬ D v = true) c v) := Rc.cl hg Wc
  have EW : ∀ v, Rc g (fun v => V v ∧ ¬ D v = true) c v → V v ∧ ¬ D v = true := fun v h => Rc.mem (W := fun v => V v ∧ ¬ D v = true) Wc h
  have tr : ∀ (a v : Nat), (D a || decide (a = v)) = true → D a = true ∨ a = v := fun a v h => by
    rw [Bool.or_eq_true, decide_eq_true_iff] at h; exact h
  have sep : ∀ v, V v → ¬ D v = true → v ≠ c → v ≠ c' → (∃ x, D x = true ∧ g x v = true) → ¬ Rc g (fun u => (V u ∧ ¬ D u = true) ∧ u ≠ v) c c' := by
    intro v Vv h1 h3 h4 hx hr
    obtain ⟨x, hx, e⟩ := hx
    have cun := Cd.un hg cD (Cd.one g v) ⟨x, v, hx, rfl, e⟩
    have := hmax (fun i => D i || decide (i = v)) ⟨by show (D d || decide (d = v)) = true; rw [hDd]; rfl, fun a ha => ?_, fun p q hp hq => ?_, ?_⟩
    · rw [ns_add (hVlt v Vv) h1] at this
      omega
    · rcases tr a v ha with z | z
      · exact hD a z
      · rw [z]; exact ⟨Vv, h3, h4⟩
    · exact Rc.mono (W := fun a => D a = true ∨ a = v) (fun a h => by
        show (D a || decide (a = v)) = true
        rw [Bool.or_eq_true, decide_eq_true_iff]; exact h) (tr p v hp) (fun _ _ _ _ z => z) (cun p q (tr p v hp) (tr q v hq))
    · exact Rc.mono (W := fun u => (V u ∧ ¬ D u = true) ∧ u ≠ v) (fun u hu => ⟨hu.1.1, fun z => (tr u v z).elim hu.1.2 hu.2⟩) ⟨Wc, Ne.symm h3⟩ (fun _ _ _ _ z => z) hr
  have hV : ∀ v, V v → D v = true ∨ Rc g (fun v => V v ∧ ¬ D v = true) c v := by
    intro v Vv
    apply Classical.byContradiction
    intro hno
    have w1 : ¬ D v = true := fun z => hno (Or.inl z)
    have w3 : ¬ Rc g (fun v => V v ∧ ¬ D v = true) c v := fun z => hno (Or.inr z)
    have Wv : V v ∧ ¬ D v = true := ⟨Vv, w1⟩
    have nE : ∀ p, Rc g (fun v => V v ∧ ¬ D v = true) v p → ¬ Rc g (fun v => V v ∧ ¬ D v = true) c p := fun p h1 h2 => w3 (h2.tr (Rc.sy hg (W := fun v => V v ∧ ¬ D v = true) Wv h1))
    obtain ⟨p, q, v1, v2, _, _, f1, f2, e⟩ := k2 11 (fun p => Rc g (fun v => V v ∧ ¬ D v = true) v p) ⟨v, Vv, by have := hVlt v Vv; omega, Rc.rf _ _ _⟩ ⟨c, Vc, by have := hVlt c Vc; omega, fun z => nE c z (Rc.rf _ _ _)⟩
    have Wp := Rc.mem (W := fun v => V v ∧ ¬ D v = true) Wv f1
    have hq : D q = true := Classical.byContradiction (fun z => f2 (f1.st ⟨v2, z⟩ e))
    have pc : p ≠ c := fun z => nE p f1 (by rw [z]; exact Rc.rf _ _ _)
    have pc' : p ≠ c' := fun z => nE p f1 (by rw [z]; exact hcc)
    refine sep p v1 Wp.2 pc pc' ⟨q, hq, hg.sy e⟩ ?_
    have := hcc (fun u => Rc g (fun v => V v ∧ ¬ D v = true) c u ∧ Rc g (fun u => (V u ∧ ¬ D u = true) ∧ u ≠ p) c u) ⟨Rc.rf _ _ _, Rc.rf _ _ _⟩ (fun a b k1 k2 k3 => ⟨k1.1.st k2 k3, k1.2.st ⟨k2, fun z => nE p f1 (by rw [← z]; exact k1.1.st k2 k3)⟩ k3⟩)
    exact this.2
  have hsep : ∀ v, Rc g (fun v => V v ∧ ¬ D v = true) c v → (∃ x, D x = true ∧ g x v = true) → ¬ Rr g (fun v => Rc g (fun v => V v ∧ ¬ D v = true) c v) c' v c := by
    intro v hv hx hr
    have w := EW v hv
    have hvc : v ≠ c := fun z => (hr.mem hcc).2 z.symm
    refine sep v w.1 w.2 hvc hr.1 hx ?_
    have b := Rc.sy hg (W := fun x => Rc g (fun v => V v ∧ ¬ D v = true) c x ∧ x ≠ v) ⟨hcc, Ne.symm hr.1⟩ hr.2
    exact Rc.mono (W := fun x => Rc g (fun v => V v ∧ ¬ D v = true) c x ∧ x ≠ v) (fun x hx => ⟨EW x hx.1, hx.2⟩) ⟨Rc.rf _ _ _, Ne.symm hvc⟩ (fun _ _ _ _ z => z) b
  obtain ⟨rz, hrb, hrz⟩ := Rr.meas cE (c' := c') hcc (fun v hv => hVlt v (EW v hv).1)
  have exA : ∃ a, (fun a => Rc g (fun v => V v ∧ ¬ D v = true) c a ∧ ∃ x, D x = true ∧ g x a = true) a := by
    obtain ⟨p, q, v1, v2, _, _, f1, f2, e⟩ := k2 11 (fun p => D p = true) ⟨d, Vd, by have := hVlt d Vd; omega, hDd⟩ ⟨c, Vc, by have := hVlt c Vc; omega, Wc.2⟩
    rcases hV q v2 with z | z
    · exact absurd z f2
    · exact ⟨q, z, p, f1, e⟩
  obtain ⟨a, ha, hma⟩ := max_ex _ rz 11 (fun a _ => hrb a) exA
  have had : d ≠ a := fun z => (EW a ha.1).2 (by rw [← z]; exact hDd)
  obtain ⟨y, hy1, hy2, hy3⟩ : ∃ y, Rc g (fun v => V v ∧ ¬ D v = true) c y ∧ (∃ x, D x = true ∧ g x y = true) ∧ y ≠ a := by
    have other : ∃ b, V b ∧ b ≠ a ∧ ¬ D b = true := by
      by_cases z : c = a
      · exact ⟨c', Vc', fun y => n1 (z.trans y.symm), fun y => (hD c' y).2.2 rfl⟩
      · exact ⟨c, Vc, z, Wc.2⟩
    obtain ⟨p, q, v1, v2, m1, m2, f1, f2, e⟩ := k2 a (fun p => D p = true) ⟨d, Vd, had, hDd⟩ other
    rcases hV q v2 with z | z
    · exact absurd z f2
    · exact ⟨q, z, ⟨p, f1, e⟩, m2⟩
  have hyR : Rr g (fun v => Rc g (fun v => V v ∧ ¬ D v = true) c v) c' a y := by
    apply Classical.byContradiction
    intro h
    have h1 := hrz y a hy1 ha.1 h hy3
    have h2 := hma y ⟨hy1, hy2⟩
    omega
  have hac' := hyR.1
  have hsa := hsep a ha.1 ha.2
  refine ⟨fun u => Rc g (fun v => V v ∧ ¬ D v = true) c u ∧ ¬ Rr g (fun v => Rc g (fun v => V v ∧ ¬ D v = true) c v) c' a u, fun a => D a = true, fun u => Rr g (fun v => Rc g (fun v => V v ∧ ¬ D v = true) c v) c' a u, ⟨fun x h => ?_, fun x h => ⟨(EW x h.1).2, h.2⟩, fun x h z => (EW x (z.mem hcc).1).2 h⟩, ⟨⟨Rc.rf _ _ _, hsa⟩, hDd, Rr.self hac'⟩, ⟨Rr.connT hg cE (Rc.rf _ _ _) ha.1 hsa, cD, Rr.conn hg hcc hac'⟩, ?_, ?_, ?_⟩
  · rcases h with h | h | h
    · exact (EW x h.1).1
    · exact (hD x h).1
    · exact (EW x (h.mem hcc).1).1
  · obtain ⟨x, h1, h2⟩ := ha.2
    exact ⟨a, x, ⟨ha.1, fun z => (z.mem hcc).2 rfl⟩, h1, hg.sy h2⟩
  · have := cE c c' (Rc.rf _ _ _) hcc (fun u => Rc g (fun v => V v ∧ ¬ D v = true) c u ∧ (¬ Rr g (fun v => Rc g (fun v => V v ∧ ¬ D v = true) c v) c' a u ∨ Adj g (fun u => Rc g (fun v => V v ∧ ¬ D v = true) c u ∧ ¬ Rr g (fun v => Rc g (fun v => V v ∧ ¬ D v = true) c v) c' a u) (fun u => Rr g (fun v => Rc g (fun v => V v ∧ ¬ D v = true) c v) c' a u))) ⟨Rc.rf _ _ _, Or.inl hsa⟩ (fun w b h1 h2 h3 => by
      refine ⟨h2, ?_⟩
      rcases h1.2 with q | q
      · by_cases cb : Rr g (fun v => Rc g (fun v => V v ∧ ¬ D v = true) c v) c' a b
        · exact Or.inr ⟨w, b, ⟨h1.1, q⟩, cb, h3⟩
        · exact Or.inl cb
      · exact Or.inr q)
    exact this.2.resolve_left (fun z => z (Rr.self hac'))
  · obtain ⟨x, h1, h2⟩ := hy2
    exact ⟨x, y, h1, hyR, h2⟩
