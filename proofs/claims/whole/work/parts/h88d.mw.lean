theorem PQ_ZZ {M : Nat} {ad : Nat → Nat → Prop} {fr to way dep abo : Nat → Int32} {par D F G : Nat → Nat} (h : MW M ad fr to way dep abo par D F G) : (∃ la, PQ M ad way par D F G M 0 la) ↔ ZZ ad := by
  obtain ⟨h1, h2, hF, h4, h5, h6, h7, h8⟩ := h
  constructor
  · rintro ⟨la, hla⟩
    have all : ∀ e f, e < M → f < M → e ≠ f → F e = F f → CfM M ad way par D F G la e f := fun e f he hf hne hff => by
      rcases Nat.lt_or_ge e f with q | q
      · exact hla e f q hf (Or.inl he) hff
      · exact (hla f e (by omega) he (Or.inl hf) hff.symm).sw
    have itm : ∀ v u t s, rtn ad par D v u t s → ∃ e, e < M ∧ F e = v ∧ G e = u := by
      rintro v u t s ⟨q1, q2, ⟨q3, q4, q5⟩ | ⟨q3, q4⟩⟩
      · obtain ⟨e, e1, e2, e3⟩ := h6 u q4
        rcases h4 e e1 with ⟨_, z1, _⟩ | ⟨z, _⟩
        · rw [e3, q3] at z1; exact ⟨e, e1, z1.symm, e3⟩
        · rw [z] at e2; exact absurd e2 (by decide)
      · obtain ⟨e, e1, e2, e3, e4⟩ := h7 t s q1
        exact ⟨e, e1, by rw [e4, q4], by rw [e3, q3]⟩
    have hix : ∀ v u t s e, rtn ad par D v u t s → F e = v → G e = u → RM M ad way par D F G e (Classical.epsilon (fun r => r < M ∧ way r = 2 ∧ G r = t ∧ F r = s)) ∧ D (G (Classical.epsilon (fun r => r < M ∧ way r = 2 ∧ G r = t ∧ F r = s))) = D t := fun v u t s e hr e1 e2 => by
      have sp := Classical.epsilon_spec (h7 t s hr.1)
      obtain ⟨s1, s2, s3, s4⟩ := sp
      refine ⟨⟨s1, s2, ?_⟩, by rw [s3]⟩
      rw [e1, e2, s3, s4]; exact hr
    refine Sat_Z hF h8 (la := fun t s => la (Classical.epsilon (fun r => r < M ∧ way r = 2 ∧ G r = t ∧ F r = s))) ⟨?_, ?_⟩
    · intro v u u' t s t2 s2 tg sg hu r1 r2 r3 d1 d2
      obtain ⟨e, a1, a2, a3⟩ := itm v u t s r1
      obtain ⟨f, b1, b2, b3⟩ := itm v u' tg sg r3
      obtain ⟨z, c1, c2⟩ := all e f a1 b1 (fun q => hu (by rw [← a3, ← b3, q])) (by rw [a2, b2])
      obtain ⟨i1, e1⟩ := hix v u t s e r1 a2 a3
      obtain ⟨i2, e2⟩ := hix v u t2 s2 e r2 a2 a3
      obtain ⟨i3, e3⟩ := hix v u' tg sg f r3 b2 b3
      have k1 := c1 _ ⟨i1, _, i3, by show D (G _) < D (G _); rw [e1, e3]; exact d1⟩
      have k2 := c1 _ ⟨i2, _, i3, by show D (G _) < D (G _); rw [e2, e3]; exact d2⟩
      exact k1.trans k2.symm
    · intro v u u' t s t2 s2 tg sg th sh hu r1 r2 r3 d1 r4 d2
      obtain ⟨e, a1, a2, a3⟩ := itm v u t s r1
      obtain ⟨f, b1, b2, b3⟩ := itm v u' tg sg r3
      obtain ⟨z, c1, c2⟩ := all e f a1 b1 (fun q => hu (by rw [← a3, ← b3, q])) (by rw [a2, b2])
      obtain ⟨i1, e1⟩ := hix v u t s e r1 a2 a3
      obtain ⟨i2, e2⟩ := hix v u' t2 s2 f r2 b2 b3
      obtain ⟨i3, e3⟩ := hix v u' tg sg f r3 b2 b3
      obtain ⟨i4, e4⟩ := hix v u th sh e r4 a2 a3
      have k1 := c1 _ ⟨i1, _, i3, by show D (G _) < D (G _); rw [e1, e3]; exact d1⟩
      have k2 := c2 _ ⟨i2, _, i4, by show D (G _) < D (G _); rw [e2, e4]; exact d2⟩
      show (la _ + la _) % 2 = 1
      omega
  · rintro ⟨x, hx⟩
    refine ⟨fun r => rt (fun u w => if u < w then 1 else 0) x (G r) (F r) (cyc par D (G r) (F r) 1) (par (G r)), fun e f hef hf _ hff => ?_⟩
    have hne : G e ≠ G f := fun q => by have := h5 e f (by omega) hf hff q; omega
    refine ⟨rt (fun u w => if u < w then 1 else 0) x (F e) (par (F e)) (G e) (G f), fun n hn => ?_, fun n hn => ?_⟩
    · obtain ⟨k1, m, k2, k3⟩ := hn
      have r2 := k2.2.2
      rw [← hff] at r2
      exact side_eq Tn_lt hx hF k1.2.2 r2 hne k3
    · obtain ⟨k1, m, k2, k3⟩ := hn
      have r1 := k1.2.2
      rw [← hff] at r1
      have e1 := side_eq Tn_lt hx hF r1 k2.2.2 (Ne.symm hne) k3
      have s := rt_swap Tn_lt (x := x) (a := F e) (u := par (F e)) (v := G e) (w := G f) hne
      show (rt _ x (G n) (F n) (cyc par D (G n) (F n) 1) (par (G n)) + rt _ x (F e) (par (F e)) (G e) (G f)) % 2 = 1
      omega
def Pc {α : Type} (o : Option α) (P : α → Prop) : Prop := ∀ r, o = some r → P r
theorem pc_some {α : Type} {a : α} {P : α → Prop} (h : P a) : Pc (some a) P := fun r e => by rw [← Option.some.inj e]; exact h
theorem pc_bind {α β : Type} {o : Option α} {f : α → Option β} {Q : α → Prop} {P : β → Prop} (h : Pc o Q) (k : ∀ a, Q a → Pc (f a) P) : Pc (o.bind f) P := fun r e => by
  cases ho : o with
  | none => rw [ho] at e; cases e
  | some a => rw [ho] at e; exact k a (h a ho) r e
theorem pc_if {α : Type} {c : Prop} [Decidable c] {a b : Option α} {P : α → Prop} (h1 : c → Pc a P) (h2 : ¬ c → Pc b P) : Pc (if c then a else b) P := by
  by_cases hc : c
  · rw [if_pos hc]; exact h1 hc
  · rw [if_neg hc]; exact h2 hc
theorem pc_th {α : Type} {c : Prop} [Decidable c] {a : Option α} {P : α → Prop} (h : c → Pc a P) : Pc (if c then a else none) P := pc_if h (fun _ r e => by cases e)
theorem Ok.and_pc {α : Type} {o : Option α} {P Q : α → Prop} (h : Ok o P) (g : Pc o Q) : Ok o (fun a => P a ∧ Q a) := by
  obtain ⟨a, e, h1⟩ := h
  exact ⟨a, e, h1, g a e⟩
theorem Fo.visit {ad : Nat → Nat → Prop} (hW : (∀ a b, ad a b → a ≠ b) ∧ ∀ a b, ad a b → ad b a) {V : Nat → Prop} {par D : Nat → Nat} (h1 : Fo ad V par D) {b d p : Nat} (hb : b < 11) (hnb : ¬ V b) (hd : d < 11) (hp : d = 0 ∨ (d = D p + 1 ∧ V p ∧ ad p b)) (hdn : ∀ w, V w → ad w b → d = D p + 1 ∧ V p ∧ An par D w p) : Fo ad (fun w => V w ∨ w = b) (fun w => if w = b then p else par w) (fun w => if w = b then d else D w) := by
  have ne : ∀ w, V w → w ≠ b := fun w hw e => hnb (by rw [← e]; exact hw)
  have he : ∀ w, V w → (fun w => if w = b then p else par w) w = par w ∧ (fun w => if w = b then d else D w) w = D w := fun w hw => ⟨if_neg (ne w hw), if_neg (ne w hw)⟩
  have Eb : (fun w => if w = b then d else D w) b = d := if_pos rfl
  have Pb : (fun w => if w = b then p else par w) b = p := if_pos rfl
  have anb : ∀ w, V w → d = D p + 1 → V p → An par D w p → An (fun w => if w = b then p else par w) (fun w => if w = b then d else D w) w b := by
    intro w hw e hp' ha
    have ha' := (An_ext h1 he hp').mpr ha
    obtain ⟨a1, a2⟩ := ha'
    unfold An
    rw [Eb]
    have ew := (he w hw).2
    have ep := (he p hp').2
    rw [ew, ep] at a1 a2
    rw [ew]
    refine ⟨by omega, ?_⟩
    rw [show d - D w = (D p - D w) + 1 by omega, up_add, up, up, if_pos rfl]
    exact a2
  refine ⟨fun w hw => ?_, fun w hw => ?_, fun w hw => ?_, fun u w hu hw huw => ?_⟩
  · rcases hw with hw | hw
    · rw [(he w hw).2]; exact h1.1 w hw
    · subst hw
      rw [Eb]; exact ⟨hb, hd⟩
  · show (if w = b then d else D w) = 0
    rw [if_neg (fun e => hw (Or.inr e))]
    exact h1.2.1 w (fun e => hw (Or.inl e))
  · by_cases c : w = b
    · subst c
      rw [Eb] at hw
      rcases hp with hp | ⟨q1, q2, q3⟩
      · omega
      · rw [Pb, Eb, (he p q2).2]
        exact ⟨q1.symm, q3, Or.inl q2⟩
    · have hw : 0 < (if w = b then d else D w) := hw
      rw [if_neg c] at hw
      obtain ⟨q1, q2, q3⟩ := h1.2.2.1 w hw
      rw [(he w (h1.vis hw)).1, (he w (h1.vis hw)).2, (he _ q3).2]
      exact ⟨q1, q2, Or.inl q3⟩
  · rcases hu with hu | hu
    · rcases hw with hw | hw
      · rcases h1.2.2.2 u w hu hw huw with q | q
        · exact Or.inl ((An_ext h1 he hw).mpr q)
        · exact Or.inr ((An_ext h1 he hu).mpr q)
      · subst hw
        obtain ⟨q1, q2, q3⟩ := hdn u hu huw
        exact Or.inl (anb u hu q1 q2 q3)
    · subst hu
      rcases hw with hw | hw
      · obtain ⟨q1, q2, q3⟩ := hdn w hw (hW.2 _ _ huw)
        exact Or.inr (anb w hw q1 q2 q3)
      · exact absurd hw.symm (hW.1 _ _ huw)
def ED (M : Nat) (ad : Nat → Nat → Prop) (A B : Nat → Nat) : Prop := (∀ e, e < M → A e < 11 ∧ B e < 11 ∧ A e ≠ B e) ∧ (∀ a b, ad a b ↔ ∃ e, e < M ∧ ((A e = a ∧ B e = b) ∨ (A e = b ∧ B e = a))) ∧ ∀ e f, e < M → f < M → ((A e = A f ∧ B e = B f) ∨ (A e = B f ∧ B e = A f)) → e = f
theorem ED.sy {M : Nat} {ad : Nat → Nat → Prop} {A B : Nat → Nat} (h : ED M ad A B) : (∀ a b, ad a b → a ≠ b) ∧ ∀ a b, ad a b → ad b a := by
  refine ⟨fun a b hab e => ?_, fun a b hab => ?_⟩
  · obtain ⟨f, h1, h2⟩ := (h.2.1 a b).mp hab
    have := (h.1 f h1).2.2
    rcases h2 with ⟨q1, q2⟩ | ⟨q1, q2⟩
    · exact this (by rw [q1, q2, e])
    · exact this (by rw [q1, q2, e])
  · obtain ⟨f, h1, h2⟩ := (h.2.1 a b).mp hab
    exact (h.2.1 b a).mpr ⟨f, h1, h2.symm⟩
def RWk (M : Nat) (ad : Nat → Nat → Prop) (A B : Nat → Nat) (n : Nat) (fr to way dep abo pile nxt : Nat → Int32) (V : Nat → Prop) (par D F G pl nx : Nat → Nat) : Prop :=
  Fo ad V par D ∧ ((∀ w, V w → dep w = nI (D w) ∧ (0 < D w → abo w = nI (par w))) ∧ ∀ w, w < 11 → ¬ V w → dep w = -1) ∧ (n ≤ 11 ∧ (∀ i, i < n → V (pl i) ∧ D (pl i) = i ∧ pile i = nI (pl i) ∧ nx i ≤ M ∧ nxt i = nI (nx i)) ∧ ∀ i, i + 1 < n → par (pl (i + 1)) = pl i) ∧ (∀ e, e < M → way e = 0 ∨ ((fr e = nI (F e) ∧ to e = nI (G e) ∧ V (F e) ∧ V (G e)) ∧ ((A e = F e ∧ B e = G e) ∨ (A e = G e ∧ B e = F e)) ∧ ((way e = 1 ∧ par (G e) = F e ∧ 0 < D (G e)) ∨ (way e = 2 ∧ bk ad par D (G e) (F e))))) ∧ ((∀ w, V w → (∃ i, i < n ∧ pl i = w) ∨ ∀ e, e < M → (A e = w ∨ B e = w) → way e ≠ 0) ∧ ∀ i, i < n → ∀ e, e < nx i → (A e = pl i ∨ B e = pl i) → way e ≠ 0) ∧ ∀ w, 0 < D w → ∃ e, e < M ∧ way e = 1 ∧ G e = w
theorem RWk.an {M : Nat} {ad : Nat → Nat → Prop} {A B : Nat → Nat} {n : Nat} {fr to way dep abo pile nxt : Nat → Int32} {V : Nat → Prop} {par D F G pl nx : Nat → Nat} (hF : FR ad par D) (h : RWk M ad A B n fr to way dep abo pile nxt V par D F G pl nx) : ∀ k i, i + k < n → An par D (pl i) (pl (i + k))
  | 0, i, _ => An.rf _
  | k + 1, i, hk => by
    have h1 := RWk.an hF h k i (by omega)
    have h2 := h.2.2.1.2.2 (i + k) (by omega)
    have h3 := (h.2.2.1.2.1 (i + k + 1) (by omega)).2.1
    have h4 := An.par hF (w := pl (i + k + 1)) (by omega)
    rw [h2] at h4
    exact h1.tr h4
