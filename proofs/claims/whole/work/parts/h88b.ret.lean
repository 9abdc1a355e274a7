def MW (M : Nat) (ad : Nat → Nat → Prop) (fr to way dep abo : Nat → Int32) (par D F G : Nat → Nat) : Prop :=
  (∀ e, e < M → F e < 11 ∧ G e < 11 ∧ fr e = nI (F e) ∧ to e = nI (G e)) ∧ (∀ w, w < 11 → dep w = nI (D w) ∧ D w < 11 ∧ (0 < D w → abo w = nI (par w) ∧ par w < 11)) ∧ FR ad par D ∧ (∀ e, e < M → (way e = 1 ∧ par (G e) = F e ∧ 0 < D (G e)) ∨ (way e = 2 ∧ bk ad par D (G e) (F e))) ∧ (∀ e f, e < M → f < M → F e = F f → G e = G f → e = f) ∧ (∀ w, 0 < D w → ∃ e, e < M ∧ way e = 1 ∧ G e = w) ∧ (∀ t s, bk ad par D t s → ∃ e, e < M ∧ way e = 2 ∧ G e = t ∧ F e = s) ∧ ∀ a b, ad a b → a ≠ b ∧ (An par D a b ∨ An par D b a)
def RM (M : Nat) (ad : Nat → Nat → Prop) (way : Nat → Int32) (par D F G : Nat → Nat) (e r : Nat) : Prop := r < M ∧ way r = 2 ∧ rtn ad par D (F e) (G e) (G r) (F r)
theorem below_L2 {dep abo : Nat → Int32} {ad : Nat → Nat → Prop} {par D : Nat → Nat} (hF : FR ad par D) (hD : ∀ w, w < 11 → dep w = nI (D w) ∧ D w < 11 ∧ (0 < D w → abo w = nI (par w) ∧ par w < 11)) {x w : Nat} (hw : w < 11) : ∀ (f v : Nat), v < 11 → An par D v x → (D w ≤ D v ∨ v = x) → D v < f → (F_isBelowM_L2 (fun v3_2 => (if v3_2 = nI w then some ((1 : Int32)) else some ((0 : Int32)))) dep abo (nI w) f (nI v) = some 1 ∧ An par D w x) ∨ (F_isBelowM_L2 (fun v3_2 => (if v3_2 = nI w then some ((1 : Int32)) else some ((0 : Int32)))) dep abo (nI w) f (nI v) = some 0 ∧ ¬ An par D w x)
  | 0, v, _, _, _, h => by omega
  | f + 1, v, hv, hvx, hor, hf => by
    obtain ⟨d1, d2, d3⟩ := hD v hv
    obtain ⟨e1, e2, e3⟩ := hD w hw
    rw [F_isBelowM_L2, if_neg (nI_nn (by omega)), if_pos (inb_nI hv (by decide)), if_pos (inb_nI hw (by decide)), nI_clamp (by omega), nI_clamp (by omega), d1, e1]
    by_cases c : D v ≤ D w
    · rw [if_pos ((nLe (by omega) (by omega)).mpr c)]
      by_cases c2 : v = w
      · subst c2
        exact Or.inl ⟨if_pos rfl, hvx⟩
      · refine Or.inr ⟨if_neg (fun e => c2 ((nI_eq_iff (by omega) (by omega)).mp e)), fun h9 => c2 ?_⟩
        rcases hor with h | h
        · exact An.eq hvx h9 (by omega)
        · subst h
          exact An.eq hvx h9 (by have := h9.1; omega)
    · rw [if_neg (fun h9 => c ((nLe (by omega) (by omega)).mp h9))]
      obtain ⟨q1, q2⟩ := d3 (by omega)
      have q3 := (hF.2 v (by omega)).1
      rw [q1]
      exact below_L2 hF hD hw f (par v) q2 ((An.par hF (by omega)).tr hvx) (Or.inl (by omega)) (by omega)
theorem below_sem {dep abo : Nat → Int32} {ad : Nat → Nat → Prop} {par D : Nat → Nat} (hF : FR ad par D) (hD : ∀ w, w < 11 → dep w = nI (D w) ∧ D w < 11 ∧ (0 < D w → abo w = nI (par w) ∧ par w < 11)) {x w : Nat} (hx : x < 11) (hw : w < 11) : (F_isBelowM dep abo (nI x) (nI w) = some 1 ∧ An par D w x) ∨ (F_isBelowM dep abo (nI x) (nI w) = some 0 ∧ ¬ An par D w x) := below_L2 hF hD hw 64 x hx (An.rf x) (Or.inr rfl) (by have := (hD x hx).2.1; omega)
theorem ret_sem {M : Nat} (hM : M ≤ 40) {ad : Nat → Nat → Prop} {fr to way dep abo : Nat → Int32} {par D F G : Nat → Nat} (h : MW M ad fr to way dep abo par D F G) {e r : Nat} (he : e < M) (hr : r < M) : (F_returnsM fr to way dep abo (nI e) (nI r) = some 1 ∧ RM M ad way par D F G e r) ∨ (F_returnsM fr to way dep abo (nI e) (nI r) = some 0 ∧ ¬ RM M ad way par D F G e r) := by
  obtain ⟨h1, h2, hF, h4, h5, h6, h7, h8⟩ := h
  obtain ⟨a1, a2, a3, a4⟩ := h1 e he
  obtain ⟨b1, b2, b3, b4⟩ := h1 r hr
  unfold F_returnsM
  rw [if_pos (inb_nI (by omega) (by decide)), nI_clamp (by omega), nI_clamp (show r < 2 ^ 31 by omega)]
  rcases h4 e he with ⟨w1, w2, w3⟩ | ⟨w1, w2⟩
  · have pe := (hF.2 _ w3).1
    rw [w2] at pe
    rw [if_neg (show ¬ way e = 2 by rw [w1]; decide), if_pos (inb_nI (show r < 40 by omega) (by decide)), a3, b4]
    by_cases c : way r = 2
    · rw [if_pos c, if_pos (inb_nI b2 (by decide)), if_pos (inb_nI a1 (by decide)), nI_clamp (by omega), nI_clamp (by omega), (h2 _ a1).1, (h2 _ b2).1, b3, a4]
      have hbk : bk ad par D (G r) (F r) := by
        rcases h4 r hr with ⟨q, _⟩ | ⟨_, q⟩
        · rw [q] at c; exact absurd c (by decide)
        · exact q
      by_cases c2 : D (F e) ≤ D (G r)
      · rw [if_pos ((nLe (by have := (h2 _ a1).2.1; omega) (by have := (h2 _ b2).2.1; omega)).mpr c2)]
        refine Or.inr ⟨rfl, fun h9 => ?_⟩
        have := h9.2.2.2.1
        omega
      · rw [if_neg (fun h9 => c2 ((nLe (by have := (h2 _ a1).2.1; omega) (by have := (h2 _ b2).2.1; omega)).mp h9))]
        rcases below_sem hF h2 b1 a2 with ⟨q1, q2⟩ | ⟨q1, q2⟩
        · rw [q1, Option.bind_some, if_neg (by decide)]
          exact Or.inl ⟨rfl, hr, c, hbk, by omega, Or.inl ⟨w2, w3, q2⟩⟩
        · rw [q1, Option.bind_some, if_pos rfl]
          refine Or.inr ⟨rfl, fun h9 => ?_⟩
          rcases h9.2.2.2.2 with ⟨_, _, z⟩ | ⟨z1, z2⟩
          · exact q2 z
          · have := h5 e r he hr z2.symm z1
            rw [this, c] at w1
            exact absurd w1 (by decide)
    · rw [if_neg c]
      exact Or.inr ⟨rfl, fun h9 => c h9.2.1⟩
  · rw [if_pos w1]
    have hd := w2.2.2
    by_cases c : r = e
    · subst c
      rw [if_pos rfl]
      exact Or.inl ⟨rfl, hr, w1, w2, by omega, Or.inr ⟨rfl, rfl⟩⟩
    · rw [if_neg (fun q => c ((nI_eq_iff (by omega) (by omega)).mp q))]
      refine Or.inr ⟨rfl, fun h9 => ?_⟩
      rcases h9.2.2.2.2 with ⟨z1, z2, _⟩ | ⟨z1, z2⟩
      · have := (hF.2 _ z2).1
        rw [z1] at this; omega
      · exact c (h5 e r he hr z2.symm z1).symm
theorem low_L {M : Nat} (hM : M ≤ 40) {ad : Nat → Nat → Prop} {fr to way dep abo : Nat → Int32} {par D F G : Nat → Nat} (h : MW M ad fr to way dep abo par D F G) {e : Nat} (he : e < M) : ∀ (f j v : Nat), j ≤ M → M < j + f → v ≤ D (F e) → (∀ r, r < j → RM M ad way par D F G e r → v ≤ D (G r)) → (v = D (F e) ∨ ∃ r, RM M ad way par D F G e r ∧ D (G r) = v) → ∃ g, F_lowestM_L14 (fun v _ => some v) (nI M) fr to way dep abo (nI e) f (nI v) (nI j) = some (nI g) ∧ g ≤ D (F e) ∧ (∀ r, RM M ad way par D F G e r → g ≤ D (G r)) ∧ (g = D (F e) ∨ ∃ r, RM M ad way par D F G e r ∧ D (G r) = g)
  | 0, j, v, h2, h3, _, _, _ => by omega
  | f + 1, j, v, h2, h3, k1, k2, k3 => by
    rw [F_lowestM_L14]
    by_cases c : M ≤ j
    · rw [if_pos ((nLe (by omega) (by omega)).mpr c)]
      exact ⟨v, rfl, k1, fun r hr => k2 r (by have := hr.1; omega) hr, k3⟩
    · rw [if_neg (fun h9 => c ((nLe (by omega) (by omega)).mp h9))]
      have hj : j < M := by omega
      obtain ⟨b1, b2, b3, b4⟩ := h.1 j hj
      obtain ⟨d1, d2, _⟩ := h.2.1 _ b2
      obtain ⟨e1, e2, _⟩ := h.2.1 _ (h.1 e he).1
      have nxt : ∀ v', v' ≤ D (F e) → (∀ r, r < j → RM M ad way par D F G e r → v' ≤ D (G r)) → (RM M ad way par D F G e j → v' ≤ D (G j)) → ∀ r, r < j + 1 → RM M ad way par D F G e r → v' ≤ D (G r) := by
        intro v' _ q1 q2 r hr hR
        by_cases e : r = j
        · subst e; exact q2 hR
        · exact q1 r (by omega) hR
      rcases ret_sem hM h he hj with ⟨q1, q2⟩ | ⟨q1, q2⟩
      · rw [q1, Option.bind_some, if_neg (by decide), if_pos (inb_nI (show j < 40 by omega) (by decide)), nI_clamp (show j < 2 ^ 31 by omega), b4, if_pos (inb_nI b2 (by decide)), nI_clamp (by omega), d1, nI_add1]
        by_cases c2 : v ≤ D (G j)
        · rw [if_pos ((nLe (by omega) (by omega)).mpr c2), Option.bind_some]
          exact low_L hM h he f (j + 1) v (by omega) (by omega) k1 (nxt v k1 k2 (fun _ => c2)) k3
        · rw [if_neg (fun h9 => c2 ((nLe (by omega) (by omega)).mp h9)), Option.bind_some]
          exact low_L hM h he f (j + 1) (D (G j)) (by omega) (by omega) (by omega) (nxt _ (by omega) (fun r hr hR => by have := k2 r hr hR; omega) (fun _ => Nat.le_refl _)) (Or.inr ⟨j, q2, rfl⟩)
      · rw [q1, Option.bind_some, if_pos rfl, Option.bind_some, nI_add1]
        exact low_L hM h he f (j + 1) v (by omega) (by omega) k1 (nxt v k1 k2 (fun hR => absurd hR q2)) k3
theorem low_sem {M : Nat} (hM : M ≤ 40) {ad : Nat → Nat → Prop} {fr to way dep abo : Nat → Int32} {par D F G : Nat → Nat} (h : MW M ad fr to way dep abo par D F G) {e : Nat} (he : e < M) : ∃ g, F_lowestM (nI M) fr to way dep abo (nI e) = some (nI g) ∧ g ≤ 10 ∧ ∀ r, D (G r) < D (F e) → (g < D (G r) ↔ ∃ m, RM M ad way par D F G e m ∧ D (G m) < D (G r)) := by
  obtain ⟨a1, a2, a3, a4⟩ := h.1 e he
  obtain ⟨g, q1, q2, q3, q4⟩ := low_L hM h he 64 0 (D (F e)) (Nat.zero_le _) (by omega) (Nat.le_refl _) (fun r hr => absurd hr (Nat.not_lt_zero r)) (Or.inl rfl)
  refine ⟨g, ?_, by have := (h.2.1 _ a1).2.1; omega, fun r hr => ⟨fun hg => ?_, fun ⟨m, z1, z2⟩ => ?_⟩⟩
  · unfold F_lowestM
    rw [if_pos (inb_nI (by omega) (by decide)), nI_clamp (by omega), a3, if_pos (inb_nI a1 (by decide)), nI_clamp (by omega), (h.2.1 _ a1).1]
    exact q1
  · rcases q4 with q | ⟨m, z1, z2⟩
    · omega
    · exact ⟨m, z1, by omega⟩
  · have := q3 m z1
    omega
