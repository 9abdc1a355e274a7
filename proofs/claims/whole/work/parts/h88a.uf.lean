theorem ok_and {α : Type} {o : Option α} {P Q : α → Prop} (h : Ok o P) (g : Ok o Q) : Ok o (fun a => P a ∧ Q a) := by
  obtain ⟨a, e, h1⟩ := h
  obtain ⟨b, e2, h2⟩ := g
  rw [e] at e2
  have := Option.some.inj e2
  subst this
  exact ⟨a, e, h1, h2⟩
def Cu (M : Nat) (ld tu : Nat → Int32) (la : Nat → Nat) : Prop := ∀ r u t : Nat, r < M → u < M → t < 2 → ld r = nI u → tu r = nI t → u ≠ r → la r % 2 = (la u + t) % 2
def UF (M : Nat) (ld tu : Nat → Int32) : Prop := LD M ld ∧ (∀ r, r < M → ∃ t, t < 2 ∧ tu r = nI t) ∧ (∀ r, r < M → ld r = nI r → tu r = nI 0) ∧ ∀ z : Nat → Nat, ∃ la, Cu M ld tu la ∧ ∀ r, r < M → ld r = nI r → la r % 2 = z r % 2
theorem xor2_ : ∀ a : Nat, a < 2 → ∀ b : Nat, b < 2 → nI a ^^^ nI b = nI ((a + b) % 2) := by decide +kernel
theorem xor2 {a b : Nat} (ha : a < 2) (hb : b < 2) : nI a ^^^ nI b = nI ((a + b) % 2) := xor2_ a ha b hb
theorem turn_sem {M : Nat} (hM : M ≤ 40) {ld tu : Nat → Int32} {rk : Nat → Nat} {B : Nat} (hB : ∀ v, v < M → rk v ≤ B) (hL : ∀ v, v < M → ∃ u : Nat, u < M ∧ ld v = nI u ∧ (u = v ∨ rk v < rk u)) (hT : ∀ r, r < M → ∃ t, t < 2 ∧ tu r = nI t) (hR : ∀ r, r < M → ld r = nI r → tu r = nI 0) : ∀ (f v t : Nat), v < M → B < rk v + f → t < 2 → ∃ p s, p < M ∧ ld p = nI p ∧ s < 2 ∧ F_leaderOfM_L2 (fun v => some v) ld f (nI v) = some (nI p) ∧ F_turnOfM_L9 (fun _ t => some t) ld tu f (nI v) (nI t) = some (nI s) ∧ ∀ la, Cu M ld tu la → ∀ u, u < M → ld v = nI u → (t + la u) % 2 = (s + la p) % 2
  | 0, v, t, hv, h, _ => by have := hB v hv; omega
  | f + 1, v, t, hv, h, ht => by
    rw [F_leaderOfM_L2, F_turnOfM_L9, if_pos (inb_nI (by omega) (by decide)), nI_clamp (by omega)]
    obtain ⟨u, hu, e, c⟩ := hL v hv
    by_cases e2 : ld v = nI v
    · rw [if_pos e2, if_pos (inb_nI (by omega) (by decide)), if_pos e2]
      refine ⟨v, t, hv, e2, ht, rfl, rfl, fun la _ u' hu' e' => ?_⟩
      rw [e2, nI_eq_iff (by omega) (by omega)] at e'
      rw [e']
    · rw [if_neg e2, if_pos (inb_nI (by omega) (by decide)), if_neg e2, e, nI_clamp (by omega), if_pos (inb_nI (by omega) (by decide))]
      have hne : u ≠ v := fun q => e2 (by rw [e, q])
      obtain ⟨t2, ht2, et2⟩ := hT u hu
      rw [et2, xor2 ht ht2]
      obtain ⟨p, s, h1, h2, h3, h4, h5, h6⟩ := turn_sem hM hB hL hT hR f u ((t + t2) % 2) hu (by have := c.resolve_left hne; omega) (by omega)
      refine ⟨p, s, h1, h2, h3, h4, h5, fun la hla u' hu' e' => ?_⟩
      have eu : u = u' := (nI_eq_iff (by omega) (by omega)).mp e'
      subst eu
      obtain ⟨w, hw, ew, cw⟩ := hL u hu
      have k := h6 la hla w hw ew
      by_cases q : w = u
      · subst q
        have := hR w hu ew
        rw [et2, nI_eq_iff (by omega) (by omega)] at this
        subst this
        omega
      · have := hla u w t2 hu hw ht2 ew et2 q
        omega
theorem root_sem {M : Nat} (hM : M ≤ 40) {ld tu : Nat → Int32} (h : UF M ld tu) {r : Nat} (hr : r < M) : ∃ p s, p < M ∧ ld p = nI p ∧ s < 2 ∧ F_leaderOfM ld (nI r) = some (nI p) ∧ F_turnOfM ld tu (nI r) = some (nI s) ∧ ∀ la, Cu M ld tu la → la r % 2 = (s + la p) % 2 := by
  obtain ⟨⟨rk, h1, h2⟩, hT, hR, _⟩ := h
  have hB := cf_le (p := fun v => decide (ld v ≠ nI v)) M 0
  obtain ⟨t, ht, et⟩ := hT r hr
  obtain ⟨p, s, q1, q2, q3, q4, q5, q6⟩ := turn_sem hM h1 h2 hT hR 64 r t hr (by omega) ht
  refine ⟨p, s, q1, q2, q3, q4, ?_, fun la hla => ?_⟩
  · unfold F_turnOfM
    rw [if_pos (inb_nI (by omega) (by decide)), nI_clamp (by omega), et]
    exact q5
  · obtain ⟨u, hu, e, c⟩ := h2 r hr
    have k := q6 la hla u hu e
    by_cases q : u = r
    · subst q
      have := hR u hr e
      rw [et, nI_eq_iff (by omega) (by omega)] at this
      subst this
      omega
    · have := hla r u t hr hu ht e et q
      omega
theorem goes_spec {M : Nat} (hM : M ≤ 40) {ld tu : Nat → Int32} (h : UF M ld tu) {r s k : Nat} (hr : r < M) (hs : s < M) (hk : k < 2) : Ok (F_goesM ld tu (nI r) (nI s) (nI k)) (fun R => UF M R.2.1 R.2.2 ∧ ((R.1 = 1 ∧ ∀ la, Cu M R.2.1 R.2.2 la ↔ (Cu M ld tu la ∧ (la r + la s + k) % 2 = 0)) ∨ (R.1 = 0 ∧ ∀ la, Cu M ld tu la → ¬ (la r + la s + k) % 2 = 0))) := by
  have htot := goes_tot hM (tu := tu) h.1 hr hs (nI k)
  refine ok_mono (ok_and htot (?_ : Ok _ (fun R : Int32 × (Nat → Int32) × (Nat → Int32) => (LD M R.2.1 → UF M R.2.1 R.2.2) ∧ ((R.1 = 1 ∧ ∀ la, Cu M R.2.1 R.2.2 la ↔ (Cu M ld tu la ∧ (la r + la s + k) % 2 = 0)) ∨ (R.1 = 0 ∧ ∀ la, Cu M ld tu la → ¬ (la r + la s + k) % 2 = 0))))) (fun R hR => ⟨hR.2.1 hR.1.1, hR.2.2⟩)
  obtain ⟨p, x, p1, p2, p3, p4, p5, p6⟩ := root_sem hM h hr
  obtain ⟨q, y, q1, q2, q3, q4, q5, q6⟩ := root_sem hM h hs
  unfold F_goesM
  rw [p4, Option.bind_some, q4, Option.bind_some, p5, Option.bind_some, q5, Option.bind_some, xor2 p3 q3]
  by_cases c : p = q
  · subst c
    rw [if_pos rfl]
    by_cases c2 : (x + y) % 2 = k
    · rw [if_pos (by rw [c2])]
      refine ok_some ⟨fun _ => h, Or.inl ⟨rfl, fun la => ⟨fun hla => ⟨hla, ?_⟩, fun hla => hla.1⟩⟩⟩
      have := p6 la hla
      have := q6 la hla
      omega
    · rw [if_neg (fun e => c2 ((nI_eq_iff (by omega) (by omega)).mp e))]
      refine ok_some ⟨fun _ => h, Or.inr ⟨rfl, fun la hla h9 => ?_⟩⟩
      have := p6 la hla
      have := q6 la hla
      omega
  · rw [if_neg (fun e => c ((nI_eq_iff (by omega) (by omega)).mp e)), if_pos (inb_nI (by omega) (by decide)), nI_clamp (by omega), xor2 (by omega) hk]
    have hcu : ∀ la, Cu M (upd ld p (nI q)) (upd tu p (nI (((x + y) % 2 + k) % 2))) la ↔ (Cu M ld tu la ∧ la p % 2 = (la q + ((x + y) % 2 + k) % 2) % 2) := by
      intro la
      constructor
      · intro hla
        refine ⟨fun r' u t z1 z2 z3 z4 z5 z6 => ?_, ?_⟩
        · have hne : r' ≠ p := fun e => by
            rw [e, p2, nI_eq_iff (by omega) (by omega)] at z4
            exact z6 (by rw [e]; exact z4.symm)
          exact hla r' u t z1 z2 z3 (by rw [pk_un hne]; exact z4) (by rw [pk_un hne]; exact z5) z6
        · exact hla p q (((x + y) % 2 + k) % 2) p1 q1 (by omega) pk_us pk_us (Ne.symm c)
      · rintro ⟨hla, hpq⟩ r' u t z1 z2 z3 z4 z5 z6
        by_cases e : r' = p
        · subst e
          rw [pk_us, nI_eq_iff (by omega) (by omega)] at z4
          rw [pk_us, nI_eq_iff (by omega) (by omega)] at z5
          rw [← z4, ← z5]; exact hpq
        · rw [pk_un e] at z4 z5
          exact hla r' u t z1 z2 z3 z4 z5 z6
    refine ok_some ⟨fun hLD => ⟨hLD, fun r' hr' => ?_, fun r' hr' e => ?_, fun z => ?_⟩, Or.inl ⟨rfl, fun la => ?_⟩⟩
    · by_cases e : r' = p
      · subst e; exact ⟨((x + y) % 2 + k) % 2, by omega, pk_us⟩
      · show ∃ t, t < 2 ∧ upd tu p (nI (((x + y) % 2 + k) % 2)) r' = nI t
        rw [pk_un e]; exact h.2.1 r' hr'
    · have e : upd ld p (nI q) r' = nI r' := e
      show upd tu p (nI (((x + y) % 2 + k) % 2)) r' = nI 0
      by_cases e2 : r' = p
      · subst e2
        rw [pk_us, nI_eq_iff (by omega) (by omega)] at e
        exact absurd e.symm c
      · rw [pk_un e2] at e ⊢
        exact h.2.2.1 r' hr' e
    · obtain ⟨la, hla, hz⟩ := h.2.2.2 (fun r' => if r' = p then z q + ((x + y) % 2 + k) % 2 else z r')
      refine ⟨la, (hcu la).mpr ⟨hla, ?_⟩, fun r' hr' e => ?_⟩
      · have e1 := hz p p1 p2
        have e2 := hz q q1 q2
        have e1 : la p % 2 = (if p = p then z q + ((x + y) % 2 + k) % 2 else z p) % 2 := e1
        have e2 : la q % 2 = (if q = p then z q + ((x + y) % 2 + k) % 2 else z q) % 2 := e2
        rw [if_pos rfl] at e1
        rw [if_neg (Ne.symm c)] at e2
        omega
      · have e : upd ld p (nI q) r' = nI r' := e
        have e2 : r' ≠ p := fun e2 => by
          rw [e2, pk_us, nI_eq_iff (by omega) (by omega)] at e
          exact c e.symm
        rw [pk_un e2] at e
        have e3 := hz r' hr' e
        have e3 : la r' % 2 = (if r' = p then z q + ((x + y) % 2 + k) % 2 else z r') % 2 := e3
        rw [if_neg e2] at e3
        exact e3
    · show Cu M (upd ld p (nI q)) (upd tu p (nI (((x + y) % 2 + k) % 2))) la ↔ _
      rw [hcu la]
      constructor
      · rintro ⟨z1, z2⟩
        have := p6 la z1
        have := q6 la z1
        exact ⟨z1, by omega⟩
      · rintro ⟨z1, z2⟩
        have := p6 la z1
        have := q6 la z1
        exact ⟨z1, by omega⟩
