def Cn (E : Nat → Nat → Prop) (i j : Nat) : Prop := ∀ S : Nat → Prop, S i → (∀ a b, S a → E a b → S b) → S j
theorem Cn.rf {E : Nat → Nat → Prop} (i : Nat) : Cn E i i := fun _ h _ => h
theorem Cn.st {E : Nat → Nat → Prop} {i a b : Nat} (h : Cn E i a) (e : E a b) : Cn E i b := fun S h0 hc => hc a b (h S h0 hc) e
theorem Cn.tr {E : Nat → Nat → Prop} {i j k : Nat} (h : Cn E i j) (g : Cn E j k) : Cn E i k := fun S h0 hc => g S (h S h0 hc) hc
theorem Cn.sy {E : Nat → Nat → Prop} (hE : ∀ a b, E a b → E b a) {i j : Nat} (h : Cn E i j) : Cn E j i :=
  h (fun x => Cn E x i) (Cn.rf i) (fun a b ha e => ((Cn.rf b).st (hE a b e)).tr ha)
def Fst (U : Nat → Bool) (E : Nat → Nat → Prop) (i : Nat) : Prop := U i = true ∧ ∀ j, j < i → U j = true → ¬ Cn E j i
theorem reach28_bits {near : Nat → Int32} {f : Int32} : ∀ (n k : Nat) (acc : Int32) (K : Int32 → Option Int32), k + n = 11 → ∃ r, F_reachG_L28 K near f n k acc = K r ∧ ∀ j, bit r j = true ↔ bit acc j = true ∨ ∃ a, k ≤ a ∧ a < 11 ∧ bit f a = true ∧ bit (near a) j = true
  | 0, k, acc, K, h => ⟨acc, by rw [F_reachG_L28], fun j => ⟨fun h => Or.inl h, fun h => h.elim id (fun ⟨a, h1, h2, _⟩ => by omega)⟩⟩
  | n + 1, k, acc, K, h => by
    rw [F_reachG_L28]
    cases hb : bit f k with
    | false =>
      rw [if_pos ((has0_iff (by omega)).mpr hb)]
      obtain ⟨r, e, hr⟩ := reach28_bits n (k + 1) acc K (by omega)
      refine ⟨r, e, fun j => (hr j).trans ⟨?_, ?_⟩⟩
      · rintro (h | ⟨a, h1, h2⟩)
        · exact Or.inl h
        · exact Or.inr ⟨a, by omega, h2⟩
      · rintro (h | ⟨a, h1, h2, h3, h4⟩)
        · exact Or.inl h
        · by_cases c : a = k
          · rw [c, hb] at h3; exact absurd h3 (by decide)
          · exact Or.inr ⟨a, by omega, h2, h3, h4⟩
    | true =>
      rw [if_neg (has_no (by omega) hb)]
      obtain ⟨r, e, hr⟩ := reach28_bits n (k + 1) (acc ||| near k) K (by omega)
      refine ⟨r, e, fun j => (hr j).trans ⟨?_, ?_⟩⟩
      · rw [bit_or, Bool.or_eq_true]
        rintro ((h | h) | ⟨a, h1, h2⟩)
        · exact Or.inl h
        · exact Or.inr ⟨k, Nat.le_refl _, by omega, hb, h⟩
        · exact Or.inr ⟨a, by omega, h2⟩
      · rw [bit_or, Bool.or_eq_true]
        rintro (h | ⟨a, h1, h2, h3, h4⟩)
        · exact Or.inl (Or.inl h)
        · by_cases c : a = k
          · rw [c] at h4; exact Or.inl (Or.inr h4)
          · exact Or.inr ⟨a, by omega, h2, h3, h4⟩
theorem cf_mono_lt {p q : Nat → Bool} (h : ∀ j, p j = true → q j = true) : ∀ (n k : Nat), (∃ i, k ≤ i ∧ i < k + n ∧ p i = false ∧ q i = true) → cf p n k < cf q n k := by
  have le : ∀ (n k : Nat), cf p n k ≤ cf q n k := by
    intro n
    induction n with
    | zero => intro k; exact Nat.le_refl _
    | succ n ih =>
      intro k
      rw [cf, cf]
      have := ih (k + 1)
      by_cases hp : p k = true
      · rw [if_pos hp, if_pos (h k hp)]; omega
      · rw [if_neg hp]; split <;> omega
  intro n
  induction n with
  | zero => rintro k ⟨i, h1, h2, _⟩; omega
  | succ n ih =>
    rintro k ⟨i, h1, h2, h3, h4⟩
    rw [cf, cf]
    by_cases c : k = i
    · subst c
      rw [if_neg (by rw [h3]; decide), if_pos h4]
      have := le n (k + 1)
      omega
    · have := ih (k + 1) ⟨i, by omega, by omega, h3, h4⟩
      by_cases hp : p k = true
      · rw [if_pos hp, if_pos (h k hp)]; omega
      · rw [if_neg hp]; split <;> omega
theorem reach10_bits {near : Nat → Int32} (hN : ∀ a j, a < 11 → bit (near a) j = true → j < 11) {v : Nat} (hv : v < 11) {ps : Int32} {T : Nat → Prop} (hT0 : T v) (hTs : ∀ a j, a < 11 → T a → (a = v ∨ bit ps a = true) → bit (near a) j = true → T j) :
    ∀ (n k : Nat) (seen fresh : Int32), (∀ j, bit seen j = true → j < 11 ∧ T j) → bit seen v = true → (∀ j, bit fresh j = true → bit seen j = true ∧ (j = v ∨ bit ps j = true)) → (∀ a, bit seen a = true → (a = v ∨ bit ps a = true) → bit fresh a = true ∨ ∀ j, bit (near a) j = true → bit seen j = true) → 11 < cf (bit seen) 11 0 + n + (if fresh = 0 then 12 else 0) →
    Ok (F_reachG_L10 (fun s _ => some s) near ps n k seen fresh) (fun r => (∀ j, bit r j = true → j < 11 ∧ T j) ∧ bit r v = true ∧ ∀ a, bit r a = true → (a = v ∨ bit ps a = true) → ∀ j, bit (near a) j = true → bit r j = true)
  | 0, k, seen, fresh, h1, h2, h3, h4, h5 => by
    rw [F_reachG_L10]
    have hf : fresh = 0 := by
      apply Classical.byContradiction
      intro h9
      rw [if_neg h9] at h5
      have := cf_le (p := bit seen) 11 0
      omega
    refine ok_some ⟨h1, h2, fun a ha hp => ?_⟩
    rcases h4 a ha hp with q | q
    · rw [hf, bit_zero] at q; exact absurd q (by decide)
    · exact q
  | n + 1, k, seen, fresh, h1, h2, h3, h4, h5 => by
    rw [F_reachG_L10]
    by_cases hf : fresh = 0
    · rw [if_pos hf]
      refine ok_some ⟨h1, h2, fun a ha hp => ?_⟩
      rcases h4 a ha hp with q | q
      · rw [hf, bit_zero] at q; exact absurd q (by decide)
      · exact q
    · rw [if_neg hf]
      obtain ⟨nx, e, hnx⟩ := reach28_bits (near := near) (f := fresh) 11 0 0 (fun v6_28 => (F_reachG_L10 (fun s _ => some s) near ps n (k + 1) (seen ||| (v6_28 &&& (seen ^^^ ((-1))))) ((v6_28 &&& (seen ^^^ ((-1)))) &&& ps))) rfl
      rw [e]
      have hnx2 : ∀ j, bit nx j = true ↔ ∃ a, a < 11 ∧ bit fresh a = true ∧ bit (near a) j = true := fun j => (hnx j).trans ⟨fun h => h.elim (fun h => by rw [bit_zero] at h; exact absurd h (by decide)) (fun ⟨a, _, h⟩ => ⟨a, h⟩), fun ⟨a, h⟩ => Or.inr ⟨a, Nat.zero_le _, h⟩⟩
      have hlt : ∀ j, bit nx j = true → j < 11 := fun j hj => by
        obtain ⟨a, q1, q2, q3⟩ := (hnx2 j).mp hj
        exact hN a j q1 q3
      have hnew : ∀ j, bit (nx &&& (seen ^^^ (-1))) j = true ↔ bit nx j = true ∧ bit seen j = false := fun j => by
        by_cases hj : j < 32
        · rw [bit_and, bit_not hj]; simp
        · rw [bit_ge _ (by omega), bit_ge nx (by omega)]; simp
      have hs2 : ∀ j, bit (seen ||| (nx &&& (seen ^^^ (-1)))) j = true ↔ bit seen j = true ∨ bit nx j = true := fun j => by
        rw [bit_or, Bool.or_eq_true, hnew j]
        constructor
        · rintro (h | h)
          · exact Or.inl h
          · exact Or.inr h.1
        · rintro (h | h)
          · exact Or.inl h
          · cases hs : bit seen j with
            | true => exact Or.inl rfl
            | false => exact Or.inr ⟨h, rfl⟩
      refine reach10_bits hN hv hT0 hTs n (k + 1) _ _ (fun j hj => ?_) ((hs2 v).mpr (Or.inl h2)) (fun j hj => ?_) (fun a ha hp => ?_) ?_
      · rcases (hs2 j).mp hj with q | q
        · exact h1 j q
        · obtain ⟨a, q1, q2, q3⟩ := (hnx2 j).mp q
          obtain ⟨r1, r2⟩ := h3 a q2
          exact ⟨hlt j q, hTs a j q1 (h1 a r1).2 r2 q3⟩
      · rw [bit_and, Bool.and_eq_true, hnew j] at hj
        exact ⟨(hs2 j).mpr (Or.inr hj.1.1), Or.inr hj.2⟩
      · rcases (hs2 a).mp ha with q | q
        · rcases h4 a q hp with r | r
          · refine Or.inr (fun j hj => (hs2 j).mpr (Or.inr ((hnx2 j).mpr ⟨a, (h1 a q).1, r, hj⟩)))
          · exact Or.inr (fun j hj => (hs2 j).mpr (Or.inl (r j hj)))
        · cases hs : bit seen a with
          | true =>
            rcases h4 a hs hp with r | r
            · exact Or.inr (fun j hj => (hs2 j).mpr (Or.inr ((hnx2 j).mpr ⟨a, (h1 a hs).1, r, hj⟩)))
            · exact Or.inr (fun j hj => (hs2 j).mpr (Or.inl (r j hj)))
          | false =>
            refine Or.inl ?_
            rw [bit_and, Bool.and_eq_true, hnew a]
            refine ⟨⟨q, hs⟩, ?_⟩
            rcases hp with rfl | hp
            · rw [h2] at hs; exact absurd hs (by decide)
            · exact hp
      · rw [if_neg hf] at h5
        by_cases hg : ((nx &&& (seen ^^^ (-1))) &&& ps) = 0
        · rw [if_pos hg]; omega
        · rw [if_neg hg]
          have : cf (bit seen) 11 0 < cf (bit (seen ||| (nx &&& (seen ^^^ (-1))))) 11 0 := by
            refine cf_mono_lt (fun j hj => (hs2 j).mpr (Or.inl hj)) 11 0 ?_
            apply Classical.byContradiction
            intro h9
            apply hg
            apply bit_ext
            intro j _
            rw [bit_zero, bit_and]
            cases hq : bit (nx &&& (seen ^^^ (-1))) j with
            | false => rfl
            | true =>
              exfalso
              have := (hnew j).mp hq
              exact h9 ⟨j, Nat.zero_le _, by have := hlt j this.1; omega, this.2, (hs2 j).mpr (Or.inr this.1)⟩
          omega
theorem reach_bits {near : Nat → Int32} (hN : ∀ a j, a < 11 → bit (near a) j = true → j < 11) {v : Nat} (hv : v < 11) {ps : Int32} {T : Nat → Prop} (hT0 : T v) (hTs : ∀ a j, a < 11 → T a → (a = v ∨ bit ps a = true) → bit (near a) j = true → T j) : Ok (F_reachG near (nI v) ps) (fun r => (∀ j, bit r j = true → j < 11 ∧ T j) ∧ bit r v = true ∧ ∀ a, bit r a = true → (a = v ∨ bit ps a = true) → ∀ j, bit (near a) j = true → bit r j = true) := by
  have hb : ∀ j, bit ((1 : Int32) <<< (nI v &&& 31)) j = true ↔ j = v := fun j => by rw [bit_shl (by omega)]; simp
  refine reach10_bits hN hv hT0 hTs 11 0 _ _ (fun j hj => ?_) ((hb v).mpr rfl) (fun j hj => ⟨hj, Or.inl ((hb j).mp hj)⟩) (fun a ha _ => Or.inl ha) ?_
  · rw [(hb j).mp hj]; exact ⟨hv, hT0⟩
  · have := cf_has (p := bit ((1 : Int32) <<< (nI v &&& 31))) ((hb v).mpr rfl) 11 0 (Nat.zero_le _) (by omega)
    omega
theorem count_L {near : Nat → Int32} (hN : ∀ a j, a < 11 → bit (near a) j = true → j < 11) {U : Int32} (hU : ∀ i, 10 ≤ i → bit U i = false) {E : Nat → Nat → Prop} (hE : ∀ a b, E a b ↔ bit U a = true ∧ bit U b = true ∧ bit (near a) b = true) (hsy : ∀ a b, E a b → E b a) {u : Nat → Int32} {Fb : Nat → Bool} (hF : ∀ i, Fb i = true ↔ Fst (bit U) E i) :
    ∀ (n k c : Nat) (seen : Int32), k + n = 10 → (∀ j, bit seen j = true ↔ bit U j = true ∧ ∃ i, i < k ∧ bit U i = true ∧ Cn E i j) → Ok (F_countPiecesG_L13 (fun _ v4 => some (v4, u)) U near n k seen (nI c)) (fun R => R.1 = nI (c + cf Fb n k))
  | 0, k, c, seen, hk, h => by rw [F_countPiecesG_L13, cf, Nat.add_zero]; exact ok_some rfl
  | n + 1, k, c, seen, hk, h => by
    rw [F_countPiecesG_L13, cf]
    cases hbU : bit U k with
    | false =>
      have hnf : ¬ Fb k = true := fun q => by have := ((hF k).mp q).1; rw [hbU] at this; exact absurd this (by decide)
      rw [if_pos ((has0_iff (by omega)).mpr hbU), Option.bind_some, if_neg hnf, Nat.zero_add]
      refine count_L hN hU hE hsy hF n (k + 1) c seen (by omega) (fun j => (h j).trans ⟨?_, ?_⟩)
      · rintro ⟨q1, i, q2, q3⟩; exact ⟨q1, i, by omega, q3⟩
      · rintro ⟨q1, i, q2, q3, q4⟩
        have : i ≠ k := fun e => by rw [e, hbU] at q3; exact absurd q3 (by decide)
        exact ⟨q1, i, by omega, q3, q4⟩
    | true =>
      rw [if_neg (has_no (by omega) hbU)]
      cases hs : bit seen k with
      | true =>
        obtain ⟨_, i, q1, q2, q3⟩ := (h k).mp hs
        have hnf : ¬ Fb k = true := fun q => ((hF k).mp q).2 i q1 q2 q3
        rw [if_neg (has_no (by omega) hs), Option.bind_some, if_neg hnf, Nat.zero_add]
        refine count_L hN hU hE hsy hF n (k + 1) c seen (by omega) (fun j => (h j).trans ⟨?_, ?_⟩)
        · rintro ⟨r1, i, r2, r3⟩; exact ⟨r1, i, by omega, r3⟩
        · rintro ⟨r1, i', r2, r3, r4⟩
          by_cases e : i' = k
          · subst e; exact ⟨r1, i, q1, q2, q3.tr r4⟩
          · exact ⟨r1, i', by omega, r3, r4⟩
      | false =>
        have hf : Fb k = true := (hF k).mpr ⟨hbU, fun j hj hbj hc => by
          have := (h k).mpr ⟨hbU, j, hj, hbj, hc⟩
          rw [hs] at this; exact absurd this (by decide)⟩
        rw [if_pos ((has0_iff (by omega)).mpr hs), if_pos hf]
        refine ok_bind (Q := fun J : Int32 × Int32 => J.2 = nI (c + 1) ∧ ∀ j, bit J.1 j = true ↔ bit U j = true ∧ ∃ i, i < k + 1 ∧ bit U i = true ∧ Cn E i j) (ok_bind (reach_bits hN (show k < 11 by omega) (ps := U) (T := fun j => bit U j = true → Cn E k j) (fun _ => Cn.rf k) (fun a j ha hTa hp hb hbj => ?_)) (fun r hr => ok_some ⟨nI_add1 c, fun j => ?_⟩)) (fun J hJ => ?_)
        · have hUa : bit U a = true := hp.elim (fun e => by rw [e]; exact hbU) id
          exact (hTa hUa).st ((hE a j).mpr ⟨hUa, hbj, hb⟩)
        · show bit (seen ||| (r &&& U)) j = true ↔ _
          rw [bit_or, bit_and, Bool.or_eq_true, Bool.and_eq_true, h j]
          constructor
          · rintro (⟨q1, i, q2, q3⟩ | ⟨q1, q2⟩)
            · exact ⟨q1, i, by omega, q3⟩
            · exact ⟨q2, k, by omega, hbU, (hr.1 j q1).2 q2⟩
          · rintro ⟨q1, i, q2, q3, q4⟩
            by_cases e : i = k
            · subst e
              refine Or.inr ⟨?_, q1⟩
              exact q4 (fun x => bit r x = true ∧ bit U x = true) ⟨hr.2.1, hbU⟩ (fun a b ha hab => by
                obtain ⟨z1, z2, z3⟩ := (hE a b).mp hab
                exact ⟨hr.2.2 a ha.1 (Or.inr z1) b z3, z2⟩) |>.1
            · exact Or.inl ⟨q1, i, by omega, q3, q4⟩
        · rw [hJ.1]
          refine ok_mono (count_L hN hU hE hsy hF n (k + 1) (c + 1) J.1 (by omega) hJ.2) (fun R hR => ?_)
          rw [hR, Nat.add_assoc]
