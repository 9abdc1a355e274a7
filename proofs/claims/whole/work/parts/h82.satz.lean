def sib (par dp : Nat → Nat) (e f : Nat) : Prop := e ≠ f ∧ dp e = dp f ∧ (0 < dp e → par e = par f)
theorem sib.sy {par dp : Nat → Nat} {e f : Nat} (h : sib par dp e f) : sib par dp f e := ⟨Ne.symm h.1, h.2.1.symm, fun h0 => (h.2.2 (by rw [h.2.1]; exact h0)).symm⟩
theorem fork {ad : Nat → Nat → Prop} {par dp : Nat → Nat} (hF : FR ad par dp) {u w : Nat} (h1 : ¬ An par dp u w) (h2 : ¬ An par dp w u) : ∃ e f, sib par dp e f ∧ An par dp e u ∧ An par dp f w := by
  have key : ∀ k, k ≤ dp u → k ≤ dp w → up par (dp u - k) u ≠ up par (dp w - k) w → ∃ e f, sib par dp e f ∧ An par dp e u ∧ An par dp f w := by
    intro k
    induction k with
    | zero =>
      intro a b hne
      refine ⟨_, _, ⟨hne, ?_, fun h0 => ?_⟩, An.ups hF (by omega), An.ups hF (by omega)⟩
      · rw [up_dp hF _ _ (by omega), up_dp hF _ _ (by omega)]; omega
      · rw [up_dp hF _ _ (by omega)] at h0; omega
    | succ k ih =>
      intro a b hne
      by_cases c : up par (dp u - k) u = up par (dp w - k) w
      · refine ⟨_, _, ⟨hne, ?_, fun _ => ?_⟩, An.ups hF (by omega), An.ups hF (by omega)⟩
        · rw [up_dp hF _ _ (by omega), up_dp hF _ _ (by omega)]; omega
        · rw [show dp u - k = (dp u - (k + 1)) + 1 by omega, show dp w - k = (dp w - (k + 1)) + 1 by omega, up, up] at c
          exact c
      · exact ih (by omega) (by omega) c
  rcases Nat.le_total (dp u) (dp w) with q | q
  · refine key (dp u) (Nat.le_refl _) q (fun e => h1 ⟨q, ?_⟩)
    rw [Nat.sub_self, up] at e; exact e.symm
  · refine key (dp w) q (Nat.le_refl _) (fun e => h2 ⟨q, ?_⟩)
    rw [Nat.sub_self, up] at e; exact e
theorem sib_uniq {ad : Nat → Nat → Prop} {par dp : Nat → Nat} (hF : FR ad par dp) {e f e' f' u w : Nat} (h : sib par dp e f) (h' : sib par dp e' f') (a1 : An par dp e u) (a2 : An par dp f w) (b1 : An par dp e' u) (b2 : An par dp f' w) : e = e' ∧ f = f' := by
  have one : ∀ e f e' f', sib par dp e f → sib par dp e' f' → An par dp e u → An par dp f w → An par dp e' u → An par dp f' w → ¬ dp e < dp e' := by
    intro e f e' f' h h' a1 a2 b1 b2 hlt
    have hp := hF.2 e' (by omega)
    have hp2 := hF.2 f' (by have := h'.2.1; omega)
    have q1 : An par dp e (par e') := (a1.cmp b1 (by omega)).par_of hF hlt
    have q2 : An par dp f (par f') := (a2.cmp b2 (by have := h.2.1; have := h'.2.1; omega)).par_of hF (by have := h.2.1; have := h'.2.1; omega)
    rw [← h'.2.2 (by omega)] at q2
    exact h.1 (An.eq q1 q2 h.2.1)
  have c1 := one e f e' f' h h' a1 a2 b1 b2
  have c2 := one e' f' e f h' h b1 b2 a1 a2
  have hd : dp e = dp e' := by omega
  exact ⟨An.eq a1 b1 hd, An.eq a2 b2 (by have := h.2.1; have := h'.2.1; omega)⟩
theorem An.anti {par dp : Nat → Nat} {a b : Nat} (h : An par dp a b) (g : An par dp b a) : a = b := An.eq h (An.rf b) (by have := h.1; have := g.1; omega)
def Rq (ad : Nat → Nat → Prop) (par dp : Nat → Nat) (la : Nat → Nat → Nat) (v u u' z : Nat) : Prop := ∃ t s tg sg, rtn ad par dp v u t s ∧ rtn ad par dp v u' tg sg ∧ dp tg < dp t ∧ la t s % 2 = z % 2
theorem order_ex {ad : Nat → Nat → Prop} {par dp : Nat → Nat} {la : Nat → Nat → Nat} (hS : Sat ad par dp la) : ∃ g : Nat → Nat → Nat, Tn g ∧ ∀ v u u' z, u ≠ u' → par u = v → par u' = v → Rq ad par dp la v u u' z → g u' u % 2 = z % 2 := by
  have ex : ∀ q : Nat × Nat, ∃ b : Nat, q.1 ≠ q.2 → (∀ v z, par q.1 = v → par q.2 = v → Rq ad par dp la v q.1 q.2 z → b % 2 = z % 2) ∧ (∀ v z, par q.1 = v → par q.2 = v → Rq ad par dp la v q.2 q.1 z → (b + z) % 2 = 1) := by
    rintro ⟨u, u'⟩
    show ∃ b : Nat, u ≠ u' → (∀ v z, par u = v → par u' = v → Rq ad par dp la v u u' z → b % 2 = z % 2) ∧ (∀ v z, par u = v → par u' = v → Rq ad par dp la v u' u z → (b + z) % 2 = 1)
    by_cases c : ∃ z, Rq ad par dp la (par u) u u' z
    · obtain ⟨z, t, s, tg, sg, r1, r2, r3, r4⟩ := c
      refine ⟨z, fun hne => ⟨fun v z2 e1 _ hz2 => ?_, fun v z2 e1 _ hz2 => ?_⟩⟩
      · subst e1
        obtain ⟨t2, s2, tg2, sg2, p1, p2, p3, p4⟩ := hz2
        rcases Nat.le_total (dp tg) (dp tg2) with q | q
        · have := hS.1 (par u) u u' t s t2 s2 tg sg hne r1 p1 r2 r3 (by omega)
          omega
        · have := hS.1 (par u) u u' t s t2 s2 tg2 sg2 hne r1 p1 p2 (by omega) p3
          omega
      · subst e1
        obtain ⟨t2, s2, tg2, sg2, p1, p2, p3, p4⟩ := hz2
        have := hS.2 (par u) u u' t s t2 s2 tg sg tg2 sg2 hne r1 p1 r2 r3 p2 p3
        omega
    · by_cases d : ∃ z, Rq ad par dp la (par u) u' u z
      · obtain ⟨z, t, s, tg, sg, r1, r2, r3, r4⟩ := d
        refine ⟨z + 1, fun hne => ⟨fun v z2 e1 _ hz2 => absurd ⟨z2, by rw [e1]; exact hz2⟩ c, fun v z2 e1 _ hz2 => ?_⟩⟩
        subst e1
        obtain ⟨t2, s2, tg2, sg2, p1, p2, p3, p4⟩ := hz2
        have : la t s % 2 = la t2 s2 % 2 := by
          rcases Nat.le_total (dp tg) (dp tg2) with q | q
          · exact hS.1 (par u) u' u t s t2 s2 tg sg (Ne.symm hne) r1 p1 r2 r3 (by omega)
          · exact hS.1 (par u) u' u t s t2 s2 tg2 sg2 (Ne.symm hne) r1 p1 p2 (by omega) p3
        omega
      · exact ⟨0, fun hne => ⟨fun v z2 e1 _ hz2 => absurd ⟨z2, by rw [e1]; exact hz2⟩ c, fun v z2 e1 _ hz2 => absurd ⟨z2, by rw [e1]; exact hz2⟩ d⟩⟩
  obtain ⟨B, hB⟩ := Classical.axiomOfChoice ex
  refine ⟨fun a b => if b < a then B (b, a) else 1 + B (a, b), fun a b hab => ?_, fun v u u' z hne e1 e2 hr => ?_⟩
  · show ((if b < a then B (b, a) else 1 + B (a, b)) + (if a < b then B (a, b) else 1 + B (b, a))) % 2 = 1
    rcases Nat.lt_trichotomy a b with q | q | q
    · rw [if_neg (by omega), if_pos q]; omega
    · exact absurd q hab
    · rw [if_pos q, if_neg (by omega)]; omega
  · show (if u < u' then B (u, u') else 1 + B (u', u)) % 2 = z % 2
    by_cases q : u < u'
    · rw [if_pos q]
      exact (hB (u, u') hne).1 v z e1 e2 hr
    · rw [if_neg q]
      have := (hB (u', u) (Ne.symm hne)).2 v z e2 e1 hr
      omega
theorem tour_ex {ad : Nat → Nat → Prop} {par dp : Nat → Nat} (hF : FR ad par dp) {g : Nat → Nat → Nat} (hg : Tn g) : ∃ o : Nat → Nat → Nat, Tn o ∧ (∀ u w, u ≠ w → An par dp u w → o u w % 2 = 1) ∧ ∀ e f u w, sib par dp e f → An par dp e u → An par dp f w → o u w % 2 = g e f % 2 := by
  have ex : ∀ q : Nat × Nat, ∃ b : Nat, q.1 ≠ q.2 → (An par dp q.1 q.2 → b % 2 = 1) ∧ (An par dp q.2 q.1 → b % 2 = 0) ∧ ∀ e f, sib par dp e f → An par dp e q.1 → An par dp f q.2 → b % 2 = g e f % 2 := by
    rintro ⟨u, w⟩
    show ∃ b : Nat, u ≠ w → (An par dp u w → b % 2 = 1) ∧ (An par dp w u → b % 2 = 0) ∧ ∀ e f, sib par dp e f → An par dp e u → An par dp f w → b % 2 = g e f % 2
    by_cases c1 : An par dp u w
    · refine ⟨1, fun hne => ⟨fun _ => rfl, fun c2 => absurd (c1.anti c2) hne, fun e f hs a b => absurd (An.eq (a.tr c1) b hs.2.1) hs.1⟩⟩
    · by_cases c2 : An par dp w u
      · exact ⟨0, fun hne => ⟨fun c3 => absurd c3 c1, fun _ => rfl, fun e f hs a b => absurd (An.eq a (b.tr c2) hs.2.1) hs.1⟩⟩
      · obtain ⟨e, f, hs, a, b⟩ := fork hF c1 c2
        refine ⟨g e f, fun hne => ⟨fun c3 => absurd c3 c1, fun c3 => absurd c3 c2, fun e' f' hs' a' b' => ?_⟩⟩
        obtain ⟨rfl, rfl⟩ := sib_uniq hF hs hs' a b a' b'
        rfl
  obtain ⟨B, hB⟩ := Classical.axiomOfChoice ex
  refine ⟨fun u w => if u < w then B (u, w) else 1 + B (w, u), fun u w huw => ?_, fun u w hne h => ?_, fun e f u w hs a b => ?_⟩
  · show ((if u < w then B (u, w) else 1 + B (w, u)) + (if w < u then B (w, u) else 1 + B (u, w))) % 2 = 1
    rcases Nat.lt_trichotomy u w with q | q | q
    · rw [if_pos q, if_neg (by omega)]; omega
    · exact absurd q huw
    · rw [if_neg (by omega), if_pos q]; omega
  · show (if u < w then B (u, w) else 1 + B (w, u)) % 2 = 1
    by_cases q : u < w
    · rw [if_pos q]; exact (hB (u, w) hne).1 h
    · rw [if_neg q]
      have := (hB (w, u) (Ne.symm hne)).2.1 h
      omega
  · show (if u < w then B (u, w) else 1 + B (w, u)) % 2 = g e f % 2
    have hne : u ≠ w := fun c => hs.1 (An.eq a (by rw [c]; exact b) hs.2.1)
    by_cases q : u < w
    · rw [if_pos q]; exact (hB (u, w) hne).2.2 e f hs a b
    · rw [if_neg q]
      have := (hB (w, u) (Ne.symm hne)).2.2 f e hs.sy b a
      have := hg e f hs.1
      omega
