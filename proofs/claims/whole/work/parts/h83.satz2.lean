def Od (par dp : Nat → Nat) (o g : Nat → Nat → Nat) : Prop := Tn o ∧ (∀ u w, u ≠ w → An par dp u w → o u w % 2 = 1) ∧ ∀ e f u w, sib par dp e f → An par dp e u → An par dp f w → o u w % 2 = g e f % 2
theorem Od.dn {par dp : Nat → Nat} {o g : Nat → Nat → Nat} (h : Od par dp o g) {u w : Nat} (hne : u ≠ w) (a : An par dp u w) : o w u % 2 = 0 := by
  have := h.1 u w hne
  have := h.2.1 u w hne a
  omega
theorem Od.l1 {ad : Nat → Nat → Prop} {par dp : Nat → Nat} (hF : FR ad par dp) {o g : Nat → Nat → Nat} (h : Od par dp o g) {b c d : Nat} (h1 : ¬ An par dp b c) (h2 : ¬ An par dp c b) (hd : An par dp c d) : o b c % 2 = o b d % 2 := by
  obtain ⟨e, f, hs, a1, a2⟩ := fork hF h1 h2
  rw [h.2.2 e f b c hs a1 a2, h.2.2 e f b d hs a1 (a2.tr hd)]
theorem Od.l2 {ad : Nat → Nat → Prop} {par dp : Nat → Nat} (hF : FR ad par dp) {o g : Nat → Nat → Nat} (h : Od par dp o g) {a b c d : Nat} (h1 : ¬ An par dp a c) (h2 : ¬ An par dp c a) (hb : An par dp a b) (hd : An par dp c d) : o a c % 2 = o b d % 2 ∧ o a d % 2 = o b d % 2 ∧ o b c % 2 = o b d % 2 := by
  obtain ⟨e, f, hs, a1, a2⟩ := fork hF h1 h2
  rw [h.2.2 e f a c hs a1 a2, h.2.2 e f a d hs a1 (a2.tr hd), h.2.2 e f b c hs (a1.tr hb) a2, h.2.2 e f b d hs (a1.tr hb) (a2.tr hd)]
  exact ⟨rfl, rfl, rfl⟩
theorem beta_ex {ad : Nat → Nat → Prop} {par dp : Nat → Nat} {la : Nat → Nat → Nat} (hF : FR ad par dp) (hS : Sat ad par dp la) : ∃ be : Nat × Nat × Nat → Nat, ∀ t s b, bk ad par dp t s → par b = s → 0 < dp b → (∀ t1 s1, rtn ad par dp s b t1 s1 → dp t < dp t1 → be (t, s, b) % 2 = (la t1 s1 + la t s + 1) % 2) ∧ ∀ t1 s1, rtn ad par dp s b t1 s1 → dp t1 < dp t → be (t, s, b) % 2 = 0 := by
  have ex : ∀ q : Nat × Nat × Nat, ∃ y : Nat, bk ad par dp q.1 q.2.1 → par q.2.2 = q.2.1 → 0 < dp q.2.2 → (∀ t1 s1, rtn ad par dp q.2.1 q.2.2 t1 s1 → dp q.1 < dp t1 → y % 2 = (la t1 s1 + la q.1 q.2.1 + 1) % 2) ∧ ∀ t1 s1, rtn ad par dp q.2.1 q.2.2 t1 s1 → dp t1 < dp q.1 → y % 2 = 0 := by
    rintro ⟨t, s, b⟩
    show ∃ y : Nat, bk ad par dp t s → par b = s → 0 < dp b → (∀ t1 s1, rtn ad par dp s b t1 s1 → dp t < dp t1 → y % 2 = (la t1 s1 + la t s + 1) % 2) ∧ ∀ t1 s1, rtn ad par dp s b t1 s1 → dp t1 < dp t → y % 2 = 0
    by_cases c : ∃ t1 s1, rtn ad par dp s b t1 s1 ∧ dp t < dp t1
    · obtain ⟨t1, s1, r1, r2⟩ := c
      refine ⟨la t1 s1 + la t s + 1, fun hb hp h0 => ?_⟩
      have hbs := (hF.2 b h0).1
      rw [hp] at hbs
      have h2 := hb.2.2
      have hne : b ≠ t := fun e => by rw [e] at hbs; omega
      have hself : rtn ad par dp s t t s := ⟨hb, by omega, Or.inr ⟨rfl, rfl⟩⟩
      refine ⟨fun t2 s2 p1 p2 => ?_, fun t2 s2 p1 p2 => ?_⟩
      · have := hS.1 s b t t1 s1 t2 s2 t s hne r1 p1 hself r2 p2
        omega
      · have := hS.2 s b t t1 s1 t s t s t2 s2 hne r1 hself hself r2 p1 p2
        omega
    · exact ⟨0, fun _ _ _ => ⟨fun t1 s1 p1 p2 => absurd ⟨t1, s1, p1, p2⟩ c, fun _ _ _ _ => rfl⟩⟩
  obtain ⟨be, hbe⟩ := Classical.axiomOfChoice ex
  exact ⟨be, fun t s b => hbe (t, s, b)⟩
def Vl (ad : Nat → Nat → Prop) (par dp : Nat → Nat) (la : Nat → Nat → Nat) (o : Nat → Nat → Nat) (be : Nat × Nat × Nat → Nat) (t s w y : Nat) : Prop :=
  (¬ An par dp t w → y % 2 = (o t w + o s w) % 2) ∧
  (∀ c, An par dp c s → dp c = dp t + 1 → An par dp c w → ¬ An par dp s w → y % 2 = (o t w + o s w + la t s) % 2) ∧
  (∀ c, An par dp c s → dp c = dp t + 1 → An par dp t w → ¬ An par dp c w → y % 2 = 0) ∧
  (∀ b, par b = s → 0 < dp b → An par dp b w → y % 2 = be (t, s, b) % 2)
theorem Vl_ex {ad : Nat → Nat → Prop} {par dp : Nat → Nat} (hF : FR ad par dp) (la : Nat → Nat → Nat) (o : Nat → Nat → Nat) (be : Nat × Nat × Nat → Nat) {t s w : Nat} (hb : bk ad par dp t s) (hws : w ≠ s) : ∃ y, Vl ad par dp la o be t s w y := by
  have h2 := hb.2.2
  obtain ⟨c, hcs, hcd⟩ : ∃ c, An par dp c s ∧ dp c = dp t + 1 := ⟨up par (dp s - dp t - 1) s, An.ups hF (by omega), by rw [up_dp hF _ _ (by omega)]; omega⟩
  have htc : An par dp t c := hb.2.1.cmp hcs (by omega)
  have cu : ∀ c', An par dp c' s → dp c' = dp t + 1 → c' = c := fun c' h h' => An.eq h hcs (by omega)
  have sb : ∀ b, par b = s → 0 < dp b → An par dp s b := fun b e h0 => by have := An.par hF h0; rw [e] at this; exact this
  by_cases h1 : An par dp t w
  · by_cases h3 : An par dp c w
    · by_cases h4 : An par dp s w
      · have hsd : dp s < dp w := by
          rcases Nat.lt_or_ge (dp s) (dp w) with q | q
          · exact q
          · exact absurd (An.eq h4 (An.rf w) (by have := h4.1; omega)).symm hws
        obtain ⟨b0, hb0, hbd⟩ : ∃ b, An par dp b w ∧ dp b = dp s + 1 := ⟨up par (dp w - dp s - 1) w, An.ups hF (by omega), by rw [up_dp hF _ _ (by omega)]; omega⟩
        refine ⟨be (t, s, b0), fun h => absurd h1 h, fun c' _ _ _ h => absurd h4 h, fun c' a1 a2 _ h => absurd (a1.tr h4) h, fun b e h0 hbw => ?_⟩
        have := (hF.2 b h0).1
        rw [e] at this
        rw [An.eq hbw hb0 (by omega)]
      · refine ⟨o t w + o s w + la t s, fun h => absurd h1 h, fun _ _ _ _ _ => rfl, fun c' a1 a2 _ h => ?_, fun b e h0 hbw => absurd ((sb b e h0).tr hbw) h4⟩
        rw [cu c' a1 a2] at h; exact absurd h3 h
    · refine ⟨0, fun h => absurd h1 h, fun c' a1 a2 a3 _ => ?_, fun _ _ _ _ _ => rfl, fun b e h0 hbw => absurd (hcs.tr ((sb b e h0).tr hbw)) h3⟩
      rw [cu c' a1 a2] at a3; exact absurd a3 h3
  · refine ⟨o t w + o s w, fun _ => rfl, fun c' a1 a2 a3 _ => ?_, fun _ _ _ h _ => absurd h h1, fun b e h0 hbw => absurd (hb.2.1.tr ((sb b e h0).tr hbw)) h1⟩
    rw [cu c' a1 a2] at a3; exact absurd (htc.tr a3) h1
theorem x_ex {ad : Nat → Nat → Prop} {par dp : Nat → Nat} (hF : FR ad par dp) (la : Nat → Nat → Nat) (o : Nat → Nat → Nat) (be : Nat × Nat × Nat → Nat) : ∃ x : Nat → Nat → Nat → Nat, (∀ a b w, x a b w = x b a w) ∧ (∀ t s w, bk ad par dp t s → w ≠ s → Vl ad par dp la o be t s w (x t s w)) ∧ ∀ a b w, ¬ bk ad par dp a b → ¬ bk ad par dp b a → x a b w = 0 := by
  have ex : ∀ q : Nat × Nat × Nat, ∃ y : Nat, (bk ad par dp q.1 q.2.1 → q.2.2 ≠ q.2.1 → Vl ad par dp la o be q.1 q.2.1 q.2.2 y) ∧ (bk ad par dp q.2.1 q.1 → q.2.2 ≠ q.1 → Vl ad par dp la o be q.2.1 q.1 q.2.2 y) ∧ (¬ bk ad par dp q.1 q.2.1 → ¬ bk ad par dp q.2.1 q.1 → y = 0) := by
    rintro ⟨a, b, w⟩
    show ∃ y : Nat, (bk ad par dp a b → w ≠ b → Vl ad par dp la o be a b w y) ∧ (bk ad par dp b a → w ≠ a → Vl ad par dp la o be b a w y) ∧ (¬ bk ad par dp a b → ¬ bk ad par dp b a → y = 0)
    by_cases h1 : bk ad par dp a b
    · have hn : ¬ bk ad par dp b a := fun h => by have := h1.2.2; have := h.2.2; omega
      by_cases hw : w = b
      · exact ⟨0, fun _ h => absurd hw h, fun h => absurd h hn, fun _ _ => rfl⟩
      · obtain ⟨y, hy⟩ := Vl_ex hF la o be h1 hw
        exact ⟨y, fun _ _ => hy, fun h => absurd h hn, fun h => absurd h1 h⟩
    · by_cases h2 : bk ad par dp b a
      · by_cases hw : w = a
        · exact ⟨0, fun h => absurd h h1, fun _ h => absurd hw h, fun _ _ => rfl⟩
        · obtain ⟨y, hy⟩ := Vl_ex hF la o be h2 hw
          exact ⟨y, fun h => absurd h h1, fun _ _ => hy, fun _ h => absurd h2 h⟩
      · exact ⟨0, fun h => absurd h h1, fun h => absurd h h2, fun _ _ => rfl⟩
  obtain ⟨F, hFx⟩ := Classical.axiomOfChoice ex
  refine ⟨fun a b w => if a ≤ b then F (a, b, w) else F (b, a, w), fun a b w => ?_, fun t s w hb hw => ?_, fun a b w h1 h2 => ?_⟩
  · show (if a ≤ b then F (a, b, w) else F (b, a, w)) = (if b ≤ a then F (b, a, w) else F (a, b, w))
    rcases Nat.lt_trichotomy a b with q | q | q
    · rw [if_pos (by omega), if_neg (by omega)]
    · rw [q]
    · rw [if_neg (by omega), if_pos (by omega)]
  · show Vl ad par dp la o be t s w (if t ≤ s then F (t, s, w) else F (s, t, w))
    by_cases q : t ≤ s
    · rw [if_pos q]; exact (hFx (t, s, w)).1 hb hw
    · rw [if_neg q]; exact (hFx (s, t, w)).2.1 hb hw
  · show (if a ≤ b then F (a, b, w) else F (b, a, w)) = 0
    by_cases q : a ≤ b
    · rw [if_pos q]; exact (hFx (a, b, w)).2.2 h1 h2
    · rw [if_neg q]; exact (hFx (b, a, w)).2.2 h2 h1
theorem eq_bb {ad : Nat → Nat → Prop} {par dp : Nat → Nat} {la : Nat → Nat → Nat} (hF : FR ad par dp) {o g : Nat → Nat → Nat} (hO : Od par dp o g) (hgr : ∀ v u u' z, u ≠ u' → par u = v → par u' = v → Rq ad par dp la v u u' z → g u' u % 2 = z % 2) {be : Nat × Nat × Nat → Nat} (hbe : ∀ t s b, bk ad par dp t s → par b = s → 0 < dp b → (∀ t1 s1, rtn ad par dp s b t1 s1 → dp t < dp t1 → be (t, s, b) % 2 = (la t1 s1 + la t s + 1) % 2) ∧ ∀ t1 s1, rtn ad par dp s b t1 s1 → dp t1 < dp t → be (t, s, b) % 2 = 0) {x : Nat → Nat → Nat → Nat} (hx : ∀ t s w, bk ad par dp t s → w ≠ s → Vl ad par dp la o be t s w (x t s w)) {t s t' s' : Nat} (hb : bk ad par dp t s) (hb' : bk ad par dp t' s') (n1 : t ≠ t') (n2 : t ≠ s') (n3 : s ≠ t') (n4 : s ≠ s') (hup : An par dp t' t) : (x t s t' + x t s s' + x t' s' t + x t' s' s + o t t' + o t s' + o s t' + o s s') % 2 = 0 := by
  have d1 := hb.2.2
  have d2 := hb'.2.2
  have hts := hb.2.1
  have hts' := hb'.2.1
  have htt : dp t' < dp t := by
    rcases Nat.lt_or_ge (dp t') (dp t) with q | q
    · exact q
    · exact absurd (An.eq hup (An.rf t) (by have := hup.1; omega)).symm n1
  have hts2 : An par dp t' s := hup.tr hts
  obtain ⟨c, hcs, hcd⟩ : ∃ c, An par dp c s ∧ dp c = dp t + 1 := ⟨up par (dp s - dp t - 1) s, An.ups hF (by omega), by rw [up_dp hF _ _ (by omega)]; omega⟩
  obtain ⟨c', hcs', hcd'⟩ : ∃ c', An par dp c' s' ∧ dp c' = dp t' + 1 := ⟨up par (dp s' - dp t' - 1) s', An.ups hF (by omega), by rw [up_dp hF _ _ (by omega)]; omega⟩
  have v1 := hx t s t' hb (Ne.symm n3)
  have v2 := hx t s s' hb (Ne.symm n4)
  have v3 := hx t' s' t hb' n2
  have v4 := hx t' s' s hb' n4
  have e1 := v1.1 (fun h => by have := h.1; omega)
  have o1 := hO.2.1 t' t (Ne.symm n1) hup
  have o2 := hO.2.1 t' s (Ne.symm n3) hts2
  have o3 := hO.dn (Ne.symm n1) hup
  have o4 := hO.dn (Ne.symm n3) hts2
  have tss := hO.1 s s' n4
  by_cases k1 : An par dp c' t
  · by_cases k2 : An par dp s' t
    · -- the second ends above the first altogether
      have hsd : dp s' < dp t := by
        rcases Nat.lt_or_ge (dp s') (dp t) with q | q
        · exact q
        · exact absurd (An.eq k2 (An.rf t) (by have := k2.1; omega)).symm n2
      obtain ⟨b', hb1, hbd⟩ : ∃ b, An par dp b t ∧ dp b = dp s' + 1 := ⟨up par (dp t - dp s' - 1) t, An.ups hF (by omega), by rw [up_dp hF _ _ (by omega)]; omega⟩
      have hpb : par b' = s' := An.eq ((An.par hF (by omega)).tr hb1) k2 (by have := (hF.2 b' (by omega)).1; omega)
      have e3 := v3.2.2.2 b' hpb (by omega) hb1
      have e4 := v4.2.2.2 b' hpb (by omega) (hb1.tr hts)
      have e2 := v2.1 (fun h => n2 (h.anti k2))
      omega
    · by_cases k3 : An par dp t s'
      · have htsd : dp t < dp s' := by
          rcases Nat.lt_or_ge (dp t) (dp s') with q | q
          · exact q
          · exact absurd (An.eq k3 (An.rf s') (by have := k3.1; omega)) n2
        have e3 := v3.2.1 c' hcs' hcd' k1 k2
        have o5 := hO.2.1 t s' n2 k3
        have o6 := hO.dn n2 k3
        by_cases k4 : An par dp c s'
        · by_cases k5 : An par dp s s'
          · -- the first's lower end lies on the second's way
            have hssd : dp s < dp s' := by
              rcases Nat.lt_or_ge (dp s) (dp s') with q | q
              · exact q
              · exact absurd (An.eq k5 (An.rf s') (by have := k5.1; omega)) n4
            obtain ⟨b, hb1, hbd⟩ : ∃ b, An par dp b s' ∧ dp b = dp s + 1 := ⟨up par (dp s' - dp s - 1) s', An.ups hF (by omega), by rw [up_dp hF _ _ (by omega)]; omega⟩
            have hpb : par b = s := An.eq ((An.par hF (by omega)).tr hb1) k5 (by have := (hF.2 b (by omega)).1; omega)
            have e2 := v2.2.2.2 b hpb (by omega) hb1
            have e4 := v4.2.1 c' hcs' hcd' (k1.tr hts) (fun h => n4 (k5.anti h))
            have e5 := (hbe t s b hb hpb (by omega)).2 t' s' ⟨hb', by omega, Or.inl ⟨hpb, by omega, hb1⟩⟩ htt
            omega
          · have e2 := v2.2.1 c hcs hcd k4 k5
            by_cases k6 : An par dp s' s
            · -- the second's lower end lies on the first's way
              have hssd : dp s' < dp s := by
                rcases Nat.lt_or_ge (dp s') (dp s) with q | q
                · exact q
                · exact absurd (An.eq k6 (An.rf s) (by have := k6.1; omega)).symm n4
              obtain ⟨b, hb1, hbd⟩ : ∃ b, An par dp b s ∧ dp b = dp s' + 1 := ⟨up par (dp s - dp s' - 1) s, An.ups hF (by omega), by rw [up_dp hF _ _ (by omega)]; omega⟩
              have hpb : par b = s' := An.eq ((An.par hF (by omega)).tr hb1) k6 (by have := (hF.2 b (by omega)).1; omega)
              have e4 := v4.2.2.2 b hpb (by omega) hb1
              have e5 := (hbe t' s' b hb' hpb (by omega)).1 t s ⟨hb, by omega, Or.inl ⟨hpb, by omega, hb1⟩⟩ htt
              omega
            · -- a fork below t
              have e4 := v4.2.1 c' hcs' hcd' (k1.tr hts) k6
              obtain ⟨e, f, hs, a1, a2⟩ := fork hF k5 k6
              have q1 := hs.2.1
              have hdt : dp t < dp e := by
                apply Classical.byContradiction
                intro h9
                have z1 := a1.cmp hts (by omega)
                have z2 := a2.cmp k3 (by omega)
                exact hs.1 (An.eq z1 z2 q1)
              have hpe := (hF.2 e (by omega)).1
              have hpf := hs.2.2 (by omega)
              have hdv : dp t < dp (par e) := by
                apply Classical.byContradiction
                intro h9
                have z1 : e = c := An.eq a1 hcs (by omega)
                rw [z1] at q1
                exact hs.1 (z1.trans (An.eq k4 a2 q1))
              have hr := hgr (par e) e f (la t s) hs.1 rfl hpf.symm ⟨t, s, t', s', ⟨hb, hdv, Or.inl ⟨rfl, by omega, a1⟩⟩, ⟨hb', by omega, Or.inl ⟨hpf.symm, by omega, a2⟩⟩, htt, rfl⟩
              have e6 := hO.2.2 f e s' s hs.sy a2 a1
              omega
        · -- the second leaves the first's way at t
          have e2 := v2.2.2.1 c hcs hcd k3 k4
          have k7 : ¬ An par dp s' s := fun h => k4 (hcs.cmp h (by omega))
          have e4 := v4.2.1 c' hcs' hcd' (k1.tr hts) k7
          omega
      · -- side by side below t'
        have e2 := v2.1 k3
        have k7 : ¬ An par dp s' s := fun h => by
          rcases Nat.le_total (dp t) (dp s') with q | q
          · exact k3 (hts.cmp h q)
          · exact k2 (h.cmp hts q)
        have e3 := v3.2.1 c' hcs' hcd' k1 k2
        have e4 := v4.2.1 c' hcs' hcd' (k1.tr hts) k7
        have e5 := hO.l1 hF k2 k3 hts
        omega
  · -- the first lies below another child of t'
    have hdc : dp c' ≤ dp t := by omega
    have e3 := v3.2.2.1 c' hcs' hcd' hup k1
    have e4 := v4.2.2.1 c' hcs' hcd' hts2 (fun h => k1 (h.cmp hts hdc))
    have e2 := v2.1 (fun h => k1 (hcs'.cmp h hdc))
    omega
