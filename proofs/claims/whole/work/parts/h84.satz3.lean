theorem eq_tb {ad : Nat → Nat → Prop} {par dp : Nat → Nat} {la : Nat → Nat → Nat} (hF : FR ad par dp) {o g : Nat → Nat → Nat} (hO : Od par dp o g) {be : Nat × Nat × Nat → Nat} {x : Nat → Nat → Nat → Nat} (hx : ∀ t s w, bk ad par dp t s → w ≠ s → Vl ad par dp la o be t s w (x t s w)) {a b t s : Nat} (hp : par b = a) (h0 : 0 < dp b) (hb : bk ad par dp t s) (n1 : a ≠ t) (n2 : a ≠ s) (n3 : b ≠ t) (n4 : b ≠ s) : (x t s a + x t s b + o t a + o t b + o s a + o s b) % 2 = 0 := by
  have d1 := hb.2.2
  have hab : An par dp a b := by have := An.par hF h0; rw [hp] at this; exact this
  have hd := (hF.2 b h0).1
  rw [hp] at hd
  have up1 : ∀ z, z ≠ b → An par dp z b → An par dp z a := fun z hz h => by
    have : dp z < dp b := by
      rcases Nat.lt_or_ge (dp z) (dp b) with q | q
      · exact q
      · exact absurd (An.eq h (An.rf b) (by have := h.1; omega)) hz
    have := h.par_of hF this
    rw [hp] at this; exact this
  obtain ⟨c, hcs, hcd⟩ : ∃ c, An par dp c s ∧ dp c = dp t + 1 := ⟨up par (dp s - dp t - 1) s, An.ups hF (by omega), by rw [up_dp hF _ _ (by omega)]; omega⟩
  have htc : An par dp t c := hb.2.1.cmp hcs (by omega)
  have v1 := hx t s a hb n2
  have v2 := hx t s b hb n4
  by_cases k1 : An par dp t b
  · have k1' := up1 t (Ne.symm n3) k1
    have o1 := hO.2.1 t a (Ne.symm n1) k1'
    have o2 := hO.2.1 t b (Ne.symm n3) k1
    by_cases k2 : An par dp s b
    · have k2' := up1 s (Ne.symm n4) k2
      have hsd : dp s < dp a := by
        rcases Nat.lt_or_ge (dp s) (dp a) with q | q
        · exact q
        · exact absurd (An.eq k2' (An.rf a) (by have := k2'.1; omega)).symm n2
      obtain ⟨b0, hb1, hbd⟩ : ∃ b, An par dp b a ∧ dp b = dp s + 1 := ⟨up par (dp a - dp s - 1) a, An.ups hF (by omega), by rw [up_dp hF _ _ (by omega)]; omega⟩
      have hpb : par b0 = s := An.eq ((An.par hF (by omega)).tr hb1) k2' (by have := (hF.2 b0 (by omega)).1; omega)
      have e1 := v1.2.2.2 b0 hpb (by omega) hb1
      have e2 := v2.2.2.2 b0 hpb (by omega) (hb1.tr hab)
      have o3 := hO.2.1 s a (Ne.symm n2) k2'
      have o4 := hO.2.1 s b (Ne.symm n4) k2
      omega
    · have k2' : ¬ An par dp s a := fun h => k2 (h.tr hab)
      by_cases k3 : An par dp c a
      · have e1 := v1.2.1 c hcs hcd k3 k2'
        have e2 := v2.2.1 c hcs hcd (k3.tr hab) k2
        omega
      · have k3' : ¬ An par dp c b := fun h => by
          by_cases q : c = b
          · have hpc : par c = t := An.eq (An.par hF (by omega)) htc (by have := (hF.2 c (by omega)).1; omega)
            rw [q, hp] at hpc; exact n1 hpc
          · exact k3 (up1 c q h)
        have e1 := v1.2.2.1 c hcs hcd k1' k3
        have e2 := v2.2.2.1 c hcs hcd k1 k3'
        have k4 : ¬ An par dp a s := fun h => by
          have hta : dp t < dp a := by
            rcases Nat.lt_or_ge (dp t) (dp a) with q | q
            · exact q
            · exact absurd (An.eq k1' (An.rf a) (by have := k1'.1; omega)).symm n1
          exact k3 (hcs.cmp h (by omega))
        have e3 := hO.l1 hF k2' k4 hab
        omega
  · have e1 := v1.1 (fun h => k1 (h.tr hab))
    have e2 := v2.1 k1
    omega
theorem eq_tt {ad : Nat → Nat → Prop} {par dp : Nat → Nat} (hF : FR ad par dp) {o g : Nat → Nat → Nat} (hO : Od par dp o g) {a b c d : Nat} (hp : par b = a) (h0 : 0 < dp b) (hp' : par d = c) (h0' : 0 < dp d) (n1 : a ≠ c) (n2 : a ≠ d) (n3 : b ≠ c) (n4 : b ≠ d) (hac : An par dp a c ∨ ¬ An par dp c a) : (o a c + o a d + o b c + o b d) % 2 = 0 := by
  have hab : An par dp a b := by have := An.par hF h0; rw [hp] at this; exact this
  have hcd : An par dp c d := by have := An.par hF h0'; rw [hp'] at this; exact this
  have hd := (hF.2 b h0).1
  rw [hp] at hd
  by_cases k1 : An par dp a c
  · have o1 := hO.2.1 a c n1 k1
    have o2 := hO.2.1 a d n2 (k1.tr hcd)
    by_cases k2 : An par dp b c
    · have o3 := hO.2.1 b c n3 k2
      have o4 := hO.2.1 b d n4 (k2.tr hcd)
      omega
    · have k3 : ¬ An par dp c b := fun h => by
        have q1 := h.1
        have q2 : dp a < dp c := by
          rcases Nat.lt_or_ge (dp a) (dp c) with q | q
          · exact q
          · exact absurd (An.eq k1 (An.rf c) (by have := k1.1; omega)) n1
        exact n3 (An.eq h (An.rf b) (by omega)).symm
      have e3 := hO.l1 hF k2 k3 hcd
      omega
  · have k2 := hac.resolve_left k1
    obtain ⟨e1, e2, e3⟩ := hO.l2 hF k1 k2 hab hcd
    omega
theorem Sat_Z {ad : Nat → Nat → Prop} {par dp : Nat → Nat} (hF : FR ad par dp) (hD : ∀ a b, ad a b → a ≠ b ∧ (An par dp a b ∨ An par dp b a)) {la : Nat → Nat → Nat} (hS : Sat ad par dp la) : ZZ ad := by
  obtain ⟨g, hg, hgr⟩ := order_ex hS
  obtain ⟨o, ho1, ho2, ho3⟩ := tour_ex hF hg
  have hO : Od par dp o g := ⟨ho1, ho2, ho3⟩
  obtain ⟨be, hbe⟩ := beta_ex hF hS
  obtain ⟨x, hxs, hx, hx0⟩ := x_ex hF la o be
  refine ZZ.of ho1 (x := x) ⟨hxs, ?_⟩
  have dn : ∀ a b, ad a b → An par dp a b → (par b = a ∧ 0 < dp b) ∨ bk ad par dp a b := fun a b h1 h2 => by
    have hlt : dp a < dp b := by
      rcases Nat.lt_or_ge (dp a) (dp b) with q | q
      · exact q
      · exact absurd (An.eq h2 (An.rf b) (by have := h2.1; omega)) (hD a b h1).1
    by_cases q : dp b = dp a + 1
    · exact Or.inl ⟨An.eq (An.par hF (by omega)) h2 (by have := (hF.2 b (by omega)).1; omega), by omega⟩
    · exact Or.inr ⟨h1, h2, by omega⟩
  have t0 : ∀ a b w, par b = a → 0 < dp b → x a b w = 0 := fun a b w h1 h2 => by
    have := (hF.2 b h2).1
    rw [h1] at this
    exact hx0 a b w (fun h => by have := h.2.2; omega) (fun h => by have := h.2.2; omega)
  have main : ∀ a b c d, ad a b → ad c d → An par dp a b → An par dp c d → a ≠ c → a ≠ d → b ≠ c → b ≠ d → (x a b c + x a b d + x c d a + x c d b + o a c + o a d + o b c + o b d) % 2 = 0 := by
    intro a b c d h1 h2 h3 h4 n1 n2 n3 n4
    have f1 := ho1 a c n1
    have f2 := ho1 a d n2
    have f3 := ho1 b c n3
    have f4 := ho1 b d n4
    rcases dn a b h1 h3 with ⟨p1, p2⟩ | hb
    · rw [t0 a b c p1 p2, t0 a b d p1 p2]
      rcases dn c d h2 h4 with ⟨q1, q2⟩ | hb'
      · rw [t0 c d a q1 q2, t0 c d b q1 q2]
        by_cases k : An par dp a c ∨ ¬ An par dp c a
        · have := eq_tt hF hO p1 p2 q1 q2 n1 n2 n3 n4 k
          omega
        · have k2 : An par dp c a := Classical.byContradiction (fun h => k (Or.inr h))
          have := eq_tt hF hO q1 q2 p1 p2 (Ne.symm n1) (Ne.symm n3) (Ne.symm n2) (Ne.symm n4) (Or.inl k2)
          omega
      · have := eq_tb hF hO hx p1 p2 hb' n1 n2 n3 n4
        omega
    · rcases dn c d h2 h4 with ⟨q1, q2⟩ | hb'
      · rw [t0 c d a q1 q2, t0 c d b q1 q2]
        have := eq_tb hF hO hx q1 q2 hb (Ne.symm n1) (Ne.symm n3) (Ne.symm n2) (Ne.symm n4)
        omega
      · by_cases k1 : An par dp c a
        · exact eq_bb hF hO hgr hbe hx hb hb' n1 n2 n3 n4 k1
        · by_cases k2 : An par dp a c
          · have := eq_bb hF hO hgr hbe hx hb' hb (Ne.symm n1) (Ne.symm n3) (Ne.symm n2) (Ne.symm n4) k2
            omega
          · -- apart
            obtain ⟨e1, e2, e3⟩ := hO.l2 hF k2 k1 h3 h4
            have g1 : ¬ An par dp a d := fun h => by
              rcases Nat.le_total (dp a) (dp c) with q | q
              · exact k2 (h.cmp h4 q)
              · exact k1 (h4.cmp h q)
            have g2 : ¬ An par dp c b := fun h => by
              rcases Nat.le_total (dp a) (dp c) with q | q
              · exact k2 (h3.cmp h q)
              · exact k1 (h.cmp h3 q)
            have v1 := (hx a b c hb (Ne.symm n3)).1 k2
            have v2 := (hx a b d hb (Ne.symm n4)).1 g1
            have v3 := (hx c d a hb' n2).1 k1
            have v4 := (hx c d b hb' n4).1 g2
            omega
  intro a b c d h1 h2 n1 n2 n3 n4
  rcases (hD a b h1).2 with q1 | q1 <;> rcases (hD c d h2).2 with q2 | q2
  · exact main a b c d h1 h2 q1 q2 n1 n2 n3 n4
  · have := main a b d c h1 (hF.1 _ _ h2) q1 q2 n2 n1 n4 n3
    rw [hxs d c a, hxs d c b] at this
    omega
  · have := main b a c d (hF.1 _ _ h1) h2 q1 q2 n3 n4 n1 n2
    rw [hxs b a c, hxs b a d] at this
    omega
  · have := main b a d c (hF.1 _ _ h1) (hF.1 _ _ h2) q1 q2 n4 n3 n2 n1
    rw [hxs b a d, hxs b a c, hxs d c b, hxs d c a] at this
    omega
theorem Sat_iff {ad : Nat → Nat → Prop} {par dp : Nat → Nat} (hF : FR ad par dp) (hD : ∀ a b, ad a b → a ≠ b ∧ (An par dp a b ∨ An par dp b a)) : (∃ la, Sat ad par dp la) ↔ ZZ ad := ⟨fun ⟨_, h⟩ => Sat_Z hF hD h, fun h => Z_Sat h hF⟩
