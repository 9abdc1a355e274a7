theorem Zx.tr {ad : Nat → Nat → Prop} {o : Nat → Nat → Nat} {x : Nat → Nat → Nat → Nat} (h : Zx ad o x) {A B : Nat → Nat → Nat} {m : Nat} (hA : ∀ a b, A a b = A b a) (hB : ∀ u w, u ≠ w → (B u w + B w u) % 2 = m) : Zx ad o (fun a b w => x a b w + (A a b + (B a w + B b w))) := by
  refine ⟨fun a b w => ?_, fun a b c d h1 h2 n1 n2 n3 n4 => ?_⟩
  · show x a b w + (A a b + (B a w + B b w)) = x b a w + (A b a + (B b w + B a w))
    rw [h.1 a b w, hA a b]; omega
  · have e := h.2 a b c d h1 h2 n1 n2 n3 n4
    have k1 := hB a c n1
    have k2 := hB a d n2
    have k3 := hB b c n3
    have k4 := hB b d n4
    show ((x a b c + (A a b + (B a c + B b c))) + (x a b d + (A a b + (B a d + B b d))) + (x c d a + (A c d + (B c a + B d a))) + (x c d b + (A c d + (B c b + B d b))) + o a c + o a d + o b c + o b d) % 2 = 0
    omega
theorem sym6 {t s1 s2 s3 : Nat} (n1 : s1 ≠ t) (n2 : s2 ≠ t) (n3 : s3 ≠ t) (n12 : s1 ≠ s2) (n13 : s1 ≠ s3) (n23 : s2 ≠ s3) (v1 v2 v3 v12 v13 v23 : Nat) : ∃ A : Nat → Nat → Nat, (∀ a b, A a b = A b a) ∧ A s1 t = v1 ∧ A s2 t = v2 ∧ A s3 t = v3 ∧ A s1 s2 = v12 ∧ A s1 s3 = v13 ∧ A s2 s3 = v23 := by
  obtain ⟨ix, i0, i1, i2, i3⟩ : ∃ ix : Nat → Nat, ix t = 1 ∧ ix s1 = 2 ∧ ix s2 = 4 ∧ ix s3 = 8 := by
    refine ⟨fun a => if a = t then 1 else if a = s1 then 2 else if a = s2 then 4 else 8, if_pos rfl, ?_, ?_, ?_⟩
    · show (if s1 = t then 1 else if s1 = s1 then 2 else if s1 = s2 then 4 else 8) = 2
      rw [if_neg n1, if_pos rfl]
    · show (if s2 = t then 1 else if s2 = s1 then 2 else if s2 = s2 then 4 else 8) = 4
      rw [if_neg n2, if_neg (Ne.symm n12), if_pos rfl]
    · show (if s3 = t then 1 else if s3 = s1 then 2 else if s3 = s2 then 4 else 8) = 8
      rw [if_neg n3, if_neg (Ne.symm n13), if_neg (Ne.symm n23)]
  refine ⟨fun a b => if ix a + ix b = 3 then v1 else if ix a + ix b = 5 then v2 else if ix a + ix b = 9 then v3 else if ix a + ix b = 6 then v12 else if ix a + ix b = 10 then v13 else v23, fun a b => ?_, ?_, ?_, ?_, ?_, ?_, ?_⟩
  · show (if ix a + ix b = 3 then v1 else if ix a + ix b = 5 then v2 else if ix a + ix b = 9 then v3 else if ix a + ix b = 6 then v12 else if ix a + ix b = 10 then v13 else v23) = (if ix b + ix a = 3 then v1 else if ix b + ix a = 5 then v2 else if ix b + ix a = 9 then v3 else if ix b + ix a = 6 then v12 else if ix b + ix a = 10 then v13 else v23)
    rw [Nat.add_comm (ix a) (ix b)]
  · show (if ix s1 + ix t = 3 then v1 else _) = v1
    rw [i0, i1]; rfl
  · show (if ix s2 + ix t = 3 then v1 else if ix s2 + ix t = 5 then v2 else _) = v2
    rw [i0, i2]; rfl
  · show (if ix s3 + ix t = 3 then v1 else if ix s3 + ix t = 5 then v2 else if ix s3 + ix t = 9 then v3 else _) = v3
    rw [i0, i3]; rfl
  · show (if ix s1 + ix s2 = 3 then v1 else if ix s1 + ix s2 = 5 then v2 else if ix s1 + ix s2 = 9 then v3 else if ix s1 + ix s2 = 6 then v12 else _) = v12
    rw [i1, i2]; rfl
  · show (if ix s1 + ix s3 = 3 then v1 else if ix s1 + ix s3 = 5 then v2 else if ix s1 + ix s3 = 9 then v3 else if ix s1 + ix s3 = 6 then v12 else if ix s1 + ix s3 = 10 then v13 else _) = v13
    rw [i1, i3]; rfl
  · show (if ix s2 + ix s3 = 3 then v1 else if ix s2 + ix s3 = 5 then v2 else if ix s2 + ix s3 = 9 then v3 else if ix s2 + ix s3 = 6 then v12 else if ix s2 + ix s3 = 10 then v13 else v23) = v23
    rw [i2, i3]; rfl
theorem Zx.norm {ad : Nat → Nat → Prop} {o : Nat → Nat → Nat} {x : Nat → Nat → Nat → Nat} (h : Zx ad o x) {t s1 s2 s3 : Nat} (n1 : s1 ≠ t) (n2 : s2 ≠ t) (n3 : s3 ≠ t) (n12 : s1 ≠ s2) (n13 : s1 ≠ s3) (n23 : s2 ≠ s3) (f12 f21 f13 f31 f23 f32 h12 h13 h23 : Nat) : ∃ x', Zx ad o x' ∧ (x' s1 t s2 + f12) % 2 = 0 ∧ (x' s2 t s1 + f21) % 2 = 0 ∧ (x' s1 t s3 + f13) % 2 = 0 ∧ (x' s3 t s1 + f31) % 2 = 0 ∧ (x' s2 t s3 + f23) % 2 = 0 ∧ (x' s3 t s2 + f32) % 2 = 0 ∧ (x' s1 s2 s3 + h12) % 2 = 0 ∧ (x' s1 s3 s2 + h13) % 2 = 0 ∧ (x' s2 s3 s1 + h23) % 2 = 0 := by
  obtain ⟨m, hm⟩ : ∃ m : Nat, m = (x s1 t s2 + f12 + (x s2 t s1 + f21) + (x s1 t s3 + f13) + (x s3 t s1 + f31) + (x s2 t s3 + f23) + (x s3 t s2 + f32)) % 2 := ⟨_, rfl⟩
  obtain ⟨mir, hmir⟩ : ∃ mir : Nat → Nat → Nat, ∀ u w, u ≠ w → (mir u w + mir w u) % 2 = m := by
    by_cases c : m = 0
    · exact ⟨fun _ _ => 0, fun u w _ => by rw [c]; rfl⟩
    · have : m = 1 := by omega
      rw [this]
      exact ⟨fun u w => if u < w then 1 else 0, Tn_lt⟩
  obtain ⟨a1, ha1⟩ : ∃ a, a = mir t s1 := ⟨_, rfl⟩
  obtain ⟨a2, ha2⟩ : ∃ a, a = x s1 t s2 + f12 + (x s2 t s1 + f21) + m + mir t s2 := ⟨_, rfl⟩
  obtain ⟨a3, ha3⟩ : ∃ a, a = x s1 t s3 + f13 + (x s3 t s1 + f31) + m + mir t s3 := ⟨_, rfl⟩
  obtain ⟨b12, hb12⟩ : ∃ b, b = x s1 t s2 + f12 + a1 + mir s1 s2 + mir t s2 := ⟨_, rfl⟩
  obtain ⟨b13, hb13⟩ : ∃ b, b = x s1 t s3 + f13 + a1 + mir s1 s3 + mir t s3 := ⟨_, rfl⟩
  obtain ⟨b23, hb23⟩ : ∃ b, b = x s2 t s3 + f23 + a2 + mir s2 s3 + mir t s3 := ⟨_, rfl⟩
  obtain ⟨Bs, Bsy, B1, B2, B3, B12, B13, B23⟩ := sym6 n1 n2 n3 n12 n13 n23 0 0 0 b12 b13 b23
  obtain ⟨A, Asy, A1, A2, A3, A12, A13, A23⟩ := sym6 n1 n2 n3 n12 n13 n23 a1 a2 a3 (x s1 s2 s3 + h12 + (mir s1 s3 + Bs s1 s3) + (mir s2 s3 + Bs s2 s3)) (x s1 s3 s2 + h13 + (mir s1 s2 + Bs s1 s2) + (mir s3 s2 + Bs s3 s2)) (x s2 s3 s1 + h23 + (mir s2 s1 + Bs s2 s1) + (mir s3 s1 + Bs s3 s1))
  have hz := h.tr (A := A) (B := fun u w => mir u w + Bs u w) (m := m) Asy (fun u w huw => by
    have := hmir u w huw
    have e := Bsy u w
    show (mir u w + Bs u w + (mir w u + Bs w u)) % 2 = m
    omega)
  have p12 := hmir s1 s2 n12
  have p13 := hmir s1 s3 n13
  have p23 := hmir s2 s3 n23
  have Bt1 : Bs t s1 = 0 := by rw [Bsy]; exact B1
  have Bt2 : Bs t s2 = 0 := by rw [Bsy]; exact B2
  have Bt3 : Bs t s3 = 0 := by rw [Bsy]; exact B3
  have B21 : Bs s2 s1 = b12 := by rw [Bsy]; exact B12
  have B31 : Bs s3 s1 = b13 := by rw [Bsy]; exact B13
  have B32 : Bs s3 s2 = b23 := by rw [Bsy]; exact B23
  refine ⟨_, hz, ?_, ?_, ?_, ?_, ?_, ?_, ?_, ?_, ?_⟩
  · show (x s1 t s2 + (A s1 t + (mir s1 s2 + Bs s1 s2 + (mir t s2 + Bs t s2))) + f12) % 2 = 0
    rw [A1, B12, Bt2]; omega
  · show (x s2 t s1 + (A s2 t + (mir s2 s1 + Bs s2 s1 + (mir t s1 + Bs t s1))) + f21) % 2 = 0
    rw [A2, B21, Bt1]; omega
  · show (x s1 t s3 + (A s1 t + (mir s1 s3 + Bs s1 s3 + (mir t s3 + Bs t s3))) + f13) % 2 = 0
    rw [A1, B13, Bt3]; omega
  · show (x s3 t s1 + (A s3 t + (mir s3 s1 + Bs s3 s1 + (mir t s1 + Bs t s1))) + f31) % 2 = 0
    rw [A3, B31, Bt1]; omega
  · show (x s2 t s3 + (A s2 t + (mir s2 s3 + Bs s2 s3 + (mir t s3 + Bs t s3))) + f23) % 2 = 0
    rw [A2, B23, Bt3]; omega
  · show (x s3 t s2 + (A s3 t + (mir s3 s2 + Bs s3 s2 + (mir t s2 + Bs t s2))) + f32) % 2 = 0
    rw [A3, B32, Bt2]; omega
  · show (x s1 s2 s3 + (A s1 s2 + (mir s1 s3 + Bs s1 s3 + (mir s2 s3 + Bs s2 s3))) + h12) % 2 = 0
    rw [A12]; omega
  · show (x s1 s3 s2 + (A s1 s3 + (mir s1 s2 + Bs s1 s2 + (mir s3 s2 + Bs s3 s2))) + h13) % 2 = 0
    rw [A13]; omega
  · show (x s2 s3 s1 + (A s2 s3 + (mir s2 s1 + Bs s2 s1 + (mir s3 s1 + Bs s3 s1))) + h23) % 2 = 0
    rw [A23]; omega
theorem ZZ.glue {g g1 g2 : Nat → Nat → Bool} (hg : Gb g) {s1 s2 s3 t1 t2 : Nat} {sd : Nat → Nat} (n12 : s1 ≠ s2) (n13 : s1 ≠ s3) (n23 : s2 ≠ s3) (hS : ∀ a, sd a = 1 ↔ a = s1 ∨ a = s2 ∨ a = s3) (ht1 : sd t1 = 0) (ht2 : sd t2 = 2) (hsd : ∀ a, sd a ≤ 2) (hno : ∀ a b, g a b = true → sd a = 0 → sd b = 2 → False) (k1 : ∀ a b, g a b = true → sd a ≤ 1 → sd b ≤ 1 → g1 a b = true) (k1' : ∀ a b, g a b = true → sd a = 1 → sd b = 2 → g1 a t2 = true) (k2 : ∀ a b, g a b = true → 1 ≤ sd a → 1 ≤ sd b → g2 a b = true) (k2' : ∀ a b, g a b = true → sd a = 1 → sd b = 0 → g2 a t1 = true) (z1 : ZZ (gd g1)) (z2 : ZZ (gd g2)) : ZZ (gd g) := by
  have ho : Tn (fun u w => if sd u < sd w then 1 else if sd w < sd u then 0 else if u < w then 1 else 0) := by
    intro u w huw
    show ((if sd u < sd w then 1 else if sd w < sd u then 0 else if u < w then 1 else 0) + (if sd w < sd u then 1 else if sd u < sd w then 0 else if w < u then 1 else 0)) % 2 = 1
    rcases Nat.lt_trichotomy (sd u) (sd w) with q | q | q
    · rw [if_pos q, if_neg (show ¬ sd w < sd u by omega), if_pos q]
    · have q1 : ¬ sd u < sd w := by omega
      have q2 : ¬ sd w < sd u := by omega
      rw [if_neg q1, if_neg q2, if_neg q2, if_neg q1]
      rcases Nat.lt_trichotomy u w with z | z | z
      · rw [if_pos z, if_neg (by omega)]
      · exact absurd z huw
      · rw [if_neg (by omega), if_pos z]
    · rw [if_neg (show ¬ sd u < sd w by omega), if_pos q, if_pos q]
  have o1 : ∀ u w, sd u < sd w → (fun u w => if sd u < sd w then 1 else if sd w < sd u then 0 else if u < w then 1 else 0) u w = 1 := fun u w q => by
    show (if sd u < sd w then 1 else _) = 1
    rw [if_pos q]
  generalize (fun u w => if sd u < sd w then 1 else if sd w < sd u then 0 else if u < w then 1 else 0) = o at ho o1
  obtain ⟨x0, hx0⟩ := z1
  obtain ⟨x1, hx1⟩ := hx0.move Tn_lt ho
  obtain ⟨y0, hy0⟩ := z2
  obtain ⟨y1, hy1⟩ := hy0.move Tn_lt ho
  have S1 := (hS s1).mpr (Or.inl rfl)
  have S2 := (hS s2).mpr (Or.inr (Or.inl rfl))
  have S3 := (hS s3).mpr (Or.inr (Or.inr rfl))
  obtain ⟨x2, hx2, q12, q21, q13, q31, q23, q32, r12, r13, r23⟩ := hy1.norm (t := t1) (s1 := s1) (s2 := s2) (s3 := s3) (fun e => by rw [e] at S1; omega) (fun e => by rw [e] at S2; omega) (fun e => by rw [e] at S3; omega) n12 n13 n23 (x1 s2 t2 s1 + o s1 s2 + 1) (x1 s1 t2 s2 + o s2 s1 + 1) (x1 s3 t2 s1 + o s1 s3 + 1) (x1 s1 t2 s3 + o s3 s1 + 1) (x1 s3 t2 s2 + o s2 s3 + 1) (x1 s2 t2 s3 + o s3 s2 + 1) (x1 s1 s2 s3) (x1 s1 s3 s2) (x1 s2 s3 s1)
  have star : ∀ s s', sd s = 1 → sd s' = 1 → s ≠ s' → (x1 s' t2 s + x2 s t1 s' + o s s' + 1) % 2 = 0 := by
    intro s s' h h' hne
    rcases (hS s).mp h with e | e | e <;> rcases (hS s').mp h' with e' | e' | e' <;> subst e <;> subst e' <;> first | exact absurd rfl hne | omega
  have tri : ∀ s s' s'', sd s = 1 → sd s' = 1 → sd s'' = 1 → s ≠ s' → s ≠ s'' → s' ≠ s'' → (x1 s s' s'' + x2 s s' s'') % 2 = 0 := by
    intro s s' s'' h h' h'' hne hne2 hne3
    have y12 := hx1.1 s1 s2 s3
    have y13 := hx1.1 s1 s3 s2
    have y23 := hx1.1 s2 s3 s1
    have w12 := hx2.1 s1 s2 s3
    have w13 := hx2.1 s1 s3 s2
    have w23 := hx2.1 s2 s3 s1
    rcases (hS s).mp h with e | e | e <;> rcases (hS s').mp h' with e' | e' | e' <;> rcases (hS s'').mp h'' with e'' | e'' | e'' <;> subst e <;> subst e' <;> subst e'' <;> first | exact absurd rfl hne | exact absurd rfl hne2 | exact absurd rfl hne3 | omega
  clear q12 q21 q13 q31 q23 q32 r12 r13 r23 hy1 hy0 hx0 x0 y0 y1
  obtain ⟨X, hX⟩ : ∃ X : Nat → Nat → Nat → Nat, ∀ a b w, X a b w = (if sd w ≤ 1 then (if sd a ≤ 1 ∧ sd b ≤ 1 then x1 a b w else if sd w = 1 then x2 a b w else x2 a b t1 + (if sd a = 1 then x1 a t2 w else if sd b = 1 then x1 b t2 w else 0)) else (if 1 ≤ sd a ∧ 1 ≤ sd b then x2 a b w else x1 a b t2 + (if sd a = 1 then x2 a t1 w else if sd b = 1 then x2 b t1 w else 0))) := ⟨_, fun _ _ _ => rfl⟩
  have Xs : ∀ a b w, X a b w = X b a w := by
    intro a b w
    rw [hX, hX]
    by_cases c1 : sd w ≤ 1
    · rw [if_pos c1, if_pos c1]
      by_cases c2 : sd a ≤ 1 ∧ sd b ≤ 1
      · rw [if_pos c2, if_pos ⟨c2.2, c2.1⟩, hx1.1]
      · have c2' : ¬ (sd b ≤ 1 ∧ sd a ≤ 1) := fun q => c2 ⟨q.2, q.1⟩
        rw [if_neg c2, if_neg c2', hx2.1 a b w, hx2.1 a b t1]
        by_cases c3 : sd w = 1
        · rw [if_pos c3, if_pos c3]
        · rw [if_neg c3, if_neg c3]
          by_cases c4 : sd a = 1
          · rw [if_pos c4, if_neg (show ¬ sd b = 1 by omega), if_pos c4]
          · rw [if_neg c4]
            by_cases c5 : sd b = 1
            · rw [if_pos c5, if_pos c5]
            · rw [if_neg c5, if_neg c5, if_neg c4]
    · rw [if_neg c1, if_neg c1]
      by_cases c2 : 1 ≤ sd a ∧ 1 ≤ sd b
      · rw [if_pos c2, if_pos ⟨c2.2, c2.1⟩, hx2.1]
      · have c2' : ¬ (1 ≤ sd b ∧ 1 ≤ sd a) := fun q => c2 ⟨q.2, q.1⟩
        rw [if_neg c2, if_neg c2', hx1.1 a b t2]
        by_cases c4 : sd a = 1
        · rw [if_pos c4, if_neg (show ¬ sd b = 1 by omega), if_pos c4]
        · rw [if_neg c4]
          by_cases c5 : sd b = 1
          · rw [if_pos c5, if_pos c5]
          · rw [if_neg c5, if_neg c5, if_neg c4]
  have XA : ∀ a b w, sd a ≤ 1 → sd b ≤ 1 → sd w ≤ 1 → X a b w = x1 a b w := fun a b w h1 h2 h3 => by rw [hX, if_pos h3, if_pos ⟨h1, h2⟩]
  have XB : ∀ a b w, 1 ≤ sd a → 1 ≤ sd b → sd w = 2 → X a b w = x2 a b w := fun a b w h1 h2 h3 => by rw [hX, if_neg (by omega), if_pos ⟨h1, h2⟩]
  have XC : ∀ a b w, sd b = 2 → sd w = 1 → X a b w = x2 a b w := fun a b w h1 h2 => by rw [hX, if_pos (by omega), if_neg (by omega), if_pos h2]
  have XD : ∀ a b w, sd a = 2 → sd b = 2 → sd w = 0 → X a b w = x2 a b t1 := fun a b w h1 h2 h3 => by rw [hX, if_pos (by omega), if_neg (by omega), if_neg (by omega), if_neg (by omega), if_neg (by omega)]; omega
  have XE : ∀ a b w, sd a = 1 → sd b = 2 → sd w = 0 → X a b w = x2 a b t1 + x1 a t2 w := fun a b w h1 h2 h3 => by rw [hX, if_pos (by omega), if_neg (by omega), if_neg (by omega), if_pos h1]
  have XF : ∀ a b w, sd a = 0 → sd b = 0 → sd w = 2 → X a b w = x1 a b t2 := fun a b w h1 h2 h3 => by rw [hX, if_neg (by omega), if_neg (by omega), if_neg (by omega), if_neg (by omega)]; omega
  have XG : ∀ a b w, sd a = 1 → sd b = 0 → sd w = 2 → X a b w = x1 a b t2 + x2 a t1 w := fun a b w h1 h2 h3 => by rw [hX, if_neg (by omega), if_neg (by omega), if_pos h1]
  have X2 : ∀ a b w, 1 ≤ sd a → 1 ≤ sd b → 1 ≤ sd w → a ≠ b → a ≠ w → b ≠ w → (X a b w + x2 a b w) % 2 = 0 := fun a b w h1 h2 h3 n1 n2 n3 => by
    have ha := hsd a
    have hb := hsd b
    have hw := hsd w
    by_cases c : sd w = 2
    · rw [XB a b w h1 h2 c]; omega
    · have c : sd w = 1 := by omega
      by_cases d : sd b = 2
      · rw [XC a b w d c]; omega
      · by_cases d2 : sd a = 2
        · rw [Xs, XC b a w d2 c, hx2.1 b a w]; omega
        · rw [XA a b w (by omega) (by omega) (by omega)]
          exact tri a b w (by omega) (by omega) c n1 n2 n3
  clear hX
  have cross : ∀ a b c d, g a b = true → g c d = true → a ≠ c → a ≠ d → b ≠ c → b ≠ d → sd a = 0 → sd d = 2 → (X a b c + X a b d + X c d a + X c d b + o a c + o a d + o b c + o b d) % 2 = 0 := by
    intro a b c d e1 e2 m1 m2 m3 m4 ha hd
    have hb : sd b ≤ 1 := by
      have := hsd b
      by_cases q : sd b = 2
      · exact (hno a b e1 ha q).elim
      · omega
    have hc : 1 ≤ sd c := by
      by_cases q : sd c = 0
      · exact (hno c d e2 q hd).elim
      · omega
    have hc2 := hsd c
    have oad := o1 a d (by omega)
    have at2 : a ≠ t2 := fun e => by rw [e, ht2] at ha; omega
    have bt2 : b ≠ t2 := fun e => by rw [e, ht2] at hb; omega
    have ct1 : c ≠ t1 := fun e => by rw [e, ht1] at hc; omega
    have dt1 : d ≠ t1 := fun e => by rw [e, ht1] at hd; omega
    by_cases cb : sd b = 0
    · by_cases cc : sd c = 2
      · rw [XF a b c ha cb cc, XF a b d ha cb hd, XD c d a cc hd ha, XD c d b cc hd cb, oad, o1 a c (by omega), o1 b c (by omega), o1 b d (by omega)]
        omega
      · have cc : sd c = 1 := by omega
        have q := hx1.2 a b c t2 (k1 a b e1 (by omega) (by omega)) (k1' c d e2 cc hd) m1 at2 m3 bt2
        rw [XA a b c (by omega) (by omega) (by omega), XF a b d ha cb hd, XE c d a cc hd ha, XE c d b cc hd cb, oad, o1 b d (by omega)]
        rw [o1 a t2 (by omega), o1 b t2 (by omega)] at q
        omega
    · have cb : sd b = 1 := by omega
      by_cases cc : sd c = 2
      · have q := hx2.2 b t1 c d (k2' b a (hg.sy e1) cb ha) (k2 c d e2 (by omega) (by omega)) m3 m4 (Ne.symm ct1) (Ne.symm dt1)
        rw [Xs a b c, Xs a b d, XG b a c cb ha cc, XG b a d cb ha hd, XD c d a cc hd ha, XC c d b hd cb, oad, o1 a c (by omega)]
        rw [o1 t1 c (by omega), o1 t1 d (by omega)] at q
        omega
      · have cc : sd c = 1 := by omega
        have p := hx1.2 b a c t2 (k1 b a (hg.sy e1) (by omega) (by omega)) (k1' c d e2 cc hd) m3 bt2 m1 at2
        have q := hx2.2 b t1 c d (k2' b a (hg.sy e1) cb ha) (k2 c d e2 (by omega) (by omega)) m3 m4 (Ne.symm ct1) (Ne.symm dt1)
        have r := star b c cb cc m3
        rw [XA a b c (by omega) (by omega) (by omega), Xs a b d, XG b a d cb ha hd, XE c d a cc hd ha, XC c d b hd cb, oad, hx1.1 a b c]
        rw [o1 b t2 (by omega), o1 a t2 (by omega)] at p
        rw [o1 t1 c (by omega), o1 t1 d (by omega)] at q
        omega
  have cross2 : ∀ a b c d, g a b = true → g c d = true → a ≠ c → a ≠ d → b ≠ c → b ≠ d → (sd a = 0 ∨ sd b = 0) → (sd c = 2 ∨ sd d = 2) → (X a b c + X a b d + X c d a + X c d b + o a c + o a d + o b c + o b d) % 2 = 0 := by
    intro a b c d e1 e2 m1 m2 m3 m4 ha hd
    have sab := fun w => Xs a b w
    have scd := fun w => Xs c d w
    rcases ha with ha | ha
    · rcases hd with hd | hd
      · have q := cross a b d c e1 (hg.sy e2) m2 m1 m4 m3 ha hd
        rw [← scd a, ← scd b] at q
        omega
      · exact cross a b c d e1 e2 m1 m2 m3 m4 ha hd
    · rcases hd with hd | hd
      · have q := cross b a d c (hg.sy e1) (hg.sy e2) m4 m3 m2 m1 ha hd
        rw [← scd a, ← scd b, ← sab c, ← sab d] at q
        omega
      · have q := cross b a c d (hg.sy e1) e2 m3 m4 m1 m2 ha hd
        rw [← sab c, ← sab d] at q
        omega
  refine ZZ.of ho (x := X) ⟨Xs, fun a b c d e1 e2 m1 m2 m3 m4 => ?_⟩
  have e1 : g a b = true := e1
  have e2 : g c d = true := e2
  have da := hsd a
  have db := hsd b
  have dc := hsd c
  have dd := hsd d
  have nab := hg.ne e1
  have ncd := hg.ne e2
  by_cases c1 : sd a ≤ 1 ∧ sd b ≤ 1 ∧ sd c ≤ 1 ∧ sd d ≤ 1
  · obtain ⟨i1, i2, i3, i4⟩ := c1
    rw [XA a b c i1 i2 i3, XA a b d i1 i2 i4, XA c d a i3 i4 i1, XA c d b i3 i4 i2]
    exact hx1.2 a b c d (k1 a b e1 i1 i2) (k1 c d e2 i3 i4) m1 m2 m3 m4
  · by_cases c2 : 1 ≤ sd a ∧ 1 ≤ sd b ∧ 1 ≤ sd c ∧ 1 ≤ sd d
    · obtain ⟨i1, i2, i3, i4⟩ := c2
      have p1 := X2 a b c i1 i2 i3 nab m1 m3
      have p2 := X2 a b d i1 i2 i4 nab m2 m4
      have p3 := X2 c d a i3 i4 i1 ncd (Ne.symm m1) (Ne.symm m2)
      have p4 := X2 c d b i3 i4 i2 ncd (Ne.symm m3) (Ne.symm m4)
      have q := hx2.2 a b c d (k2 a b e1 i1 i2) (k2 c d e2 i3 i4) m1 m2 m3 m4
      omega
    · have no1 : ∀ u w, g u w = true → ¬ (sd u = 0 ∧ sd w = 2) := fun u w e q => hno u w e q.1 q.2
      have f1 := no1 a b e1
      have f2 := no1 b a (hg.sy e1)
      have f3 := no1 c d e2
      have f4 := no1 d c (hg.sy e2)
      by_cases c3 : sd a = 0 ∨ sd b = 0
      · exact cross2 a b c d e1 e2 m1 m2 m3 m4 c3 (by omega)
      · have q := cross2 c d a b e2 e1 (Ne.symm m1) (Ne.symm m3) (Ne.symm m2) (Ne.symm m4) (by omega) (by omega)
        have t1' := ho a c m1
        have t2' := ho a d m2
        have t3' := ho b c m3
        have t4' := ho b d m4
        omega
