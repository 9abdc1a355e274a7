theorem ZZ.ctr {g : Nat → Nat → Bool} (hg : Gb g) {u v : Nat} (huv : g u v = true) (h : ZZ (gd g)) : ZZ (gd (ctr g u v)) := by
  obtain ⟨x, hx1, hx2⟩ := h
  have hne := hg.ne huv
  have nf : ∀ {a b : Nat}, g a b = true → ¬ g a b = false := fun e q => by rw [e] at q; cases q
  have V1 : ∀ a b w, g a b = true → (if a = u ∧ g u b = false then x v b w + x u v w else if b = u ∧ g u a = false then x v a w + x u v w else x a b w) = x a b w := fun a b w e => by
    rw [if_neg (fun q => nf e (by rw [q.1]; exact q.2)), if_neg (fun q => nf (hg.sy e) (by rw [q.1]; exact q.2))]
  have V2 : ∀ b w, tt_ g u v b = true → (if u = u ∧ g u b = false then x v b w + x u v w else if b = u ∧ g u u = false then x v u w + x u v w else x u b w) = x v b w + x u v w := fun b w e => by
    rw [if_pos ⟨rfl, (tt_iff.mp e).2.1⟩]
  have V3 : ∀ a w, tt_ g u v a = true → (if a = u ∧ g u u = false then x v u w + x u v w else if u = u ∧ g u a = false then x v a w + x u v w else x a u w) = x v a w + x u v w := fun a w e => by
    rw [if_neg (fun q => (tt_iff.mp e).2.2 q.1), if_pos ⟨rfl, (tt_iff.mp e).2.1⟩]
  have main : ∀ a b d, g a b = true → a ≠ v → b ≠ v → tt_ g u v d = true → a ≠ u → a ≠ d → b ≠ u → b ≠ d → (x a b u + x a b d + (x v d a + x u v a) + (x v d b + x u v b) + (if a < u then 1 else 0) + (if a < d then 1 else 0) + (if b < u then 1 else 0) + (if b < d then 1 else 0)) % 2 = 0 := fun a b d e ha hb ht h1 h2 h3 h4 => by
    have e1 := hx2 a b v d e (tt_iff.mp ht).1 ha h2 hb h4
    have e2 := hx2 a b u v e huv h1 ha h3 hb
    have e1 : (x a b v + x a b d + x v d a + x v d b + (if a < v then 1 else 0) + (if a < d then 1 else 0) + (if b < v then 1 else 0) + (if b < d then 1 else 0)) % 2 = 0 := e1
    have e2 : (x a b u + x a b v + x u v a + x u v b + (if a < u then 1 else 0) + (if a < v then 1 else 0) + (if b < u then 1 else 0) + (if b < v then 1 else 0)) % 2 = 0 := e2
    generalize (if a < v then 1 else 0) = z1 at *
    generalize (if b < v then 1 else 0) = z2 at *
    generalize (if a < d then 1 else 0) = z3 at *
    generalize (if b < d then 1 else 0) = z4 at *
    generalize (if a < u then 1 else 0) = z5 at *
    generalize (if b < u then 1 else 0) = z6 at *
    omega
  have tn : ∀ a b : Nat, a ≠ b → ((if a < b then 1 else 0) + (if b < a then 1 else 0)) % 2 = 1 := fun a b q => Tn_lt a b q
  have main2 : ∀ a b d, g a b = true → a ≠ v → b ≠ v → tt_ g u v d = true → a ≠ u → a ≠ d → b ≠ u → b ≠ d → ((x v d a + x u v a) + (x v d b + x u v b) + x a b u + x a b d + (if u < a then 1 else 0) + (if u < b then 1 else 0) + (if d < a then 1 else 0) + (if d < b then 1 else 0)) % 2 = 0 := fun a b d e ha hb ht h1 h2 h3 h4 => by
    have m := main a b d e ha hb ht h1 h2 h3 h4
    have t1 := tn a u h1
    have t2 := tn a d h2
    have t3 := tn b u h3
    have t4 := tn b d h4
    generalize (if a < d then 1 else 0) = z3 at *
    generalize (if b < d then 1 else 0) = z4 at *
    generalize (if a < u then 1 else 0) = z5 at *
    generalize (if b < u then 1 else 0) = z6 at *
    generalize (if d < a then 1 else 0) = y3 at *
    generalize (if d < b then 1 else 0) = y4 at *
    generalize (if u < a then 1 else 0) = y5 at *
    generalize (if u < b then 1 else 0) = y6 at *
    omega
  refine ⟨fun a b w => if a = u ∧ g u b = false then x v b w + x u v w else if b = u ∧ g u a = false then x v a w + x u v w else x a b w, fun a b w => ?_, fun a b c d h1 h2 h3 h4 h5 h6 => ?_⟩
  · show (if a = u ∧ g u b = false then x v b w + x u v w else if b = u ∧ g u a = false then x v a w + x u v w else x a b w) = (if b = u ∧ g u a = false then x v a w + x u v w else if a = u ∧ g u b = false then x v b w + x u v w else x b a w)
    by_cases c1 : a = u ∧ g u b = false
    · by_cases c2 : b = u ∧ g u a = false
      · rw [if_pos c1, if_pos c2, c1.1, c2.1]
      · rw [if_pos c1, if_neg c2, if_pos c1]
    · by_cases c2 : b = u ∧ g u a = false
      · rw [if_neg c1, if_pos c2, if_pos c2]
      · rw [if_neg c1, if_neg c2, if_neg c2, if_neg c1, hx1 a b w]
  · show ((if a = u ∧ g u b = false then x v b c + x u v c else if b = u ∧ g u a = false then x v a c + x u v c else x a b c) + (if a = u ∧ g u b = false then x v b d + x u v d else if b = u ∧ g u a = false then x v a d + x u v d else x a b d) + (if c = u ∧ g u d = false then x v d a + x u v a else if d = u ∧ g u c = false then x v c a + x u v a else x c d a) + (if c = u ∧ g u d = false then x v d b + x u v b else if d = u ∧ g u c = false then x v c b + x u v b else x c d b) + (if a < c then 1 else 0) + (if a < d then 1 else 0) + (if b < c then 1 else 0) + (if b < d then 1 else 0)) % 2 = 0
    rcases ctr_iff.mp h1 with k1 | ⟨k1, k1'⟩ | ⟨k1, k1'⟩
    · rw [V1 a b c k1.1, V1 a b d k1.1]
      rcases ctr_iff.mp h2 with k2 | ⟨k2, k2'⟩ | ⟨k2, k2'⟩
      · rw [V1 c d a k2.1, V1 c d b k2.1]
        exact hx2 a b c d k1.1 k2.1 h3 h4 h5 h6
      · subst k2
        rw [V2 d a k2', V2 d b k2']
        exact main a b d k1.1 k1.2.1 k1.2.2 k2' h3 h4 h5 h6
      · subst k2
        rw [V3 c a k2', V3 c b k2']
        have m := main a b c k1.1 k1.2.1 k1.2.2 k2' h4 h3 h6 h5
        generalize (if a < c then 1 else 0) = z1 at *
        generalize (if a < d then 1 else 0) = z2 at *
        generalize (if b < c then 1 else 0) = z3 at *
        generalize (if b < d then 1 else 0) = z4 at *
        omega
    · subst k1
      rw [V2 b c k1', V2 b d k1']
      rcases ctr_iff.mp h2 with k2 | ⟨k2, k2'⟩ | ⟨k2, k2'⟩
      · rw [V1 c d a k2.1, V1 c d b k2.1]
        exact main2 c d b k2.1 k2.2.1 k2.2.2 k1' (Ne.symm h3) (Ne.symm h5) (Ne.symm h4) (Ne.symm h6)
      · exact absurd k2.symm h3
      · exact absurd k2.symm h4
    · subst k1
      rw [V3 a c k1', V3 a d k1']
      rcases ctr_iff.mp h2 with k2 | ⟨k2, k2'⟩ | ⟨k2, k2'⟩
      · rw [V1 c d a k2.1, V1 c d b k2.1]
        have m := main2 c d a k2.1 k2.2.1 k2.2.2 k1' (Ne.symm h5) (Ne.symm h3) (Ne.symm h6) (Ne.symm h4)
        generalize (if a < c then 1 else 0) = z1 at *
        generalize (if a < d then 1 else 0) = z2 at *
        generalize (if b < c then 1 else 0) = z3 at *
        generalize (if b < d then 1 else 0) = z4 at *
        omega
      · exact absurd k2.symm h5
      · exact absurd k2.symm h6
theorem no_K5 {ad : Nat → Nat → Prop} (h : ZZ ad) {a b c d e : Nat} (ab : ad a b) (ac : ad a c) (ad' : ad a d) (ae : ad a e) (bc : ad b c) (bd : ad b d) (be : ad b e) (cd : ad c d) (ce : ad c e) (de : ad d e) (n1 : a ≠ b) (n2 : a ≠ c) (n3 : a ≠ d) (n4 : a ≠ e) (n5 : b ≠ c) (n6 : b ≠ d) (n7 : b ≠ e) (n8 : c ≠ d) (n9 : c ≠ e) (n10 : d ≠ e) : False := by
  obtain ⟨x, hx1, hx2⟩ := h
  have tn := Tn_lt
  generalize (fun u w : Nat => if u < w then 1 else 0) = o at hx2 tn
  have e1 := hx2 a b c d ab cd n2 n3 n5 n6
  have e2 := hx2 a b c e ab ce n2 n4 n5 n7
  have e3 := hx2 a b d e ab de n3 n4 n6 n7
  have e4 := hx2 a c b d ac bd n1 n3 (Ne.symm n5) n8
  have e5 := hx2 a c b e ac be n1 n4 (Ne.symm n5) n9
  have e6 := hx2 a c d e ac de n3 n4 n8 n9
  have e7 := hx2 a d b c ad' bc n1 n2 (Ne.symm n6) (Ne.symm n8)
  have e8 := hx2 a d b e ad' be n1 n4 (Ne.symm n6) n10
  have e9 := hx2 a d c e ad' ce n2 n4 (Ne.symm n8) n10
  have e10 := hx2 a e b c ae bc n1 n2 (Ne.symm n7) (Ne.symm n9)
  have e11 := hx2 a e b d ae bd n1 n3 (Ne.symm n7) (Ne.symm n10)
  have e12 := hx2 a e c d ae cd n2 n3 (Ne.symm n9) (Ne.symm n10)
  have e13 := hx2 b c d e bc de n6 n7 n8 n9
  have e14 := hx2 b d c e bd ce n5 n7 (Ne.symm n8) n10
  have e15 := hx2 b e c d be cd n5 n6 (Ne.symm n9) (Ne.symm n10)
  have t1 := tn b c n5
  have t2 := tn b d n6
  have t3 := tn b e n7
  have t4 := tn c d n8
  have t5 := tn c e n9
  have t6 := tn d e n10
  clear hx1 hx2 tn
  have s1 : (x a b c + x a b d + x c d a + x c d b + o a c + o a d + o b c + o b d + (x a b c + x a b e + x c e a + x c e b + o a c + o a e + o b c + o b e) + (x a b d + x a b e + x d e a + x d e b + o a d + o a e + o b d + o b e)) % 2 = 0 := by omega
  have s2 : (x a c b + x a c d + x b d a + x b d c + o a b + o a d + o c b + o c d + (x a c b + x a c e + x b e a + x b e c + o a b + o a e + o c b + o c e) + (x a c d + x a c e + x d e a + x d e c + o a d + o a e + o c d + o c e)) % 2 = 0 := by omega
  have s3 : (x a d b + x a d c + x b c a + x b c d + o a b + o a c + o d b + o d c + (x a d b + x a d e + x b e a + x b e d + o a b + o a e + o d b + o d e) + (x a d c + x a d e + x c e a + x c e d + o a c + o a e + o d c + o d e)) % 2 = 0 := by omega
  have s4 : (x a e b + x a e c + x b c a + x b c e + o a b + o a c + o e b + o e c + (x a e b + x a e d + x b d a + x b d e + o a b + o a d + o e b + o e d) + (x a e c + x a e d + x c d a + x c d e + o a c + o a d + o e c + o e d)) % 2 = 0 := by omega
  have s5 : (x b c d + x b c e + x d e b + x d e c + o b d + o b e + o c d + o c e + (x b d c + x b d e + x c e b + x c e d + o b c + o b e + o d c + o d e) + (x b e c + x b e d + x c d b + x c d e + o b c + o b d + o e c + o e d)) % 2 = 0 := by omega
  clear e1 e2 e3 e4 e5 e6 e7 e8 e9 e10 e11 e12 e13 e14 e15
  omega
theorem ZZ.path {ad H : Nat → Nat → Prop} (hs : ∀ b c, ad b c → ad c b) {a p q : Nat} (hap : a ≠ p) (haq : a ≠ q) (hpq : p ≠ q) (hN : ∀ w, ad a w → w = p ∨ w = q) (hir' : ∀ b, ¬ ad b b) (hH : ZZ H) (hsub : ∀ b c, b ≠ a → c ≠ a → ad b c → H b c) (hq : ad a q → H p q) : ZZ ad := by
  obtain ⟨x, hx1, hx2⟩ := hH
  have tn := Tn_lt
  generalize (fun u w : Nat => if u < w then 1 else 0) = o at hx2 tn
  have ho' : Tn (fun u w => if u = a then (if w = p then 1 else o p w) else if w = a then (if u = p then 0 else o u p) else o u w) := by
    intro u w huw
    show ((if u = a then (if w = p then 1 else o p w) else if w = a then (if u = p then 0 else o u p) else o u w) + (if w = a then (if u = p then 1 else o p u) else if u = a then (if w = p then 0 else o w p) else o w u)) % 2 = 1
    by_cases c1 : u = a
    · have hwa : ¬ w = a := fun q => huw (c1.trans q.symm)
      rw [if_pos c1, if_neg hwa, if_pos c1]
      by_cases c2 : w = p
      · rw [if_pos c2, if_pos c2]
      · rw [if_neg c2, if_neg c2]; exact tn p w (Ne.symm c2)
    · rw [if_neg c1]
      by_cases c2 : w = a
      · rw [if_pos c2, if_pos c2]
        by_cases c3 : u = p
        · rw [if_pos c3, if_pos c3]
        · rw [if_neg c3, if_neg c3]; exact tn u p c3
      · rw [if_neg c2, if_neg c2, if_neg c1]; exact tn u w huw
  have hO1 : ∀ w, w ≠ p → (fun u w => if u = a then (if w = p then 1 else o p w) else if w = a then (if u = p then 0 else o u p) else o u w) a w = o p w := fun w hw => by
    show (if a = a then (if w = p then 1 else o p w) else _) = _
    rw [if_pos rfl, if_neg hw]
  have hO2 : (fun u w => if u = a then (if w = p then 1 else o p w) else if w = a then (if u = p then 0 else o u p) else o u w) a p = 1 := by
    show (if a = a then (if p = p then 1 else o p p) else _) = _
    rw [if_pos rfl, if_pos rfl]
  have hO3 : ∀ u w, u ≠ a → w ≠ a → (fun u w => if u = a then (if w = p then 1 else o p w) else if w = a then (if u = p then 0 else o u p) else o u w) u w = o u w := fun u w h1 h2 => by
    show (if u = a then _ else if w = a then _ else o u w) = _
    rw [if_neg h1, if_neg h2]
  generalize (fun u w => if u = a then (if w = p then 1 else o p w) else if w = a then (if u = p then 0 else o u p) else o u w) = o' at ho' hO1 hO2 hO3
  have hX : ∃ X : Nat → Nat → Nat → Nat, (∀ b c w, X b c w = X c b w) ∧ (∀ w, X a p w = 0) ∧ X a q p = 0 ∧ (∀ w, w ≠ p → X a q w = x p q w) ∧ (∀ b c w, b ≠ a → c ≠ a → w ≠ a → X b c w = x b c w) ∧ (∀ b c, b ≠ a → c ≠ a → b ≠ p → c ≠ p → X b c a = x b c p) ∧ ∀ f, f ≠ a → f ≠ p → X p f a = x p q f + x p f q + 1 + o p f + o q p + o q f := by
    refine ⟨fun b c w => if b = a then (if c = q ∧ w ≠ p then x p q w else 0) else if c = a then (if b = q ∧ w ≠ p then x p q w else 0) else if w = a then (if b = p then x p q c + x p c q + 1 + o p c + o q p + o q c else if c = p then x p q b + x p b q + 1 + o p b + o q p + o q b else x b c p) else x b c w, fun b c w => ?_, fun w => ?_, ?_, fun w hw => ?_, fun b c w h1 h2 h3 => ?_, fun b c h1 h2 h3 h4 => ?_, fun f h1 h2 => ?_⟩
    · show (if b = a then (if c = q ∧ w ≠ p then x p q w else 0) else if c = a then (if b = q ∧ w ≠ p then x p q w else 0) else if w = a then (if b = p then x p q c + x p c q + 1 + o p c + o q p + o q c else if c = p then x p q b + x p b q + 1 + o p b + o q p + o q b else x b c p) else x b c w) = (if c = a then (if b = q ∧ w ≠ p then x p q w else 0) else if b = a then (if c = q ∧ w ≠ p then x p q w else 0) else if w = a then (if c = p then x p q b + x p b q + 1 + o p b + o q p + o q b else if b = p then x p q c + x p c q + 1 + o p c + o q p + o q c else x c b p) else x c b w)
      by_cases c1 : b = a
      · by_cases c2 : c = a
        · rw [if_pos c1, if_pos c2, c1, c2]
        · rw [if_pos c1, if_neg c2, if_pos c1]
      · by_cases c2 : c = a
        · rw [if_neg c1, if_pos c2, if_pos c2]
        · rw [if_neg c1, if_neg c2, if_neg c2, if_neg c1]
          by_cases c3 : w = a
          · rw [if_pos c3, if_pos c3]
            by_cases c4 : b = p
            · by_cases c5 : c = p
              · rw [if_pos c4, if_pos c5, c4, c5]
              · rw [if_pos c4, if_neg c5, if_pos c4]
            · by_cases c5 : c = p
              · rw [if_neg c4, if_pos c5, if_pos c5]
              · rw [if_neg c4, if_neg c5, if_neg c5, if_neg c4, hx1 b c p]
          · rw [if_neg c3, if_neg c3, hx1 b c w]
    · show (if a = a then (if p = q ∧ w ≠ p then x p q w else 0) else _) = 0
      rw [if_pos rfl, if_neg (fun z => hpq z.1)]
    · show (if a = a then (if q = q ∧ p ≠ p then x p q p else 0) else _) = 0
      rw [if_pos rfl, if_neg (fun z => z.2 rfl)]
    · show (if a = a then (if q = q ∧ w ≠ p then x p q w else 0) else _) = _
      rw [if_pos rfl, if_pos ⟨rfl, hw⟩]
    · show (if b = a then _ else if c = a then _ else if w = a then _ else x b c w) = _
      rw [if_neg h1, if_neg h2, if_neg h3]
    · show (if b = a then _ else if c = a then _ else if a = a then (if b = p then _ else if c = p then _ else x b c p) else _) = _
      rw [if_neg h1, if_neg h2, if_pos rfl, if_neg h3, if_neg h4]
    · show (if p = a then _ else if f = a then _ else if a = a then (if p = p then x p q f + x p f q + 1 + o p f + o q p + o q f else _) else _) = _
      rw [if_neg (Ne.symm hap), if_neg h1, if_pos rfl, if_pos rfl]
  obtain ⟨X, X0, X1, X2, X3, X4, X5, X6⟩ := hX
  have key : ∀ c d e, ad a c → ad d e → d ≠ a → e ≠ a → c ≠ d → c ≠ e → (X a c d + X a c e + X d e a + X d e c + o' a d + o' a e + o' c d + o' c e) % 2 = 0 := by
    intro c d e hac hde hd he hcd hce
    have hca : c ≠ a := fun z => hir' a (by rw [z] at hac; exact hac)
    rcases hN c hac with z | z
    · subst z
      rw [X1, X1, X5 d e hd he (Ne.symm hcd) (Ne.symm hce), X4 d e c hd he (Ne.symm hap), hO1 d (Ne.symm hcd), hO1 e (Ne.symm hce), hO3 c d (Ne.symm hap) hd, hO3 c e (Ne.symm hap) he]
      omega
    · subst z
      by_cases c1 : d = p
      · subst c1
        have hep : e ≠ d := fun z => hir' d (by rw [z] at hde; exact hde)
        rw [X2, X3 e hep, X6 e he hep, X4 d e c hd he hca, hO2, hO1 e hep, hO3 c d hca hd, hO3 c e hca he]
        omega
      · by_cases c2 : e = p
        · subst c2
          rw [X3 d c1, X2, X0 d e a, X6 d hd c1, X4 d e c hd he hca, hO2, hO1 d c1, hO3 c d hca hd, hO3 c e hca he, hx1 d e c]
          omega
        · rw [X3 d c1, X3 e c2, X5 d e hd he c1 c2, X4 d e c hd he hca, hO1 d c1, hO1 e c2, hO3 c d hca hd, hO3 c e hca he]
          exact hx2 p c d e (hq hac) (hsub d e hd he hde) (Ne.symm c1) (Ne.symm c2) hcd hce
  refine ZZ.of ho' (x := X) ⟨X0, fun b c d e hbc hde h1 h2 h3 h4 => ?_⟩
  by_cases c1 : b = a
  · subst c1
    exact key c d e hbc hde (Ne.symm h1) (Ne.symm h2) h3 h4
  · by_cases c2 : c = a
    · subst c2
      have k := key b d e (hs _ _ hbc) hde (Ne.symm h3) (Ne.symm h4) h1 h2
      rw [X0 b c d, X0 b c e]
      omega
    · by_cases c3 : d = a
      · subst c3
        have k := key e b c hde hbc h1 h3 (Ne.symm h2) (Ne.symm h4)
        have t1 := ho' b d h1
        have t2 := ho' b e h2
        have t3 := ho' c d h3
        have t4 := ho' c e h4
        omega
      · by_cases c4 : e = a
        · subst c4
          have k := key d b c (hs _ _ hde) hbc h2 h4 (Ne.symm h1) (Ne.symm h3)
          have t1 := ho' b d h1
          have t2 := ho' b e h2
          have t3 := ho' c d h3
          have t4 := ho' c e h4
          rw [X0 d e b, X0 d e c]
          omega
        · rw [X4 b c d c1 c2 c3, X4 b c e c1 c2 c4, X4 d e b c3 c4 c1, X4 d e c c3 c4 c2, hO3 b d c1 c3, hO3 b e c1 c4, hO3 c d c2 c3, hO3 c e c2 c4]
          exact hx2 b c d e (hsub b c c1 c2 hbc) (hsub d e c3 c4 hde) h1 h2 h3 h4
