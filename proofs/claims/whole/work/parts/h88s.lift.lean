def rho (o : Nat → Nat → Nat) (X : Nat → Nat → Nat → Nat) (u c d : Nat) : Nat := X u d c + X u c d + 1 + o u c + o d u + o d c
theorem zz_lift {g : Nat → Nat → Bool} (hg : Gb g) {u v : Nat} (e : g u v = true) {o : Nat → Nat → Nat} (tn : Tn o) {X : Nat → Nat → Nat → Nat} (hX : Zx (gd (ctr g u v)) o X) {al be : Nat → Nat} (hr : ∀ c d, g u c = true → g v d = true → c ≠ v → d ≠ u → c ≠ d → (al c + be d + rho o X u c d) % 2 = 0) : ZZ (gd g) := by
  have huv := hg.ne e
  obtain ⟨o', ho', O1, O2, O3⟩ : ∃ o' : Nat → Nat → Nat, Tn o' ∧ (∀ w, w ≠ u → w ≠ v → o' v w = o u w) ∧ o' v u = 1 ∧ ∀ a b, a ≠ v → b ≠ v → o' a b = o a b := by
    refine ⟨fun a w => if a = v then (if w = u then 1 else o u w) else if w = v then (if a = u then 0 else o a u) else o a w, ?_, fun w h1 h2 => ?_, ?_, fun a b h1 h2 => ?_⟩
    · intro a w haw
      show ((if a = v then (if w = u then 1 else o u w) else if w = v then (if a = u then 0 else o a u) else o a w) + (if w = v then (if a = u then 1 else o u a) else if a = v then (if w = u then 0 else o w u) else o w a)) % 2 = 1
      by_cases c1 : a = v
      · have c2 : ¬ w = v := fun q => haw (c1.trans q.symm)
        rw [if_pos c1, if_neg c2, if_pos c1]
        by_cases c3 : w = u
        · rw [if_pos c3, if_pos c3]
        · rw [if_neg c3, if_neg c3]; exact tn u w (Ne.symm c3)
      · rw [if_neg c1]
        by_cases c2 : w = v
        · rw [if_pos c2, if_pos c2]
          by_cases c3 : a = u
          · rw [if_pos c3, if_pos c3]
          · rw [if_neg c3, if_neg c3]; exact tn a u c3
        · rw [if_neg c2, if_neg c2, if_neg c1]; exact tn a w haw
    · show (if v = v then (if w = u then 1 else o u w) else _) = _
      rw [if_pos rfl, if_neg h1]
    · show (if v = v then (if u = u then 1 else o u u) else _) = _
      rw [if_pos rfl, if_pos rfl]
    · show (if a = v then _ else if b = v then _ else o a b) = _
      rw [if_neg h1, if_neg h2]
  obtain ⟨x, P0, P1, P2, P3, P4, P5, P6, P7⟩ : ∃ x : Nat → Nat → Nat → Nat, (∀ a b w, x a b w = x b a w) ∧ (∀ w, x u v w = 0) ∧ (∀ c w, c ≠ v → w ≠ v → x u c w = X u c w) ∧ (∀ c, c ≠ v → x u c v = al c) ∧ (∀ d w, d ≠ u → w ≠ u → x v d w = X u d w) ∧ (∀ d, d ≠ u → x v d u = be d) ∧ (∀ a b w, a ≠ u → a ≠ v → b ≠ u → b ≠ v → w ≠ v → x a b w = X a b w) ∧ ∀ a b, a ≠ u → a ≠ v → b ≠ u → b ≠ v → x a b v = X a b u := by
    refine ⟨fun a b w => if a = v ∨ b = v then (if a = u ∨ b = u then 0 else if w = u then be (if a = v then b else a) else X u (if a = v then b else a) w) else if a = u ∨ b = u then (if w = v then al (if a = u then b else a) else X u (if a = u then b else a) w) else if w = v then X a b u else X a b w, fun a b w => ?_, fun w => ?_, fun c w h1 h2 => ?_, fun c h1 => ?_, fun d w h1 h2 => ?_, fun d h1 => ?_, fun a b w h1 h2 h3 h4 h5 => ?_, fun a b h1 h2 h3 h4 => ?_⟩
    · show (if a = v ∨ b = v then (if a = u ∨ b = u then 0 else if w = u then be (if a = v then b else a) else X u (if a = v then b else a) w) else if a = u ∨ b = u then (if w = v then al (if a = u then b else a) else X u (if a = u then b else a) w) else if w = v then X a b u else X a b w) = (if b = v ∨ a = v then (if b = u ∨ a = u then 0 else if w = u then be (if b = v then a else b) else X u (if b = v then a else b) w) else if b = u ∨ a = u then (if w = v then al (if b = u then a else b) else X u (if b = u then a else b) w) else if w = v then X b a u else X b a w)
      by_cases c1 : a = v ∨ b = v
      · rw [if_pos c1, if_pos c1.symm]
        by_cases c2 : a = u ∨ b = u
        · rw [if_pos c2, if_pos c2.symm]
        · have c2' : ¬ (b = u ∨ a = u) := fun q => c2 q.symm
          rw [if_neg c2, if_neg c2']
          have ed : (if a = v then b else a) = (if b = v then a else b) := by
            by_cases d1 : a = v
            · by_cases d2 : b = v
              · rw [if_pos d1, if_pos d2, d1, d2]
              · rw [if_pos d1, if_neg d2]
            · have d2 : b = v := c1.resolve_left d1
              rw [if_neg d1, if_pos d2]
          rw [ed]
      · have c1' : ¬ (b = v ∨ a = v) := fun q => c1 q.symm
        rw [if_neg c1, if_neg c1']
        by_cases c2 : a = u ∨ b = u
        · rw [if_pos c2, if_pos c2.symm]
          have ed : (if a = u then b else a) = (if b = u then a else b) := by
            by_cases d1 : a = u
            · by_cases d2 : b = u
              · rw [if_pos d1, if_pos d2, d1, d2]
              · rw [if_pos d1, if_neg d2]
            · have d2 : b = u := c2.resolve_left d1
              rw [if_neg d1, if_pos d2]
          rw [ed]
        · have c2' : ¬ (b = u ∨ a = u) := fun q => c2 q.symm
          rw [if_neg c2, if_neg c2', hX.1 a b u, hX.1 a b w]
    · show (if u = v ∨ v = v then (if u = u ∨ v = u then 0 else _) else _) = 0
      rw [if_pos (Or.inr rfl), if_pos (Or.inl rfl)]
    · show (if u = v ∨ c = v then _ else if u = u ∨ c = u then (if w = v then al (if u = u then c else u) else X u (if u = u then c else u) w) else _) = _
      rw [if_neg (show ¬ (u = v ∨ c = v) from fun q => q.elim huv h1), if_pos (Or.inl rfl), if_neg h2, if_pos rfl]
    · show (if u = v ∨ c = v then _ else if u = u ∨ c = u then (if v = v then al (if u = u then c else u) else _) else _) = _
      rw [if_neg (show ¬ (u = v ∨ c = v) from fun q => q.elim huv h1), if_pos (Or.inl rfl), if_pos rfl, if_pos rfl]
    · show (if v = v ∨ d = v then (if v = u ∨ d = u then 0 else if w = u then _ else X u (if v = v then d else v) w) else _) = _
      rw [if_pos (Or.inl rfl), if_neg (show ¬ (v = u ∨ d = u) from fun q => q.elim (Ne.symm huv) h1), if_neg h2, if_pos rfl]
    · show (if v = v ∨ d = v then (if v = u ∨ d = u then 0 else if u = u then be (if v = v then d else v) else _) else _) = _
      rw [if_pos (Or.inl rfl), if_neg (show ¬ (v = u ∨ d = u) from fun q => q.elim (Ne.symm huv) h1), if_pos rfl, if_pos rfl]
    · show (if a = v ∨ b = v then _ else if a = u ∨ b = u then _ else if w = v then _ else X a b w) = _
      rw [if_neg (show ¬ (a = v ∨ b = v) from fun q => q.elim h2 h4), if_neg (show ¬ (a = u ∨ b = u) from fun q => q.elim h1 h3), if_neg h5]
    · show (if a = v ∨ b = v then _ else if a = u ∨ b = u then _ else if v = v then X a b u else _) = _
      rw [if_neg (show ¬ (a = v ∨ b = v) from fun q => q.elim h2 h4), if_neg (show ¬ (a = u ∨ b = u) from fun q => q.elim h1 h3), if_pos rfl]
  have key : ∀ d p q, g v d = true → g p q = true → v ≠ p → v ≠ q → d ≠ p → d ≠ q → (x v d p + x v d q + x p q v + x p q d + o' v p + o' v q + o' d p + o' d q) % 2 = 0 := by
    intro d p q e1 e2 m1 m2 m3 m4
    have hvd := hg.ne e1
    have hpq := hg.ne e2
    by_cases cd : d = u
    · subst cd
      have ep := O1 p (Ne.symm m3) (Ne.symm m1)
      have eq := O1 q (Ne.symm m4) (Ne.symm m2)
      rw [P0 v d p, P0 v d q, P1, P1, P7 p q (Ne.symm m3) (Ne.symm m1) (Ne.symm m4) (Ne.symm m2), P6 p q d (Ne.symm m3) (Ne.symm m1) (Ne.symm m4) (Ne.symm m2) (Ne.symm hvd), ep, eq, O3 d p (Ne.symm hvd) (Ne.symm m1), O3 d q (Ne.symm hvd) (Ne.symm m2)]
      omega
    · by_cases cp : p = u
      · subst cp
        have h := hr q d e2 e1 (Ne.symm m2) cd (Ne.symm m4)
        unfold rho at h
        rw [P5 d cd, P4 d q cd (Ne.symm hpq), P3 q (Ne.symm m2), P2 q d (Ne.symm m2) (Ne.symm hvd), O2, O1 q (Ne.symm hpq) (Ne.symm m2), O3 d p (Ne.symm hvd) (Ne.symm m1), O3 d q (Ne.symm hvd) (Ne.symm m2)]
        omega
      · by_cases cq : q = u
        · subst cq
          have h := hr p d (hg.sy e2) e1 (Ne.symm m1) cd (Ne.symm m3)
          unfold rho at h
          rw [P4 d p cd cp, P5 d cd, P0 p q v, P3 p (Ne.symm m1), P0 p q d, P2 p d (Ne.symm m1) (Ne.symm hvd), O2, O1 p cp (Ne.symm m1), O3 d p (Ne.symm hvd) (Ne.symm m1), O3 d q (Ne.symm hvd) (Ne.symm m2)]
          omega
        · have h := hX.2 u d p q (ctr_nb huv e1 cd (Ne.symm hvd)) (ctr_of e2 (Ne.symm m1) (Ne.symm m2)) (Ne.symm cp) (Ne.symm cq) m3 m4
          rw [P4 d p cd cp, P4 d q cd cq, P7 p q cp (Ne.symm m1) cq (Ne.symm m2), P6 p q d cp (Ne.symm m1) cq (Ne.symm m2) (Ne.symm hvd), O1 p cp (Ne.symm m1), O1 q cq (Ne.symm m2), O3 d p (Ne.symm hvd) (Ne.symm m1), O3 d q (Ne.symm hvd) (Ne.symm m2)]
          exact h
  have XE : ∀ a b w, a ≠ v → b ≠ v → w ≠ v → x a b w = X a b w := fun a b w h1 h2 h3 => by
    by_cases ca : a = u
    · rw [ca]; exact P2 b w h2 h3
    · by_cases cb : b = u
      · rw [cb, P0, P2 a w h1 h3, hX.1]
      · exact P6 a b w ca h1 cb h2 h3
  refine ZZ.of ho' (x := x) ⟨P0, fun a b c d e1 e2 m1 m2 m3 m4 => ?_⟩
  have e1 : g a b = true := e1
  have e2 : g c d = true := e2
  by_cases ca : a = v
  · subst ca
    exact key b c d e1 e2 m1 m2 m3 m4
  · by_cases cb : b = v
    · subst cb
      have k := key a c d (hg.sy e1) e2 m3 m4 m1 m2
      rw [P0 a b c, P0 a b d]
      omega
    · have t1 := ho' a c m1
      have t2 := ho' a d m2
      have t3 := ho' b c m3
      have t4 := ho' b d m4
      by_cases cc : c = v
      · subst cc
        have k := key d a b e2 e1 (Ne.symm m1) (Ne.symm m3) (Ne.symm m2) (Ne.symm m4)
        omega
      · by_cases cd : d = v
        · subst cd
          have k := key c a b (hg.sy e2) e1 (Ne.symm m2) (Ne.symm m4) (Ne.symm m1) (Ne.symm m3)
          rw [P0 c d a, P0 c d b]
          omega
        · rw [XE a b c ca cb cc, XE a b d ca cb cd, XE c d a cc cd ca, XE c d b cc cd cb, O3 a c ca cc, O3 a d ca cd, O3 b c cb cc, O3 b d cb cd]
          exact hX.2 a b c d (ctr_of e1 ca cb) (ctr_of e2 cc cd) m1 m2 m3 m4
theorem alt_or {g : Nat → Nat → Bool} (hg : Gb g) {u v : Nat} (e : g u v = true) (hn : ¬ ZZ (gd g)) {o : Nat → Nat → Nat} (tn : Tn o) {X : Nat → Nat → Nat → Nat} (hX : Zx (gd (ctr g u v)) o X) : (∃ c c' d d', g u c = true ∧ c ≠ v ∧ g u c' = true ∧ c' ≠ v ∧ g v d = true ∧ d ≠ u ∧ g v d' = true ∧ d' ≠ u ∧ c ≠ c' ∧ d ≠ d' ∧ c ≠ d ∧ c ≠ d' ∧ c' ≠ d ∧ c' ≠ d' ∧ (rho o X u c d + rho o X u c' d + rho o X u c d' + rho o X u c' d') % 2 = 1) ∨ ∃ c1 c2 c3, c1 ≠ c2 ∧ c1 ≠ c3 ∧ c2 ≠ c3 ∧ (g u c1 = true ∧ g v c1 = true) ∧ (g u c2 = true ∧ g v c2 = true) ∧ g u c3 = true ∧ g v c3 = true := by
  apply Classical.byContradiction
  intro hc
  have hev : ∀ c c' d d', g u c = true → c ≠ v → g u c' = true → c' ≠ v → g v d = true → d ≠ u → g v d' = true → d' ≠ u → c ≠ c' → d ≠ d' → c ≠ d → c ≠ d' → c' ≠ d → c' ≠ d' → (rho o X u c d + rho o X u c' d + rho o X u c d' + rho o X u c' d') % 2 = 0 := fun c c' d d' h1 h2 h3 h4 h5 h6 h7 h8 h9 h10 h11 h12 h13 h14 => by
    apply Classical.byContradiction
    intro h
    exact hc (Or.inl ⟨c, c', d, d', h1, h2, h3, h4, h5, h6, h7, h8, h9, h10, h11, h12, h13, h14, by omega⟩)
  have h3 : ∀ c1 c2 c3, c1 ≠ c2 → c1 ≠ c3 → c2 ≠ c3 → (g u c1 = true ∧ g v c1 = true) → (g u c2 = true ∧ g v c2 = true) → g u c3 = true ∧ g v c3 = true → False := fun c1 c2 c3 h1 h2 h3 h4 h5 h6 => hc (Or.inr ⟨c1, c2, c3, h1, h2, h3, h4, h5, h6⟩)
  by_cases q1 : ∃ d0, g v d0 = true ∧ d0 ≠ u ∧ ¬ g u d0 = true
  · obtain ⟨d0, a1, a2, a3⟩ := q1
    have hch : ∀ d, ∃ c, (∃ c, g u c = true ∧ c ≠ v ∧ c ≠ d) → g u c = true ∧ c ≠ v ∧ c ≠ d := fun d => by
      by_cases z : ∃ c, g u c = true ∧ c ≠ v ∧ c ≠ d
      · obtain ⟨c, hc⟩ := z
        exact ⟨c, fun _ => hc⟩
      · exact ⟨0, fun y => absurd y z⟩
    obtain ⟨cc, hcc⟩ := Classical.axiomOfChoice hch
    refine hn (zz_lift hg e tn hX (al := fun c => rho o X u c d0) (be := fun d => if d = d0 then 0 else rho o X u (cc d) d + rho o X u (cc d) d0) (fun c d h1 h2 h3 h4 h5 => ?_))
    show (rho o X u c d0 + (if d = d0 then 0 else rho o X u (cc d) d + rho o X u (cc d) d0) + rho o X u c d) % 2 = 0
    by_cases z : d = d0
    · rw [if_pos z, z]; omega
    · rw [if_neg z]
      obtain ⟨b1, b2, b3⟩ := hcc d ⟨c, h1, h3, h5⟩
      by_cases y : c = cc d
      · rw [← y]; omega
      · have := hev c (cc d) d d0 h1 h3 b1 b2 h2 h4 a1 a2 y z h5 (fun w => a3 (by rw [← w]; exact h1)) b3 (fun w => a3 (by rw [← w]; exact b1))
        omega
  · by_cases q2 : ∃ c0, g u c0 = true ∧ c0 ≠ v ∧ ¬ g v c0 = true
    · obtain ⟨c0, a1, a2, a3⟩ := q2
      have hch : ∀ c, ∃ d, (∃ d, g v d = true ∧ d ≠ u ∧ d ≠ c) → g v d = true ∧ d ≠ u ∧ d ≠ c := fun c => by
        by_cases z : ∃ d, g v d = true ∧ d ≠ u ∧ d ≠ c
        · obtain ⟨d, hd⟩ := z
          exact ⟨d, fun _ => hd⟩
        · exact ⟨0, fun y => absurd y z⟩
      obtain ⟨dd, hdd⟩ := Classical.axiomOfChoice hch
      refine hn (zz_lift hg e tn hX (be := fun d => rho o X u c0 d) (al := fun c => if c = c0 then 0 else rho o X u c (dd c) + rho o X u c0 (dd c)) (fun c d h1 h2 h3 h4 h5 => ?_))
      show ((if c = c0 then 0 else rho o X u c (dd c) + rho o X u c0 (dd c)) + rho o X u c0 d + rho o X u c d) % 2 = 0
      by_cases z : c = c0
      · rw [if_pos z, z]; omega
      · rw [if_neg z]
        obtain ⟨b1, b2, b3⟩ := hdd c ⟨d, h2, h4, Ne.symm h5⟩
        by_cases y : d = dd c
        · rw [← y]; omega
        · have := hev c c0 d (dd c) h1 h3 a1 a2 h2 h4 b1 b2 z y h5 (Ne.symm b3) (fun w => a3 (by rw [w]; exact h2)) (fun w => a3 (by rw [w]; exact b1))
          omega
    · have uv : ∀ c, g u c = true → c ≠ v → g v c = true := fun c h1 h2 => Classical.byContradiction (fun z => q2 ⟨c, h1, h2, z⟩)
      have vu : ∀ c, g v c = true → c ≠ u → g u c = true := fun c h1 h2 => Classical.byContradiction (fun z => q1 ⟨c, h1, h2, z⟩)
      have hch : ∀ c, ∃ d, (∃ d, g v d = true ∧ d ≠ u ∧ d ≠ c) → g v d = true ∧ d ≠ u ∧ d ≠ c := fun c => by
        by_cases z : ∃ d, g v d = true ∧ d ≠ u ∧ d ≠ c
        · obtain ⟨d, hd⟩ := z
          exact ⟨d, fun _ => hd⟩
        · exact ⟨0, fun y => absurd y z⟩
      obtain ⟨dd, hdd⟩ := Classical.axiomOfChoice hch
      refine hn (zz_lift hg e tn hX (be := fun _ => 0) (al := fun c => rho o X u c (dd c)) (fun c d h1 h2 h3' h4 h5 => ?_))
      show (rho o X u c (dd c) + 0 + rho o X u c d) % 2 = 0
      obtain ⟨b1, b2, b3⟩ := hdd c ⟨d, h2, h4, Ne.symm h5⟩
      by_cases y : d = dd c
      · rw [← y]; omega
      · exact (h3 c d (dd c) h5 (Ne.symm b3) y ⟨h1, uv c h1 h3'⟩ ⟨vu d h2 h4, h2⟩ ⟨vu _ b1 b2, b1⟩).elim
theorem no_disj {g : Nat → Nat → Bool} (hg : Gb g) {u v : Nat} (e : g u v = true) {o : Nat → Nat → Nat} (tn : Tn o) {X : Nat → Nat → Nat → Nat} (hX : Zx (gd (ctr g u v)) o X) {P Q : Nat → Prop} (hP : ∀ a, P a → a ≠ u ∧ a ≠ v) (hQ : ∀ a, Q a → a ≠ u ∧ a ≠ v) (hPQ : ∀ a, P a → ¬ Q a) {c c' d d' : Nat} (Pc : P c) (Pc' : P c') (Qd : Q d) (Qd' : Q d') (cP : Cd g P) (cQ : Cd g Q) (e1 : g u c = true) (e2 : g u c' = true) (e3 : g v d = true) (e4 : g v d' = true) (n1 : c ≠ c') (n2 : d ≠ d') : (rho o X u c d + rho o X u c' d + rho o X u c d' + rho o X u c' d') % 2 = 0 := by
  have huv := hg.ne e
  have uQ : ¬ Q u := fun q => (hQ u q).1 rfl
  have ed : ctr g u v u d = true := ctr_nb huv e3 (hQ d Qd).1 (hQ d Qd).2
  have ed' : ctr g u v u d' = true := ctr_nb huv e4 (hQ d' Qd').1 (hQ d' Qd').2
  have ec : ctr g u v u c = true := ctr_of e1 huv (hP c Pc).2
  have ec' : ctr g u v u c' = true := ctr_of e2 huv (hP c' Pc').2
  obtain ⟨Y, hY⟩ : ∃ Y : Nat → Nat, ∀ p q, ctr g u v p q = true → ¬ Q p → ¬ Q q → (Y p + Y q + X p q d + X p q d' + o p d + o q d + o p d' + o q d') % 2 = 0 := by
    have := cQ d d' Qd Qd' (fun w => Q w ∧ ∃ Y : Nat → Nat, ∀ p q, ctr g u v p q = true → ¬ Q p → ¬ Q q → (Y p + Y q + X p q d + X p q w + o p d + o q d + o p w + o q w) % 2 = 0) ⟨Qd, fun _ => 0, fun p q _ _ _ => by show (0 + 0 + X p q d + X p q d + o p d + o q d + o p d + o q d) % 2 = 0; omega⟩ (fun a b h1 h2 h3 => by
      obtain ⟨Qa, Y, hY⟩ := h1
      refine ⟨h2, fun p => Y p + X a b p, fun p q k1 k2 k3 => ?_⟩
      have y := hY p q k1 k2 k3
      have pa : a ≠ p := fun z => k2 (by rw [← z]; exact Qa)
      have qa : a ≠ q := fun z => k3 (by rw [← z]; exact Qa)
      have pb : b ≠ p := fun z => k2 (by rw [← z]; exact h2)
      have qb : b ≠ q := fun z => k3 (by rw [← z]; exact h2)
      have z := hX.2 a b p q (ctr_of h3 (hQ a Qa).2 (hQ b h2).2) k1 pa qa pb qb
      have t1 := tn a p pa
      have t2 := tn a q qa
      have t3 := tn b p pb
      have t4 := tn b q qb
      show (Y p + X a b p + (Y q + X a b q) + X p q d + X p q b + o p d + o q d + o p b + o q b) % 2 = 0
      omega)
    exact this.2
  have hT : (X u d c + X u d' c + Y c + (X u d c' + X u d' c' + Y c')) % 2 = 0 := by
    have := cP c c' Pc Pc' (fun w => P w ∧ (X u d c + X u d' c + Y c + (X u d w + X u d' w + Y w)) % 2 = 0) ⟨Pc, by omega⟩ (fun a b h1 h2 h3 => by
      obtain ⟨Pa, h1⟩ := h1
      refine ⟨h2, ?_⟩
      have eab : ctr g u v a b = true := ctr_of h3 (hP a Pa).2 (hP b h2).2
      have y := hY a b eab (hPQ a Pa) (hPQ b h2)
      have ad : a ≠ d := fun z => hPQ a Pa (by rw [z]; exact Qd)
      have ad' : a ≠ d' := fun z => hPQ a Pa (by rw [z]; exact Qd')
      have bd : b ≠ d := fun z => hPQ b h2 (by rw [z]; exact Qd)
      have bd' : b ≠ d' := fun z => hPQ b h2 (by rw [z]; exact Qd')
      have z1 := hX.2 a b u d eab ed (hP a Pa).1 ad (hP b h2).1 bd
      have z2 := hX.2 a b u d' eab ed' (hP a Pa).1 ad' (hP b h2).1 bd'
      omega)
    exact this.2
  have y1 := hY u c ec uQ (hPQ c Pc)
  have y2 := hY u c' ec' uQ (hPQ c' Pc')
  have cd : c ≠ d := fun z => hPQ c Pc (by rw [z]; exact Qd)
  have cd' : c ≠ d' := fun z => hPQ c Pc (by rw [z]; exact Qd')
  have c'd : c' ≠ d := fun z => hPQ c' Pc' (by rw [z]; exact Qd)
  have c'd' : c' ≠ d' := fun z => hPQ c' Pc' (by rw [z]; exact Qd')
  have t1 := tn c d cd
  have t2 := tn c d' cd'
  have t3 := tn c' d c'd
  have t4 := tn c' d' c'd'
  unfold rho
  omega
