theorem RWk.fr {M : Nat} {ad : Nat → Nat → Prop} {A B : Nat → Nat} (hE : ED M ad A B) {n : Nat} {fr to way dep abo pile nxt : Nat → Int32} {V : Nat → Prop} {par D F G pl nx : Nat → Nat} (h : RWk M ad A B n fr to way dep abo pile nxt V par D F G pl nx) : FR ad par D := ⟨hE.sy.2, fun w hw => ⟨(h.1.2.2.1 w hw).1, (h.1.2.2.1 w hw).2.1⟩⟩
theorem RWk.skip {M : Nat} {ad : Nat → Nat → Prop} {A B : Nat → Nat} {n : Nat} {fr to way dep abo pile nxt : Nat → Int32} {V : Nat → Prop} {par D F G pl nx : Nat → Nat} (h : RWk M ad A B (n + 1) fr to way dep abo pile nxt V par D F G pl nx) (hx : nx n < M) (hw : (A (nx n) = pl n ∨ B (nx n) = pl n) → way (nx n) ≠ 0) : RWk M ad A B (n + 1) fr to way dep abo pile (upd nxt n (nI (nx n + 1))) V par D F G pl (fun i => if i = n then nx n + 1 else nx i) := by
  obtain ⟨h1, h2, ⟨h3, h4, h5⟩, h6, ⟨h7, h8⟩, h9⟩ := h
  refine ⟨h1, h2, ⟨h3, fun i hi => ?_, h5⟩, h6, ⟨h7, fun i hi e he => ?_⟩, h9⟩
  · obtain ⟨q1, q2, q3, q4, q5⟩ := h4 i hi
    refine ⟨q1, q2, q3, ?_⟩
    show (if i = n then nx n + 1 else nx i) ≤ M ∧ upd nxt n (nI (nx n + 1)) i = nI (if i = n then nx n + 1 else nx i)
    by_cases c : i = n
    · subst c; rw [if_pos rfl, pk_us]; exact ⟨hx, rfl⟩
    · rw [if_neg c, pk_un c]; exact ⟨q4, q5⟩
  · have he : e < (if i = n then nx n + 1 else nx i) := he
    by_cases c : i = n
    · subst c
      rw [if_pos rfl] at he
      by_cases c2 : e = nx i
      · rw [c2]; exact hw
      · exact h8 i hi e (by omega)
    · rw [if_neg c] at he; exact h8 i hi e he
theorem RWk.pop {M : Nat} {ad : Nat → Nat → Prop} {A B : Nat → Nat} {n : Nat} {fr to way dep abo pile nxt : Nat → Int32} {V : Nat → Prop} {par D F G pl nx : Nat → Nat} {z : Int32} (h : RWk M ad A B (n + 1) fr to way dep abo pile nxt V par D F G pl nx) (hx : nx n = M) : RWk M ad A B n fr to way dep abo pile (upd nxt n z) V par D F G pl nx := by
  obtain ⟨h1, h2, ⟨h3, h4, h5⟩, h6, ⟨h7, h8⟩, h9⟩ := h
  refine ⟨h1, h2, ⟨by omega, fun i hi => ?_, fun i hi => h5 i (by omega)⟩, h6, ⟨fun w hw => ?_, fun i hi => h8 i (by omega)⟩, h9⟩
  · obtain ⟨q1, q2, q3, q4, q5⟩ := h4 i (by omega)
    refine ⟨q1, q2, q3, q4, ?_⟩
    rw [pk_un (by omega)]; exact q5
  · rcases h7 w hw with ⟨i, hi, e⟩ | q
    · by_cases c : i = n
      · subst c
        rw [← e]
        exact Or.inr (fun e he => h8 i hi e (by rw [hx]; exact he))
      · exact Or.inl ⟨i, by omega, e⟩
    · exact Or.inr q
theorem RWk.high {M : Nat} {ad : Nat → Nat → Prop} {A B : Nat → Nat} (hE : ED M ad A B) {n : Nat} {fr to way dep abo pile nxt : Nat → Int32} {V : Nat → Prop} {par D F G pl nx : Nat → Nat} (h : RWk M ad A B (n + 1) fr to way dep abo pile nxt V par D F G pl nx) {x w : Nat} (hx : x < M) (h0 : way x = 0) (hen : (A x = pl n ∧ B x = w) ∨ (A x = w ∧ B x = pl n)) (hw : V w) : bk ad par D w (pl n) := by
  have hF := h.fr hE
  have han := RWk.an hF h
  obtain ⟨h1, h2, ⟨h3, h4, h5⟩, h6, ⟨h7, h8⟩, h9⟩ := h
  have hne := (hE.1 x hx).2.2
  have hwn : w ≠ pl n := fun e => hne (by rcases hen with ⟨q1, q2⟩ | ⟨q1, q2⟩ <;> rw [q1, q2, e])
  rcases h7 w hw with ⟨i, hi, e⟩ | q
  · have hin : i ≠ n := fun c => hwn (by rw [← e, c])
    have d1 := (h4 i hi).2.1
    have d2 := (h4 n (by omega)).2.1
    have hin1 : i + 1 ≠ n := fun c => by
      have hp := h5 i (by omega)
      rw [c] at hp
      obtain ⟨f, f1, f2, f3⟩ := h9 (pl n) (by omega)
      rcases h6 f f1 with z | ⟨_, z1, ⟨_, z2, _⟩ | ⟨z2, _⟩⟩
      · rw [z] at f2; exact absurd f2 (by decide)
      · have hfx : f = x := by
          refine hE.2.2 f x f1 hx ?_
          rw [f3] at z1 z2
          rw [← z2, hp, e] at z1
          rcases z1 with ⟨a1, a2⟩ | ⟨a1, a2⟩ <;> rcases hen with ⟨b1, b2⟩ | ⟨b1, b2⟩ <;> rw [a1, a2, b1, b2]
          · exact Or.inr ⟨rfl, rfl⟩
          · exact Or.inl ⟨rfl, rfl⟩
          · exact Or.inl ⟨rfl, rfl⟩
          · exact Or.inr ⟨rfl, rfl⟩
        rw [hfx, h0] at f2; exact absurd f2 (by decide)
      · rw [z2] at f2; exact absurd f2 (by decide)
    have a := han (n - i) i (by omega)
    rw [show i + (n - i) = n by omega, e] at a
    refine ⟨(hE.2.1 _ _).mpr ⟨x, hx, hen.symm⟩, a, ?_⟩
    rw [e] at d1
    omega
  · exact absurd h0 (q x hx (by rcases hen with ⟨q1, q2⟩ | ⟨q1, q2⟩; exact Or.inr q2; exact Or.inl q1))
theorem RWk.back {M : Nat} {ad : Nat → Nat → Prop} {A B : Nat → Nat} (hE : ED M ad A B) {n : Nat} {fr to way dep abo pile nxt : Nat → Int32} {V : Nat → Prop} {par D F G pl nx : Nat → Nat} (h : RWk M ad A B (n + 1) fr to way dep abo pile nxt V par D F G pl nx) {w : Nat} (hx : nx n < M) (h0 : way (nx n) = 0) (hen : (A (nx n) = pl n ∧ B (nx n) = w) ∨ (A (nx n) = w ∧ B (nx n) = pl n)) (hw : V w) : RWk M ad A B (n + 1) (upd fr (nx n) (nI (pl n))) (upd to (nx n) (nI w)) (upd way (nx n) 2) dep abo pile (upd nxt n (nI (nx n + 1))) V par D (fun e => if e = nx n then pl n else F e) (fun e => if e = nx n then w else G e) pl (fun i => if i = n then nx n + 1 else nx i) := by
  have hb := h.high hE hx h0 hen hw
  refine RWk.skip (nx := nx) ?_ hx (fun _ => by rw [pk_us]; decide)
  obtain ⟨h1, h2, ⟨h3, h4, h5⟩, h6, ⟨h7, h8⟩, h9⟩ := h
  have hne : ∀ e, way e ≠ 0 → e ≠ nx n := fun e he c => he (by rw [c]; exact h0)
  have hne2 : ∀ e, way e ≠ 0 → upd way (nx n) 2 e ≠ 0 := fun e he => by rw [pk_un (hne e he)]; exact he
  refine ⟨h1, h2, ⟨h3, h4, h5⟩, fun e he => ?_, ⟨fun u hu => ?_, fun i hi e he hi2 => hne2 e (h8 i hi e he hi2)⟩, fun u hu => ?_⟩
  · show upd way (nx n) 2 e = 0 ∨ ((upd fr (nx n) (nI (pl n)) e = nI (if e = nx n then pl n else F e) ∧ upd to (nx n) (nI w) e = nI (if e = nx n then w else G e) ∧ V (if e = nx n then pl n else F e) ∧ V (if e = nx n then w else G e)) ∧ ((A e = (if e = nx n then pl n else F e) ∧ B e = (if e = nx n then w else G e)) ∨ (A e = (if e = nx n then w else G e) ∧ B e = (if e = nx n then pl n else F e))) ∧ ((upd way (nx n) 2 e = 1 ∧ par (if e = nx n then w else G e) = (if e = nx n then pl n else F e) ∧ 0 < D (if e = nx n then w else G e)) ∨ (upd way (nx n) 2 e = 2 ∧ bk ad par D (if e = nx n then w else G e) (if e = nx n then pl n else F e))))
    by_cases c : e = nx n
    · rw [if_pos c, if_pos c, c, pk_us, pk_us, pk_us]
      exact Or.inr ⟨⟨rfl, rfl, (h4 n (by omega)).1, hw⟩, hen, Or.inr ⟨rfl, hb⟩⟩
    · rw [if_neg c, if_neg c, pk_un c, pk_un c, pk_un c]
      exact h6 e he
  · exact (h7 u hu).imp_right (fun q e he hi => hne2 e (q e he hi))
  · obtain ⟨e, e1, e2, e3⟩ := h9 u hu
    have c : e ≠ nx n := hne e (by rw [e2]; decide)
    exact ⟨e, e1, by rw [pk_un c]; exact e2, by show (if e = nx n then w else G e) = u; rw [if_neg c]; exact e3⟩
theorem RWk.new {M : Nat} {ad : Nat → Nat → Prop} {A B : Nat → Nat} {n : Nat} {fr to way dep abo pile nxt : Nat → Int32} {V : Nat → Prop} {par D F G pl nx : Nat → Nat} (h : RWk M ad A B n fr to way dep abo pile nxt V par D F G pl nx) {w u : Nat} (hE : ED M ad A B) (hw : ¬ V w) (hu : V u) (ha : ad u w) : ∃ i, i < n ∧ pl i = u := by
  obtain ⟨h1, h2, ⟨h3, h4, h5⟩, h6, ⟨h7, h8⟩, h9⟩ := h
  rcases h7 u hu with q | q
  · exact q
  · obtain ⟨e, e1, e2⟩ := (hE.2.1 u w).mp ha
    have nz := q e e1 (by rcases e2 with ⟨z, _⟩ | ⟨_, z⟩; exact Or.inl z; exact Or.inr z)
    rcases h6 e e1 with z | ⟨⟨_, _, v1, v2⟩, z1, _⟩
    · exact absurd z nz
    · exfalso
      rcases e2 with ⟨a1, a2⟩ | ⟨a1, a2⟩ <;> rcases z1 with ⟨b1, b2⟩ | ⟨b1, b2⟩
      · exact hw (by rw [← a2, b2]; exact v2)
      · exact hw (by rw [← a2, b2]; exact v1)
      · exact hw (by rw [← a1, b1]; exact v1)
      · exact hw (by rw [← a1, b1]; exact v2)
theorem RWk.push {M : Nat} {ad : Nat → Nat → Prop} {A B : Nat → Nat} (hE : ED M ad A B) {n : Nat} {fr to way dep abo pile nxt : Nat → Int32} {V : Nat → Prop} {par D F G pl nx : Nat → Nat} (h : RWk M ad A B (n + 1) fr to way dep abo pile nxt V par D F G pl nx) {w : Nat} (hx : nx n < M) (h0 : way (nx n) = 0) (hen : (A (nx n) = pl n ∧ B (nx n) = w) ∨ (A (nx n) = w ∧ B (nx n) = pl n)) (hw : ¬ V w) (hw11 : w < 11) (hn : n + 1 < 11) : RWk M ad A B (n + 2) (upd fr (nx n) (nI (pl n))) (upd to (nx n) (nI w)) (upd way (nx n) 1) (upd dep w (nI (n + 1))) (upd abo w (nI (pl n))) (upd pile (n + 1) (nI w)) (upd (upd nxt n (nI (nx n + 1))) (n + 1) 0) (fun u => V u ∨ u = w) (fun u => if u = w then pl n else par u) (fun u => if u = w then n + 1 else D u) (fun e => if e = nx n then pl n else F e) (fun e => if e = nx n then w else G e) (fun i => if i = n + 1 then w else pl i) (fun i => if i = n + 1 then 0 else if i = n then nx n + 1 else nx i) := by
  have hF := h.fr hE
  have han := RWk.an hF h
  have hnew := fun u => h.new (u := u) hE hw
  obtain ⟨h1, h2, ⟨h3, h4, h5⟩, h6, ⟨h7, h8⟩, h9⟩ := h
  have had : ad (pl n) w := (hE.2.1 _ _).mpr ⟨nx n, hx, hen⟩
  have ne : ∀ u, V u → u ≠ w := fun u hu e => hw (by rw [← e]; exact hu)
  have he : ∀ u, V u → (fun u => if u = w then pl n else par u) u = par u ∧ (fun u => if u = w then n + 1 else D u) u = D u := fun u hu => ⟨if_neg (ne u hu), if_neg (ne u hu)⟩
  have hpn := h4 n (by omega)
  have fo := Fo.visit hE.sy h1 (b := w) (d := n + 1) (p := pl n) hw11 hw hn (Or.inr ⟨by rw [hpn.2.1], hpn.1, had⟩) (fun u hu hau => by
    obtain ⟨i, hi, e⟩ := hnew u hu hau
    refine ⟨by rw [hpn.2.1], hpn.1, ?_⟩
    have a := han (n - i) i (by omega)
    rw [show i + (n - i) = n by omega, e] at a
    exact a)
  have hne : ∀ e, way e ≠ 0 → e ≠ nx n := fun e he c => he (by rw [c]; exact h0)
  have hne2 : ∀ e, way e ≠ 0 → upd way (nx n) 1 e ≠ 0 := fun e he => by rw [pk_un (hne e he)]; exact he
  refine ⟨fo, ⟨fun u hu => ?_, fun u hu hnu => ?_⟩, ⟨by omega, fun i hi => ?_, fun i hi => ?_⟩, fun e hel => ?_, ⟨fun u hu => ?_, fun i hi e hei hi2 => ?_⟩, fun u hu => ?_⟩
  · show upd dep w (nI (n + 1)) u = nI (if u = w then n + 1 else D u) ∧ (0 < (if u = w then n + 1 else D u) → upd abo w (nI (pl n)) u = nI (if u = w then pl n else par u))
    by_cases c : u = w
    · rw [if_pos c, if_pos c, c, pk_us, pk_us]; exact ⟨rfl, fun _ => rfl⟩
    · rw [if_neg c, if_neg c, pk_un c, pk_un c]
      exact h2.1 u (hu.resolve_right c)
  · rw [pk_un (fun c => hnu (Or.inr c))]
    exact h2.2 u hu (fun q => hnu (Or.inl q))
  · show (V (if i = n + 1 then w else pl i) ∨ (if i = n + 1 then w else pl i) = w) ∧ (if (if i = n + 1 then w else pl i) = w then n + 1 else D (if i = n + 1 then w else pl i)) = i ∧ upd pile (n + 1) (nI w) i = nI (if i = n + 1 then w else pl i) ∧ (if i = n + 1 then 0 else if i = n then nx n + 1 else nx i) ≤ M ∧ upd (upd nxt n (nI (nx n + 1))) (n + 1) 0 i = nI (if i = n + 1 then 0 else if i = n then nx n + 1 else nx i)
    by_cases c : i = n + 1
    · rw [if_pos c, if_pos c, if_pos rfl, c, pk_us, pk_us]
      exact ⟨Or.inr rfl, rfl, rfl, Nat.zero_le _, rfl⟩
    · obtain ⟨q1, q2, q3, q4, q5⟩ := h4 i (by omega)
      rw [if_neg c, if_neg c, if_neg (ne _ q1), pk_un c, pk_un c]
      refine ⟨Or.inl q1, q2, q3, ?_⟩
      by_cases c2 : i = n
      · rw [if_pos c2, c2, pk_us]; exact ⟨hx, rfl⟩
      · rw [if_neg c2, pk_un c2]; exact ⟨q4, q5⟩
  · show (if (if i + 1 = n + 1 then w else pl (i + 1)) = w then pl n else par (if i + 1 = n + 1 then w else pl (i + 1))) = (if i = n + 1 then w else pl i)
    rw [if_neg (show ¬ i = n + 1 by omega)]
    by_cases c : i + 1 = n + 1
    · rw [if_pos c, if_pos rfl, show i = n by omega]
    · rw [if_neg c, if_neg (ne _ (h4 (i + 1) (by omega)).1)]
      exact h5 i (by omega)
  · show upd way (nx n) 1 e = 0 ∨ ((upd fr (nx n) (nI (pl n)) e = nI (if e = nx n then pl n else F e) ∧ upd to (nx n) (nI w) e = nI (if e = nx n then w else G e) ∧ (V (if e = nx n then pl n else F e) ∨ (if e = nx n then pl n else F e) = w) ∧ (V (if e = nx n then w else G e) ∨ (if e = nx n then w else G e) = w)) ∧ ((A e = (if e = nx n then pl n else F e) ∧ B e = (if e = nx n then w else G e)) ∨ (A e = (if e = nx n then w else G e) ∧ B e = (if e = nx n then pl n else F e))) ∧ ((upd way (nx n) 1 e = 1 ∧ (if (if e = nx n then w else G e) = w then pl n else par (if e = nx n then w else G e)) = (if e = nx n then pl n else F e) ∧ 0 < (if (if e = nx n then w else G e) = w then n + 1 else D (if e = nx n then w else G e))) ∨ (upd way (nx n) 1 e = 2 ∧ bk ad (fun u => if u = w then pl n else par u) (fun u => if u = w then n + 1 else D u) (if e = nx n then w else G e) (if e = nx n then pl n else F e))))
    by_cases c : e = nx n
    · rw [if_pos c, if_pos c, c, pk_us, pk_us, pk_us, if_pos rfl, if_pos rfl]
      exact Or.inr ⟨⟨rfl, rfl, Or.inl hpn.1, Or.inr rfl⟩, hen, Or.inl ⟨rfl, rfl, Nat.succ_pos _⟩⟩
    · rw [if_neg c, if_neg c, pk_un c, pk_un c, pk_un c]
      rcases h6 e hel with z | ⟨⟨z1, z2, z3, z4⟩, z5, z6⟩
      · exact Or.inl z
      · rw [if_neg (ne _ z4), if_neg (ne _ z4)]
        refine Or.inr ⟨⟨z1, z2, Or.inl z3, Or.inl z4⟩, z5, z6.imp_right (fun q => ⟨q.1, (bk_ext h1 he z3).mpr q.2⟩)⟩
  · rcases hu with hu | hu
    · rcases h7 u hu with ⟨i, hi, e⟩ | q
      · exact Or.inl ⟨i, by omega, by show (if i = n + 1 then w else pl i) = u; rw [if_neg (by omega)]; exact e⟩
      · exact Or.inr (fun e he2 hi => hne2 e (q e he2 hi))
    · exact Or.inl ⟨n + 1, by omega, by show (if n + 1 = n + 1 then w else pl (n + 1)) = u; rw [if_pos rfl]; exact hu.symm⟩
  · have hei3 : e < (if i = n + 1 then 0 else if i = n then nx n + 1 else nx i) := hei
    have hi3 : A e = (if i = n + 1 then w else pl i) ∨ B e = (if i = n + 1 then w else pl i) := hi2
    by_cases c : i = n + 1
    · rw [if_pos c] at hei3; omega
    · rw [if_neg c] at hei3 hi3
      by_cases c3 : e = nx n
      · rw [c3, pk_us]; decide
      · refine hne2 e ?_
        by_cases c2 : i = n
        · rw [if_pos c2] at hei3
          subst c2
          exact h8 i (by omega) e (by omega) hi3
        · rw [if_neg c2] at hei3
          exact h8 i (by omega) e hei3 hi3
  · have hu : 0 < (if u = w then n + 1 else D u) := hu
    by_cases c : u = w
    · exact ⟨nx n, hx, pk_us, by show (if nx n = nx n then w else G (nx n)) = u; rw [if_pos rfl]; exact c.symm⟩
    · rw [if_neg c] at hu
      obtain ⟨e, e1, e2, e3⟩ := h9 u hu
      have c : e ≠ nx n := hne e (by rw [e2]; decide)
      exact ⟨e, e1, by rw [pk_un c]; exact e2, by show (if e = nx n then w else G e) = u; rw [if_neg c]; exact e3⟩
theorem RWk.root {M : Nat} {ad : Nat → Nat → Prop} {A B : Nat → Nat} (hE : ED M ad A B) {fr to way dep abo pile nxt : Nat → Int32} {V : Nat → Prop} {par D F G pl nx : Nat → Nat} (h : RWk M ad A B 0 fr to way dep abo pile nxt V par D F G pl nx) {r : Nat} (hr : r < 11) (hv : ¬ V r) {z : Int32} : RWk M ad A B 1 fr to way (upd dep r 0) (upd abo r z) (upd pile 0 (nI r)) (upd nxt 0 0) (fun u => V u ∨ u = r) (fun u => if u = r then 0 else par u) (fun u => if u = r then 0 else D u) F G (fun _ => r) (fun _ => 0) := by
  have hnew := fun u => h.new (u := u) hE hv
  obtain ⟨h1, h2, ⟨h3, h4, h5⟩, h6, ⟨h7, h8⟩, h9⟩ := h
  have ne : ∀ u, V u → u ≠ r := fun u hu e => hv (by rw [← e]; exact hu)
  have he : ∀ u, V u → (fun u => if u = r then 0 else par u) u = par u ∧ (fun u => if u = r then 0 else D u) u = D u := fun u hu => ⟨if_neg (ne u hu), if_neg (ne u hu)⟩
  have fo := Fo.visit hE.sy h1 (b := r) (d := 0) (p := 0) hr hv (by decide) (Or.inl rfl) (fun u hu hau => by
    obtain ⟨i, hi, _⟩ := hnew u hu hau
    exact absurd hi (Nat.not_lt_zero _))
  refine ⟨fo, ⟨fun u hu => ?_, fun u hu hnu => ?_⟩, ⟨by decide, fun i hi => ?_, fun i hi => absurd hi (by omega)⟩, fun e hel => ?_, ⟨fun u hu => ?_, fun i hi e hei => absurd hei (Nat.not_lt_zero _)⟩, fun u hu => ?_⟩
  · show upd dep r 0 u = nI (if u = r then 0 else D u) ∧ (0 < (if u = r then 0 else D u) → upd abo r z u = nI (if u = r then 0 else par u))
    by_cases c : u = r
    · rw [if_pos c, if_pos c, c, pk_us]; exact ⟨rfl, fun q => absurd q (Nat.lt_irrefl _)⟩
    · rw [if_neg c, if_neg c, pk_un c, pk_un c]
      exact h2.1 u (hu.resolve_right c)
  · rw [pk_un (fun c => hnu (Or.inr c))]
    exact h2.2 u hu (fun q => hnu (Or.inl q))
  · have : i = 0 := by omega
    subst this
    exact ⟨Or.inr rfl, if_pos rfl, pk_us, Nat.zero_le _, pk_us⟩
  · rcases h6 e hel with z | ⟨⟨z1, z2, z3, z4⟩, z5, z6⟩
    · exact Or.inl z
    · refine Or.inr ⟨⟨z1, z2, Or.inl z3, Or.inl z4⟩, z5, ?_⟩
      show (way e = 1 ∧ (if G e = r then 0 else par (G e)) = F e ∧ 0 < (if G e = r then 0 else D (G e))) ∨ (way e = 2 ∧ bk ad (fun u => if u = r then 0 else par u) (fun u => if u = r then 0 else D u) (G e) (F e))
      rw [if_neg (ne _ z4), if_neg (ne _ z4)]
      exact z6.imp_right (fun q => ⟨q.1, (bk_ext h1 he z3).mpr q.2⟩)
  · rcases hu with hu | hu
    · rcases h7 u hu with ⟨i, hi, e⟩ | q
      · omega
      · exact Or.inr q
    · exact Or.inl ⟨0, by decide, hu.symm⟩
  · have hu : 0 < (if u = r then 0 else D u) := hu
    by_cases c : u = r
    · rw [if_pos c] at hu; omega
    · rw [if_neg c] at hu
      exact h9 u hu
