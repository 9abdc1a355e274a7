theorem fl1 (f : Nat → Bool) (x : Nat) (l : List Nat) : (List.filter f (x :: l)).length = ig (f x) + (List.filter f l).length := by
  cases h : f x
  · rw [List.filter_cons_of_neg (by rw [h]; decide)]; show _ = 0 + _; omega
  · rw [List.filter_cons_of_pos h]; show (List.filter f l).length + 1 = 1 + _; omega
theorem fl0 (f : Nat → Bool) : (List.filter f []).length = 0 := rfl
def M5k (b0 b1 b2 b3 b4 b5 b6 b7 b8 b9 : Bool) : Bool := decide (3 ≤ ig b0 + ig b1 + ig b2 + ig b3) && decide (3 ≤ ig b0 + ig b4 + ig b5 + ig b6) && decide (3 ≤ ig b1 + ig b4 + ig b7 + ig b8) && decide (3 ≤ ig b2 + ig b5 + ig b7 + ig b9) && decide (3 ≤ ig b3 + ig b6 + ig b8 + ig b9)
def M5c (b0 b1 b2 b3 b4 b5 b6 b7 b8 b9 : Bool) : Bool := (b5 && (b7 && (b6 && (b0 && (b8 && (b1 && (b3))))))) || ((b4 && (b7 && (b6 && (b0 && (b9 && (b2 && (b3))))))) || ((b4 && (b8 && (b5 && (b0 && (b9 && (b3 && (b2))))))) || ((b2 && (b7 && (b3 && (b0 && (b8 && (b4 && (b6))))))) || ((b1 && (b7 && (b3 && (b0 && (b9 && (b5 && (b6))))))) || ((b1 && (b8 && (b2 && (b0 && (b9 && (b6 && (b5))))))) || ((b2 && (b5 && (b3 && (b1 && (b6 && (b4 && (b8))))))) || ((b0 && (b5 && (b3 && (b1 && (b9 && (b7 && (b8))))))) || ((b0 && (b6 && (b2 && (b1 && (b9 && (b8 && (b7))))))) || ((b1 && (b4 && (b3 && (b2 && (b6 && (b5 && (b9))))))) || ((b0 && (b4 && (b3 && (b2 && (b8 && (b7 && (b9))))))) || ((b0 && (b6 && (b1 && (b2 && (b8 && (b9 && (b7))))))) || ((b1 && (b4 && (b2 && (b3 && (b5 && (b6 && (b9))))))) || ((b0 && (b4 && (b2 && (b3 && (b7 && (b8 && (b9))))))) || ((b0 && (b5 && (b1 && (b3 && (b7 && (b9 && (b8)))))))))))))))))))))
theorem M5_all : ∀ (b0 b1 b2 b3 b4 b5 b6 b7 b8 b9 : Bool), M5k b0 b1 b2 b3 b4 b5 b6 b7 b8 b9 = true → M5c b0 b1 b2 b3 b4 b5 b6 b7 b8 b9 = true := by decide +kernel
theorem M5 (b0 b1 b2 b3 b4 b5 b6 b7 b8 b9 : Bool) (h0 : 3 ≤ ig b0 + ig b1 + ig b2 + ig b3) (h1 : 3 ≤ ig b0 + ig b4 + ig b5 + ig b6) (h2 : 3 ≤ ig b1 + ig b4 + ig b7 + ig b8) (h3 : 3 ≤ ig b2 + ig b5 + ig b7 + ig b9) (h4 : 3 ≤ ig b3 + ig b6 + ig b8 + ig b9) : (b5 = true ∧ b7 = true ∧ b6 = true ∧ b0 = true ∧ b8 = true ∧ b1 = true ∧ b3 = true) ∨ (b4 = true ∧ b7 = true ∧ b6 = true ∧ b0 = true ∧ b9 = true ∧ b2 = true ∧ b3 = true) ∨ (b4 = true ∧ b8 = true ∧ b5 = true ∧ b0 = true ∧ b9 = true ∧ b3 = true ∧ b2 = true) ∨ (b2 = true ∧ b7 = true ∧ b3 = true ∧ b0 = true ∧ b8 = true ∧ b4 = true ∧ b6 = true) ∨ (b1 = true ∧ b7 = true ∧ b3 = true ∧ b0 = true ∧ b9 = true ∧ b5 = true ∧ b6 = true) ∨ (b1 = true ∧ b8 = true ∧ b2 = true ∧ b0 = true ∧ b9 = true ∧ b6 = true ∧ b5 = true) ∨ (b2 = true ∧ b5 = true ∧ b3 = true ∧ b1 = true ∧ b6 = true ∧ b4 = true ∧ b8 = true) ∨ (b0 = true ∧ b5 = true ∧ b3 = true ∧ b1 = true ∧ b9 = true ∧ b7 = true ∧ b8 = true) ∨ (b0 = true ∧ b6 = true ∧ b2 = true ∧ b1 = true ∧ b9 = true ∧ b8 = true ∧ b7 = true) ∨ (b1 = true ∧ b4 = true ∧ b3 = true ∧ b2 = true ∧ b6 = true ∧ b5 = true ∧ b9 = true) ∨ (b0 = true ∧ b4 = true ∧ b3 = true ∧ b2 = true ∧ b8 = true ∧ b7 = true ∧ b9 = true) ∨ (b0 = true ∧ b6 = true ∧ b1 = true ∧ b2 = true ∧ b8 = true ∧ b9 = true ∧ b7 = true) ∨ (b1 = true ∧ b4 = true ∧ b2 = true ∧ b3 = true ∧ b5 = true ∧ b6 = true ∧ b9 = true) ∨ (b0 = true ∧ b4 = true ∧ b2 = true ∧ b3 = true ∧ b7 = true ∧ b8 = true ∧ b9 = true) ∨ (b0 = true ∧ b5 = true ∧ b1 = true ∧ b3 = true ∧ b7 = true ∧ b9 = true ∧ b8 = true) := by
  have k : M5k b0 b1 b2 b3 b4 b5 b6 b7 b8 b9 = true := by
    unfold M5k
    rw [decide_eq_true h0, decide_eq_true h1, decide_eq_true h2, decide_eq_true h3, decide_eq_true h4]
    rfl
  have c := M5_all b0 b1 b2 b3 b4 b5 b6 b7 b8 b9 k
  unfold M5c at c
  simp only [Bool.or_eq_true, Bool.and_eq_true] at c
  exact c
theorem minor6 {g : Nat → Nat → Bool} (hg : Gb g) (hz : ZZ (gd g)) {a A B C D T : Nat} (h1 : g a A = true) (h2 : g a B = true) (h3 : g a C = true) (h4 : g a D = true) (h5 : g a T = true) (nAB : A ≠ B) (nCD : C ≠ D) (nCT : C ≠ T) (e1 : g A C = true) (e2 : g C B = true) (e3 : g A D = true) (e4 : g A T = true) (e5 : g B D = true) (e6 : g B T = true) (e7 : g D T = true) : False := by
  have hz' := ZZ.ctr hg e1 hz
  have R : ∀ x y, g x y = true → x ≠ C → y ≠ C → gd (ctr g A C) x y := fun x y q q1 q2 => ctr_iff.mpr (Or.inl ⟨q, q1, q2⟩)
  have nA := hg.ne e1
  have nB := Ne.symm (hg.ne e2)
  have na := hg.ne h3
  have AB : gd (ctr g A C) A B := by
    cases c : g A B
    · exact ctr_iff.mpr (Or.inr (Or.inl ⟨rfl, tt_iff.mpr ⟨e2, c, Ne.symm nAB⟩⟩))
    · exact R A B c nA nB
  exact no_K5 hz' (a := a) (b := A) (c := B) (d := D) (e := T) (R _ _ h1 na nA) (R _ _ h2 na nB) (R _ _ h4 na (Ne.symm nCD)) (R _ _ h5 na (Ne.symm nCT)) AB (R _ _ e3 nA (Ne.symm nCD)) (R _ _ e4 nA (Ne.symm nCT)) (R _ _ e5 nB (Ne.symm nCD)) (R _ _ e6 nB (Ne.symm nCT)) (R _ _ e7 (Ne.symm nCD) (Ne.symm nCT)) (hg.ne h1) (hg.ne h2) (hg.ne h4) (hg.ne h5) nAB (hg.ne e3) (hg.ne e4) (hg.ne e5) (hg.ne e6) (hg.ne e7)
theorem euler_in {k : Nat} (IH : ∀ S g, Gb g → Spp S g → ns S = k + 3 → ZZ (gd g) → en g ≤ 6 * k + 6) : ∀ (n : Nat) (S : Nat → Bool) (g : Nat → Nat → Bool), Gb g → Spp S g → ns S = k + 4 → en g ≤ n → ZZ (gd g) → en g ≤ 6 * k + 12 := by
  intro n
  induction n with
  | zero => intro S g _ _ _ h _; omega
  | succ n ih =>
    intro S g hg hS hn hle hz
    apply Classical.byContradiction
    intro hbig
    by_cases c : ∃ a, a < 11 ∧ S a = true ∧ dg g a ≤ 5
    · obtain ⟨a, ha, hSa, hd⟩ := c
      by_cases c3 : dg g a ≤ 3
      · have hw := ns_wo ha hSa
        have hr := en_rmv hg ha
        have := IH (wo S a) (rmv g a) (hg.rmv a) (fun b c q => by
          obtain ⟨q1, q2, q3⟩ := rmv_iff.mp q
          exact wo_iff.mpr ⟨hS b c q1, q2⟩) (by omega) (hz.sub (fun b c q => (rmv_iff.mp q).1))
        omega
      · by_cases c2 : ∃ b, g a b = true ∧ cmn g a b ≤ 2
        · obtain ⟨b, hb, hcm⟩ := c2
          have hw := ns_wo (hg.lt hb).2 (hS b a (hg.sy hb))
          have hr := en_ctr hg hb
          have := IH (wo S b) (ctr g a b) (hg.ctr ha) (fun x y q => by
            rcases ctr_iff.mp q with q | ⟨q1, q2⟩ | ⟨q1, q2⟩
            · exact wo_iff.mpr ⟨hS x y q.1, q.2.1⟩
            · rw [q1]; exact wo_iff.mpr ⟨hSa, hg.ne hb⟩
            · have q3 := (tt_iff.mp q2).1
              exact wo_iff.mpr ⟨hS x b (hg.sy q3), Ne.symm (hg.ne q3)⟩) (by omega) (hz.ctr hg hb)
          omega
        · have hc3 : ∀ b, g a b = true → 3 ≤ cmn g a b := fun b hb => by
            apply Classical.byContradiction
            intro h3
            exact c2 ⟨b, hb, by omega⟩
          obtain ⟨L, hL1, hL2, hL3, hL4⟩ := nb_list g a
          rcases L with _ | ⟨p, _ | ⟨q, _ | ⟨r, _ | ⟨s, _ | ⟨t, _ | ⟨z, L⟩⟩⟩⟩⟩⟩
          · have : 0 = dg g a := hL1; omega
          · have : 1 = dg g a := hL1; omega
          · have : 2 = dg g a := hL1; omega
          · have : 3 = dg g a := hL1; omega
          · have hp := ((hL2 p).mp (by simp)).2
            have hq := ((hL2 q).mp (by simp)).2
            have hr := ((hL2 r).mp (by simp)).2
            have hs := ((hL2 s).mp (by simp)).2
            have o : (p < q ∧ p < r ∧ p < s) ∧ (q < r ∧ q < s) ∧ r < s := by simpa using hL3
            have k1 := hc3 p hp
            have k2 := hc3 q hq
            have k3 := hc3 r hr
            have k4 := hc3 s hs
            rw [hL4, fl1, fl1, fl1, fl1, fl0] at k1 k2 k3 k4
            rw [hg.2.1 p] at k1
            rw [hg.2.1 q, hg.1 q p] at k2
            rw [hg.2.1 r, hg.1 r p, hg.1 r q] at k3
            have f0 : ig false = 0 := rfl
            rw [f0] at k1 k2 k3
            have l1 := ig_le (g p q)
            have l2 := ig_le (g p r)
            have l3 := ig_le (g p s)
            have l4 := ig_le (g q r)
            have l5 := ig_le (g q s)
            have l6 := ig_le (g r s)
            have tr : ∀ b : Bool, 1 ≤ ig b → b = true := fun b h => by
              cases b
              · exact absurd h (by decide)
              · rfl
            exact no_K5 hz (a := a) (b := p) (c := q) (d := r) (e := s) hp hq hr hs (tr _ (by omega)) (tr _ (by omega)) (tr _ (by omega)) (tr _ (by omega)) (tr _ (by omega)) (tr _ (by omega)) (hg.ne hp) (hg.ne hq) (hg.ne hr) (hg.ne hs) (by omega) (by omega) (by omega) (by omega) (by omega) (by omega)
          · have hp := ((hL2 p).mp (by simp)).2
            have hq := ((hL2 q).mp (by simp)).2
            have hr := ((hL2 r).mp (by simp)).2
            have hs := ((hL2 s).mp (by simp)).2
            have ht := ((hL2 t).mp (by simp)).2
            have o : (p < q ∧ p < r ∧ p < s ∧ p < t) ∧ (q < r ∧ q < s ∧ q < t) ∧ (r < s ∧ r < t) ∧ s < t := by simpa using hL3
            have k1 := hc3 p hp
            have k2 := hc3 q hq
            have k3 := hc3 r hr
            have k4 := hc3 s hs
            have k5 := hc3 t ht
            rw [hL4, fl1, fl1, fl1, fl1, fl1, fl0] at k1 k2 k3 k4 k5
            rw [hg.2.1 p] at k1
            rw [hg.2.1 q, hg.1 q p] at k2
            rw [hg.2.1 r, hg.1 r p, hg.1 r q] at k3
            rw [hg.2.1 s, hg.1 s p, hg.1 s q, hg.1 s r] at k4
            rw [hg.2.1 t, hg.1 t p, hg.1 t q, hg.1 t r, hg.1 t s] at k5
            have f0 : ig false = 0 := rfl
            rw [f0] at k1 k2 k3 k4 k5
            obtain ⟨⟨o1, o2, o3, o4⟩, ⟨o5, o6, o7⟩, ⟨o8, o9⟩, o10⟩ := o
            rcases M5 (g p q) (g p r) (g p s) (g p t) (g q r) (g q s) (g q t) (g r s) (g r t) (g s t) (by omega) (by omega) (by omega) (by omega) (by omega) with ⟨m1, m2, m3, m4, m5, m6, m7⟩ | ⟨m1, m2, m3, m4, m5, m6, m7⟩ | ⟨m1, m2, m3, m4, m5, m6, m7⟩ | ⟨m1, m2, m3, m4, m5, m6, m7⟩ | ⟨m1, m2, m3, m4, m5, m6, m7⟩ | ⟨m1, m2, m3, m4, m5, m6, m7⟩ | ⟨m1, m2, m3, m4, m5, m6, m7⟩ | ⟨m1, m2, m3, m4, m5, m6, m7⟩ | ⟨m1, m2, m3, m4, m5, m6, m7⟩ | ⟨m1, m2, m3, m4, m5, m6, m7⟩ | ⟨m1, m2, m3, m4, m5, m6, m7⟩ | ⟨m1, m2, m3, m4, m5, m6, m7⟩ | ⟨m1, m2, m3, m4, m5, m6, m7⟩ | ⟨m1, m2, m3, m4, m5, m6, m7⟩ | ⟨m1, m2, m3, m4, m5, m6, m7⟩
            · exact minor6 hg hz hq hr hs ht hp (by omega) (by omega) (by omega) m1 (hg.sy m2) m3 (hg.sy m4) m5 (hg.sy m6) (hg.sy m7)
            · exact minor6 hg hz hq hs hr ht hp (by omega) (by omega) (by omega) m1 m2 m3 (hg.sy m4) m5 (hg.sy m6) (hg.sy m7)
            · exact minor6 hg hz hq ht hr hs hp (by omega) (by omega) (by omega) m1 m2 m3 (hg.sy m4) (hg.sy m5) (hg.sy m6) (hg.sy m7)
            · exact minor6 hg hz hp hr hs ht hq (by omega) (by omega) (by omega) m1 (hg.sy m2) m3 m4 m5 (hg.sy m6) (hg.sy m7)
            · exact minor6 hg hz hp hs hr ht hq (by omega) (by omega) (by omega) m1 m2 m3 m4 m5 (hg.sy m6) (hg.sy m7)
            · exact minor6 hg hz hp ht hr hs hq (by omega) (by omega) (by omega) m1 m2 m3 m4 (hg.sy m5) (hg.sy m6) (hg.sy m7)
            · exact minor6 hg hz hp hq hs ht hr (by omega) (by omega) (by omega) m1 (hg.sy m2) m3 m4 m5 m6 (hg.sy m7)
            · exact minor6 hg hz hp hs hq ht hr (by omega) (by omega) (by omega) m1 m2 m3 m4 m5 (hg.sy m6) (hg.sy m7)
            · exact minor6 hg hz hp ht hq hs hr (by omega) (by omega) (by omega) m1 m2 m3 m4 (hg.sy m5) (hg.sy m6) (hg.sy m7)
            · exact minor6 hg hz hp hq hr ht hs (by omega) (by omega) (by omega) m1 (hg.sy m2) m3 m4 m5 m6 (hg.sy m7)
            · exact minor6 hg hz hp hr hq ht hs (by omega) (by omega) (by omega) m1 m2 m3 m4 m5 m6 (hg.sy m7)
            · exact minor6 hg hz hp ht hq hr hs (by omega) (by omega) (by omega) m1 m2 m3 m4 (hg.sy m5) (hg.sy m6) m7
            · exact minor6 hg hz hp hq hr hs ht (by omega) (by omega) (by omega) m1 (hg.sy m2) m3 m4 m5 m6 m7
            · exact minor6 hg hz hp hr hq hs ht (by omega) (by omega) (by omega) m1 m2 m3 m4 m5 m6 m7
            · exact minor6 hg hz hp hs hq hr ht (by omega) (by omega) (by omega) m1 m2 m3 m4 (hg.sy m5) m6 m7
          · have : L.length + 1 + 1 + 1 + 1 + 1 + 1 = dg g a := by rw [← hL1]; rfl
            omega
    · have hall := en_ge (S := S) (g := g) (m := 6) (fun a h1 h2 => by
        apply Classical.byContradiction
        intro h3
        exact c ⟨a, h1, h2, by omega⟩)
      rw [hn] at hall
      obtain ⟨a, ha, hp⟩ := su_pos 11 (show 0 < su (fun i => ig (S i)) 11 by have : su (fun i => ig (S i)) 11 = k + 4 := hn; omega)
      have hSa : S a = true := by
        apply Classical.byContradiction
        intro h
        have hp : 0 < ig (S a) := hp
        rw [ig_f h] at hp; omega
      have hd : 6 ≤ dg g a := by
        apply Classical.byContradiction
        intro h3
        exact c ⟨a, ha, hSa, by omega⟩
      obtain ⟨b, hb, hp⟩ := su_pos 11 (show 0 < su (fun i => ig (g a i)) 11 by have : su (fun i => ig (g a i)) 11 = dg g a := rfl; omega)
      have hab : g a b = true := by
        apply Classical.byContradiction
        intro h
        have hp : 0 < ig (g a b) := hp
        rw [ig_f h] at hp; omega
      have hdl := en_del hg hab
      have := ih S (del g a b) (hg.del a b) (fun x y q => hS x y (del_iff.mp q).1) hn (by omega) (hz.sub (fun x y q => (del_iff.mp q).1))
      omega
theorem euler : ∀ (k : Nat) (S : Nat → Bool) (g : Nat → Nat → Bool), Gb g → Spp S g → ns S = k + 3 → ZZ (gd g) → en g ≤ 6 * k + 6
  | 0, S, g, hg, hS, hn, _ => by
    have := en_le hg hS
    rw [hn] at this
    exact this
  | k + 1, S, g, hg, hS, hn, hz => euler_in (euler k) (en g) S g hg hS hn (Nat.le_refl _) hz
theorem en_inj : ∀ (B : Nat) (g : Nat → Nat → Bool) (T S : Nat → Nat), Gb g → (∀ n, n < B → g (T n) (S n) = true) → (∀ n m, n < B → m < B → n ≠ m → ¬ (T n = T m ∧ S n = S m) ∧ ¬ (T n = S m ∧ S n = T m)) → 2 * B ≤ en g
  | 0, g, T, S, hg, h1, h2 => Nat.zero_le _
  | B + 1, g, T, S, hg, h1, h2 => by
    have e := en_del hg (h1 B (by omega))
    have := en_inj B (del g (T B) (S B)) T S (hg.del _ _) (fun n hn => del_iff.mpr ⟨h1 n (by omega), (h2 n B (by omega) (by omega) (by omega)).1, (h2 n B (by omega) (by omega) (by omega)).2⟩) (fun n m hn hm => h2 n m (by omega) (by omega))
    omega
