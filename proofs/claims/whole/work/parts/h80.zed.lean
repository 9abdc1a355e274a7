def Zx (ad : Nat → Nat → Prop) (o : Nat → Nat → Nat) (x : Nat → Nat → Nat → Nat) : Prop := (∀ a b w, x a b w = x b a w) ∧ ∀ a b c d, ad a b → ad c d → a ≠ c → a ≠ d → b ≠ c → b ≠ d → (x a b c + x a b d + x c d a + x c d b + o a c + o a d + o b c + o b d) % 2 = 0
def Tn (o : Nat → Nat → Nat) : Prop := ∀ u w, u ≠ w → (o u w + o w u) % 2 = 1
def ZZ (ad : Nat → Nat → Prop) : Prop := ∃ x, Zx ad (fun u w => if u < w then 1 else 0) x
theorem Tn_lt : Tn (fun u w => if u < w then 1 else 0) := by
  intro u w h
  show ((if u < w then 1 else 0) + (if w < u then 1 else 0)) % 2 = 1
  rcases Nat.lt_trichotomy u w with q | q | q
  · rw [if_pos q, if_neg (by omega)]
  · exact absurd q h
  · rw [if_neg (by omega), if_pos q]
theorem Zx.move {ad : Nat → Nat → Prop} {o o' : Nat → Nat → Nat} (ho : Tn o) (ho' : Tn o') {x : Nat → Nat → Nat → Nat} (h : Zx ad o x) : ∃ x', Zx ad o' x' := by
  refine ⟨fun a b w => x a b w + ((if a < w then o a w + o' a w else 0) + (if b < w then o b w + o' b w else 0)), fun a b w => ?_, fun a b c d h1 h2 h3 h4 h5 h6 => ?_⟩
  · show x a b w + _ = x b a w + _
    rw [h.1 a b w]; omega
  · have e := h.2 a b c d h1 h2 h3 h4 h5 h6
    have key : ∀ u w : Nat, u ≠ w → ((if u < w then o u w + o' u w else 0) + (if w < u then o w u + o' w u else 0) + o u w + o' u w) % 2 = 0 := by
      intro u w huw
      rcases Nat.lt_trichotomy u w with q | q | q
      · rw [if_pos q, if_neg (by omega)]; omega
      · exact absurd q huw
      · rw [if_neg (by omega), if_pos q]
        have p1 := ho u w huw
        have p2 := ho' u w huw
        omega
    have k1 := key a c h3
    have k2 := key a d h4
    have k3 := key b c h5
    have k4 := key b d h6
    show ((x a b c + ((if a < c then o a c + o' a c else 0) + (if b < c then o b c + o' b c else 0))) + (x a b d + ((if a < d then o a d + o' a d else 0) + (if b < d then o b d + o' b d else 0))) + (x c d a + ((if c < a then o c a + o' c a else 0) + (if d < a then o d a + o' d a else 0))) + (x c d b + ((if c < b then o c b + o' c b else 0) + (if d < b then o d b + o' d b else 0))) + o' a c + o' a d + o' b c + o' b d) % 2 = 0
    omega
theorem ZZ.of {ad : Nat → Nat → Prop} {o : Nat → Nat → Nat} (ho : Tn o) {x : Nat → Nat → Nat → Nat} (h : Zx ad o x) : ZZ ad := h.move ho Tn_lt
theorem ZZ.sub {ad ad' : Nat → Nat → Prop} (h : ZZ ad) (hs : ∀ a b, ad' a b → ad a b) : ZZ ad' := by
  obtain ⟨x, h1, h2⟩ := h
  exact ⟨x, h1, fun a b c d q1 q2 => h2 a b c d (hs _ _ q1) (hs _ _ q2)⟩
def zw (f : Nat → Nat) (j : Nat) : Nat → Nat
  | 0 => 0
  | n + 1 => zw f j n + f (j + n)
theorem zw_add {f g : Nat → Nat} {j : Nat} : ∀ n, zw (fun i => f i + g i) j n = zw f j n + zw g j n
  | 0 => rfl
  | n + 1 => by rw [zw, zw, zw, zw_add n]; omega
theorem zw_three {f g h : Nat → Nat} {j : Nat} : ∀ n, zw (fun i => f i + (g i + h i)) j n = zw f j n + (zw g j n + zw h j n)
  | 0 => rfl
  | n + 1 => by rw [zw, zw, zw, zw, zw_three n]; omega
theorem zw_congr {f g : Nat → Nat} {j : Nat} : ∀ n, (∀ i, i < n → f (j + i) % 2 = g (j + i) % 2) → zw f j n % 2 = zw g j n % 2
  | 0, _ => rfl
  | n + 1, h => by
    rw [zw, zw]
    have a := zw_congr n (fun i hi => h i (by omega))
    have b := h n (Nat.lt_succ_self n)
    omega
theorem zw_zero {f : Nat → Nat} {j : Nat} : ∀ n, (∀ i, i < n → f (j + i) % 2 = 0) → zw f j n % 2 = 0
  | 0, _ => rfl
  | n + 1, h => by
    rw [zw]
    have a := zw_zero n (fun i hi => h i (by omega))
    have b := h n (Nat.lt_succ_self n)
    omega
theorem zw_tele {f : Nat → Nat} {j : Nat} : ∀ n, (zw (fun i => f i + f (i + 1)) j n + f j + f (j + n)) % 2 = 0
  | 0 => by rw [zw, Nat.add_zero]; omega
  | n + 1 => by
    have := zw_tele (f := f) (j := j) n
    rw [zw]
    show (zw (fun i => f i + f (i + 1)) j n + (f (j + n) + f (j + n + 1)) + f j + f (j + (n + 1))) % 2 = 0
    rw [show j + (n + 1) = j + n + 1 by omega]
    omega
theorem zw_head {f : Nat → Nat} {j : Nat} : ∀ n, zw f j (n + 1) = f j + zw f (j + 1) n
  | 0 => by rw [zw, zw, zw, Nat.add_zero, Nat.zero_add, Nat.add_zero]
  | n + 1 => by
    rw [zw, zw_head n, zw, show j + (n + 1) = j + 1 + n by omega]; omega
theorem zw_turn {f : Nat → Nat} {m : Nat} (hp : ∀ i, f (i + m) = f i) : ∀ j, zw f j m = zw f 0 m
  | 0 => rfl
  | j + 1 => by
    rw [← zw_turn hp j]
    cases m with
    | zero => rfl
    | succ m =>
      have e1 := zw_head (f := f) (j := j) m
      have e2 : zw f (j + 1) (m + 1) = zw f (j + 1) m + f (j + 1 + m) := rfl
      rw [e1, e2, show j + 1 + m = j + (m + 1) by omega, hp j]; omega
def Cy (ad : Nat → Nat → Prop) (c : Nat → Nat) (m : Nat) : Prop := 3 ≤ m ∧ (∀ i, c (i + m) = c i) ∧ (∀ i, ad (c i) (c (i + 1))) ∧ ∀ j i, 0 < i → i < m → c (j + i) ≠ c j
def wd (o : Nat → Nat → Nat) (x : Nat → Nat → Nat → Nat) (c : Nat → Nat) (m w : Nat) : Nat := zw (fun i => x (c i) (c (i + 1)) w + (o (c i) w + o (c (i + 1)) w)) 0 m
theorem wd_step {ad : Nat → Nat → Prop} {o : Nat → Nat → Nat} {x : Nat → Nat → Nat → Nat} (hZ : Zx ad o x) {c : Nat → Nat} {m : Nat} (hC : Cy ad c m) {w u : Nat} (hwu : ad w u) (hw : ∀ i, c i ≠ w) (hu : ∀ i, c i ≠ u) : wd o x c m w % 2 = wd o x c m u % 2 := by
  unfold wd
  have h1 : zw (fun i => (x (c i) (c (i + 1)) w + (o (c i) w + o (c (i + 1)) w)) + ((x (c i) (c (i + 1)) u + (o (c i) u + o (c (i + 1)) u)) + (x w u (c i) + x w u (c (i + 1))))) 0 m % 2 = 0 := by
    refine zw_zero m (fun i _ => ?_)
    have := hZ.2 (c (0 + i)) (c (0 + i + 1)) w u (hC.2.2.1 _) hwu (hw _) (hu _) (hw _) (hu _)
    show ((x (c (0 + i)) (c (0 + i + 1)) w + (o (c (0 + i)) w + o (c (0 + i + 1)) w)) + ((x (c (0 + i)) (c (0 + i + 1)) u + (o (c (0 + i)) u + o (c (0 + i + 1)) u)) + (x w u (c (0 + i)) + x w u (c (0 + i + 1))))) % 2 = 0
    omega
  rw [zw_three] at h1
  have h2 := zw_tele (f := fun i => x w u (c i)) (j := 0) m
  have h2 : (zw (fun i => x w u (c i) + x w u (c (i + 1))) 0 m + x w u (c 0) + x w u (c (0 + m))) % 2 = 0 := h2
  rw [hC.2.1 0] at h2
  omega
def rt (o : Nat → Nat → Nat) (x : Nat → Nat → Nat → Nat) (a u v w : Nat) : Nat := x a u v + x a u w + x a v u + x a v w + x a w u + x a w v + o u v + o u w + o v w
theorem rt_swap {o : Nat → Nat → Nat} (ho : Tn o) {x : Nat → Nat → Nat → Nat} {a u v w : Nat} (h : v ≠ w) : (rt o x a u v w + rt o x a u w v) % 2 = 1 := by
  unfold rt
  have := ho v w h
  omega
def ta (o : Nat → Nat → Nat) (x : Nat → Nat → Nat → Nat) (c : Nat → Nat) (m j : Nat) : Nat := x (c j) (c (j + (m - 1))) (c (j + 1)) + x (c j) (c (j + 1)) (c (j + (m - 1))) + o (c (j + (m - 1))) (c (j + 1)) + zw (fun i => x (c i) (c (i + 1)) (c j) + (o (c i) (c j) + o (c (i + 1)) (c j))) (j + 1) (m - 2)
theorem wd_at {o : Nat → Nat → Nat} {x : Nat → Nat → Nat → Nat} {c : Nat → Nat} {m : Nat} (hp : ∀ i, c (i + m) = c i) (hm : 3 ≤ m) (j w : Nat) : wd o x c m w = (x (c j) (c (j + 1)) w + (o (c j) w + o (c (j + 1)) w)) + zw (fun i => x (c i) (c (i + 1)) w + (o (c i) w + o (c (i + 1)) w)) (j + 1) (m - 2) + (x (c (j + (m - 1))) (c j) w + (o (c (j + (m - 1))) w + o (c j) w)) := by
  unfold wd
  rw [← zw_turn (f := fun i => x (c i) (c (i + 1)) w + (o (c i) w + o (c (i + 1)) w)) (m := m) (fun i => by
    show x (c (i + m)) (c (i + m + 1)) w + (o (c (i + m)) w + o (c (i + m + 1)) w) = _
    rw [hp i, show i + m + 1 = (i + 1) + m by omega, hp (i + 1)]) j]
  obtain ⟨k, rfl⟩ : ∃ k, m = k + 2 := ⟨m - 2, by omega⟩
  rw [zw_head (k + 1), zw]
  show _ + (zw _ (j + 1) k + (x (c (j + 1 + k)) (c (j + 1 + k + 1)) w + (o (c (j + 1 + k)) w + o (c (j + 1 + k + 1)) w))) = _
  have e1 : j + 1 + k + 1 = j + (k + 2) := by omega
  have e2 : j + 1 + k = j + (k + 2 - 1) := by omega
  rw [e1, hp j, e2, show k + 2 - 2 = k by omega]
  omega
theorem rt_wd {ad : Nat → Nat → Prop} {o : Nat → Nat → Nat} {x : Nat → Nat → Nat → Nat} (hZ : Zx ad o x) {c : Nat → Nat} {m : Nat} (hC : Cy ad c m) {j p : Nat} (hj : ad (c j) p) (hp : ∀ i, c i ≠ p) : (rt o x (c j) (c (j + (m - 1))) (c (j + 1)) p + wd o x c m p + ta o x c m j) % 2 = 0 := by
  have hm := hC.1
  rw [wd_at hC.2.1 hm j p]
  unfold rt ta
  have h1 : zw (fun i => (x (c i) (c (i + 1)) p + (o (c i) p + o (c (i + 1)) p)) + ((x (c i) (c (i + 1)) (c j) + (o (c i) (c j) + o (c (i + 1)) (c j))) + (x (c j) p (c i) + x (c j) p (c (i + 1))))) (j + 1) (m - 2) % 2 = 0 := by
    refine zw_zero (m - 2) (fun i hi => ?_)
    have hne1 : c (j + 1 + i) ≠ c j := by rw [show j + 1 + i = j + (1 + i) by omega]; exact hC.2.2.2 j (1 + i) (by omega) (by omega)
    have hne2 : c (j + 1 + i + 1) ≠ c j := by rw [show j + 1 + i + 1 = j + (2 + i) by omega]; exact hC.2.2.2 j (2 + i) (by omega) (by omega)
    have := hZ.2 (c (j + 1 + i)) (c (j + 1 + i + 1)) (c j) p (hC.2.2.1 _) hj hne1 (hp _) hne2 (hp _)
    show ((x (c (j + 1 + i)) (c (j + 1 + i + 1)) p + (o (c (j + 1 + i)) p + o (c (j + 1 + i + 1)) p)) + ((x (c (j + 1 + i)) (c (j + 1 + i + 1)) (c j) + (o (c (j + 1 + i)) (c j) + o (c (j + 1 + i + 1)) (c j))) + (x (c j) p (c (j + 1 + i)) + x (c j) p (c (j + 1 + i + 1))))) % 2 = 0
    omega
  rw [zw_three] at h1
  have h2 := zw_tele (f := fun i => x (c j) p (c i)) (j := j + 1) (m - 2)
  have h2 : (zw (fun i => x (c j) p (c i) + x (c j) p (c (i + 1))) (j + 1) (m - 2) + x (c j) p (c (j + 1)) + x (c j) p (c (j + 1 + (m - 2)))) % 2 = 0 := h2
  rw [show j + 1 + (m - 2) = j + (m - 1) by omega] at h2
  rw [hZ.1 (c (j + (m - 1))) (c j) p]
  omega
theorem ta_step {ad : Nat → Nat → Prop} {o : Nat → Nat → Nat} (ho : Tn o) {x : Nat → Nat → Nat → Nat} (hZ : Zx ad o x) {c : Nat → Nat} {m : Nat} (hC : Cy ad c m) (j : Nat) : ta o x c m j % 2 = ta o x c m (j + 1) % 2 := by
  obtain ⟨k, rfl⟩ : ∃ k, m = k + 3 := ⟨m - 3, by have := hC.1; omega⟩
  have hp := hC.2.1
  unfold ta
  have e0 : j + (k + 3 - 1) = j + (k + 2) := by omega
  have e1 : j + 1 + (k + 3 - 1) = j + (k + 3) := by omega
  rw [e0, e1, hp j, show k + 3 - 2 = k + 1 by omega]
  rw [zw_head k]
  have hL : zw (fun i => x (c i) (c (i + 1)) (c (j + 1)) + (o (c i) (c (j + 1)) + o (c (i + 1)) (c (j + 1)))) (j + 1 + 1) (k + 1) = zw (fun i => x (c i) (c (i + 1)) (c (j + 1)) + (o (c i) (c (j + 1)) + o (c (i + 1)) (c (j + 1)))) (j + 1 + 1) k + (x (c (j + (k + 2))) (c j) (c (j + 1)) + (o (c (j + (k + 2))) (c (j + 1)) + o (c j) (c (j + 1)))) := by
    rw [zw]
    show _ + (x (c (j + 1 + 1 + k)) (c (j + 1 + 1 + k + 1)) (c (j + 1)) + (o (c (j + 1 + 1 + k)) (c (j + 1)) + o (c (j + 1 + 1 + k + 1)) (c (j + 1)))) = _
    rw [show j + 1 + 1 + k + 1 = j + (k + 3) by omega, hp j, show j + 1 + 1 + k = j + (k + 2) by omega]
  rw [hL]
  have h1 : zw (fun i => (x (c i) (c (i + 1)) (c j) + (o (c i) (c j) + o (c (i + 1)) (c j))) + ((x (c i) (c (i + 1)) (c (j + 1)) + (o (c i) (c (j + 1)) + o (c (i + 1)) (c (j + 1)))) + (x (c j) (c (j + 1)) (c i) + x (c j) (c (j + 1)) (c (i + 1))))) (j + 1 + 1) k % 2 = 0 := by
    refine zw_zero k (fun i hi => ?_)
    have q1 : c (j + 1 + 1 + i) ≠ c j := by rw [show j + 1 + 1 + i = j + (2 + i) by omega]; exact hC.2.2.2 j (2 + i) (by omega) (by omega)
    have q2 : c (j + 1 + 1 + i) ≠ c (j + 1) := by rw [show j + 1 + 1 + i = (j + 1) + (1 + i) by omega]; exact hC.2.2.2 (j + 1) (1 + i) (by omega) (by omega)
    have q3 : c (j + 1 + 1 + i + 1) ≠ c j := by rw [show j + 1 + 1 + i + 1 = j + (3 + i) by omega]; exact hC.2.2.2 j (3 + i) (by omega) (by omega)
    have q4 : c (j + 1 + 1 + i + 1) ≠ c (j + 1) := by rw [show j + 1 + 1 + i + 1 = (j + 1) + (2 + i) by omega]; exact hC.2.2.2 (j + 1) (2 + i) (by omega) (by omega)
    have := hZ.2 (c (j + 1 + 1 + i)) (c (j + 1 + 1 + i + 1)) (c j) (c (j + 1)) (hC.2.2.1 _) (hC.2.2.1 j) q1 q2 q3 q4
    show ((x (c (j + 1 + 1 + i)) (c (j + 1 + 1 + i + 1)) (c j) + (o (c (j + 1 + 1 + i)) (c j) + o (c (j + 1 + 1 + i + 1)) (c j))) + ((x (c (j + 1 + 1 + i)) (c (j + 1 + 1 + i + 1)) (c (j + 1)) + (o (c (j + 1 + 1 + i)) (c (j + 1)) + o (c (j + 1 + 1 + i + 1)) (c (j + 1)))) + (x (c j) (c (j + 1)) (c (j + 1 + 1 + i)) + x (c j) (c (j + 1)) (c (j + 1 + 1 + i + 1))))) % 2 = 0
    omega
  rw [zw_three] at h1
  have h2 := zw_tele (f := fun i => x (c j) (c (j + 1)) (c i)) (j := j + 1 + 1) k
  have h2 : (zw (fun i => x (c j) (c (j + 1)) (c i) + x (c j) (c (j + 1)) (c (i + 1))) (j + 1 + 1) k + x (c j) (c (j + 1)) (c (j + 1 + 1)) + x (c j) (c (j + 1)) (c (j + 1 + 1 + k))) % 2 = 0 := h2
  rw [show j + 1 + 1 + k = j + (k + 2) by omega] at h2
  have s1 := hZ.1 (c (j + 1)) (c j) (c (j + 1 + 1))
  have s2 := hZ.1 (c (j + (k + 2))) (c j) (c (j + 1))
  have o1 := ho (c j) (c (j + 1)) (fun e => hC.2.2.2 j 1 (by omega) (by omega) e.symm)
  have o2 := ho (c j) (c (j + 1 + 1)) (fun e => hC.2.2.2 j 2 (by omega) (by omega) e.symm)
  rw [s1, s2]
  omega
theorem theta {ad : Nat → Nat → Prop} {o : Nat → Nat → Nat} (ho : Tn o) {x : Nat → Nat → Nat → Nat} (hZ : Zx ad o x) {c : Nat → Nat} {m : Nat} (hC : Cy ad c m) {j i p q : Nat} (hj : ad (c j) p) (hi : ad (c i) q) (hp : ∀ k, c k ≠ p) (hq : ∀ k, c k ≠ q) (hpq : wd o x c m p % 2 = wd o x c m q % 2) : (rt o x (c j) (c (j + (m - 1))) (c (j + 1)) p) % 2 = (rt o x (c i) (c (i + (m - 1))) (c (i + 1)) q) % 2 := by
  have h1 := rt_wd hZ hC hj hp
  have h2 := rt_wd hZ hC hi hq
  have hta : ∀ k, ta o x c m k % 2 = ta o x c m 0 % 2 := by
    intro k
    induction k with
    | zero => rfl
    | succ k ih => rw [← ta_step ho hZ hC k]; exact ih
  have h3 := hta j
  have h4 := hta i
  omega
