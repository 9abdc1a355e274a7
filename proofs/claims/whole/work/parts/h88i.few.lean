def X5 (i j w : Nat) : Nat := if (min i j = 1 ∧ max i j = 3 ∧ w = 2) ∨ (min i j = 1 ∧ max i j = 4 ∧ (w = 2 ∨ w = 3)) ∨ (min i j = 2 ∧ max i j = 4 ∧ (w = 3 ∨ w = 1)) then 1 else 0
theorem X5_sy (i j w : Nat) : X5 i j w = X5 j i w := by unfold X5; rw [Nat.min_comm i j, Nat.max_comm i j]
def X5k (i j k l : Nat) : Bool := decide (i ≠ j) && decide (k ≠ l) && decide (i ≠ k) && decide (i ≠ l) && decide (j ≠ k) && decide (j ≠ l) && !(decide (i = 0) && decide (j = 1)) && !(decide (i = 1) && decide (j = 0)) && !(decide (k = 0) && decide (l = 1)) && !(decide (k = 1) && decide (l = 0))
def X5s (i j k l : Nat) : Nat := X5 i j k + X5 i j l + X5 k l i + X5 k l j + (if i < k then 1 else 0) + (if i < l then 1 else 0) + (if j < k then 1 else 0) + (if j < l then 1 else 0)
theorem X5_all : ∀ i, i < 5 → ∀ j, j < 5 → ∀ k, k < 5 → ∀ l, l < 5 → X5k i j k l = true → X5s i j k l % 2 = 0 := by decide +kernel
theorem X5_ok {i j k l : Nat} (hi : i < 5) (hj : j < 5) (hk : k < 5) (hl : l < 5) (n1 : i ≠ j) (n2 : k ≠ l) (n3 : i ≠ k) (n4 : i ≠ l) (n5 : j ≠ k) (n6 : j ≠ l) (n7 : ¬ (i = 0 ∧ j = 1)) (n8 : ¬ (i = 1 ∧ j = 0)) (n9 : ¬ (k = 0 ∧ l = 1)) (n10 : ¬ (k = 1 ∧ l = 0)) : (X5 i j k + X5 i j l + X5 k l i + X5 k l j + (if i < k then 1 else 0) + (if i < l then 1 else 0) + (if j < k then 1 else 0) + (if j < l then 1 else 0)) % 2 = 0 := by
  have nb : ∀ {p q : Prop} [Decidable p] [Decidable q], ¬ (p ∧ q) → (!(decide p && decide q)) = true := fun {p q} _ _ h => by
    by_cases c1 : p
    · by_cases c2 : q
      · exact absurd ⟨c1, c2⟩ h
      · rw [decide_eq_false c2, Bool.and_false]; rfl
    · rw [decide_eq_false c1]; rfl
  refine X5_all i hi j hj k hk l hl ?_
  unfold X5k
  rw [decide_eq_true n1, decide_eq_true n2, decide_eq_true n3, decide_eq_true n4, decide_eq_true n5, decide_eq_true n6, nb n7, nb n8, nb n9, nb n10]
  rfl
theorem ZZ.five {ad : Nat → Nat → Prop} (hs : ∀ a b, ad a b → ad b a) (ix : Nat → Nat) (h1 : ∀ a b, ad a b → ix a < 5 ∧ ix b < 5 ∧ ix a ≠ ix b ∧ ¬ (ix a = 0 ∧ ix b = 1) ∧ ¬ (ix a = 1 ∧ ix b = 0)) (h2 : ∀ a b c d, ad a b → ad c d → ix a = ix c → a = c) : ZZ ad := by
  have ho : Tn (fun u w => if ix u < ix w then 1 else if ix w < ix u then 0 else if u < w then 1 else 0) := by
    intro u w huw
    show ((if ix u < ix w then 1 else if ix w < ix u then 0 else if u < w then 1 else 0) + (if ix w < ix u then 1 else if ix u < ix w then 0 else if w < u then 1 else 0)) % 2 = 1
    rcases Nat.lt_trichotomy (ix u) (ix w) with q | q | q
    · rw [if_pos q, if_neg (show ¬ ix w < ix u by omega), if_pos q]
    · have q1 : ¬ ix u < ix w := by omega
      have q2 : ¬ ix w < ix u := by omega
      rw [if_neg q1, if_neg q2, if_neg q2, if_neg q1]
      rcases Nat.lt_trichotomy u w with z | z | z
      · rw [if_pos z, if_neg (by omega)]
      · exact absurd z huw
      · rw [if_neg (by omega), if_pos z]
    · rw [if_neg (show ¬ ix u < ix w by omega), if_pos q, if_pos q]
  have hO : ∀ u w, ix u ≠ ix w → (if ix u < ix w then 1 else if ix w < ix u then 0 else if u < w then 1 else 0) = (if ix u < ix w then 1 else 0) := fun u w q => by
    by_cases c : ix u < ix w
    · rw [if_pos c, if_pos c]
    · rw [if_neg c, if_neg c, if_pos (by omega)]
  refine ZZ.of ho (x := fun a b w => X5 (ix a) (ix b) (ix w)) ⟨fun a b w => X5_sy _ _ _, fun a b c d q1 q2 n1 n2 n3 n4 => ?_⟩
  obtain ⟨a1, a2, a3, a4, a5⟩ := h1 a b q1
  obtain ⟨b1, b2, b3, b4, b5⟩ := h1 c d q2
  have m1 : ix a ≠ ix c := fun e => n1 (h2 a b c d q1 q2 e)
  have m2 : ix a ≠ ix d := fun e => n2 (h2 a b d c q1 (hs _ _ q2) e)
  have m3 : ix b ≠ ix c := fun e => n3 (h2 b a c d (hs _ _ q1) q2 e)
  have m4 : ix b ≠ ix d := fun e => n4 (h2 b a d c (hs _ _ q1) (hs _ _ q2) e)
  show (X5 (ix a) (ix b) (ix c) + X5 (ix a) (ix b) (ix d) + X5 (ix c) (ix d) (ix a) + X5 (ix c) (ix d) (ix b) + (if ix a < ix c then 1 else if ix c < ix a then 0 else if a < c then 1 else 0) + (if ix a < ix d then 1 else if ix d < ix a then 0 else if a < d then 1 else 0) + (if ix b < ix c then 1 else if ix c < ix b then 0 else if b < c then 1 else 0) + (if ix b < ix d then 1 else if ix d < ix b then 0 else if b < d then 1 else 0)) % 2 = 0
  rw [hO a c m1, hO a d m2, hO b c m3, hO b d m4]
  exact X5_ok a1 a2 b1 b2 a3 b3 m1 m2 m3 m4 a4 a5 b4 b5
def Spp (S : Nat → Bool) (g : Nat → Nat → Bool) : Prop := ∀ a b, g a b = true → S a = true
def ns (S : Nat → Bool) : Nat := su (fun i => ig (S i)) 11
def wo (S : Nat → Bool) (a i : Nat) : Bool := S i && !decide (i = a)
theorem wo_iff {S : Nat → Bool} {a i : Nat} : wo S a i = true ↔ S i = true ∧ i ≠ a := by simp [wo]
theorem ns_wo {S : Nat → Bool} {a : Nat} (ha : a < 11) (hS : S a = true) : ns S = ns (wo S a) + 1 := by
  unfold ns
  rw [← su_one (m := 1) 11 ha, ← su_add]
  refine su_congr 11 (fun i _ => ?_)
  show ig (S i) = ig (wo S a i) + (if i = a then 1 else 0)
  by_cases c : i = a
  · rw [if_pos c, c, ig_t hS, ig_f (fun q => (wo_iff.mp q).2 rfl)]
  · rw [if_neg c]
    by_cases d : S i = true
    · rw [ig_t d, ig_t (wo_iff.mpr ⟨d, c⟩)]
    · rw [ig_f d, ig_f (fun q => d (wo_iff.mp q).1)]
theorem ig_mono {a b : Bool} (h : a = true → b = true) : ig a ≤ ig b := by
  by_cases c : a = true
  · rw [ig_t c, ig_t (h c)]; exact Nat.le_refl _
  · rw [ig_f c]; exact Nat.zero_le _
theorem dg_lt {S : Nat → Bool} {g : Nat → Nat → Bool} (hg : Gb g) (hS : Spp S g) {a : Nat} (ha : a < 11) (h : S a = true) : dg g a + 1 ≤ ns S := by
  rw [ns_wo ha h]
  exact Nat.succ_le_succ (su_mono 11 (fun b _ => ig_mono (fun q => wo_iff.mpr ⟨hS b a (hg.sy q), Ne.symm (hg.ne q)⟩)))
theorem en_le {S : Nat → Bool} {g : Nat → Nat → Bool} (hg : Gb g) (hS : Spp S g) : en g ≤ (ns S - 1) * ns S := by
  unfold en
  have e : (ns S - 1) * ns S = su (fun a => (ns S - 1) * ig (S a)) 11 := (su_mul _ _ 11).symm
  rw [e]
  refine su_mono 11 (fun a ha => ?_)
  show dg g a ≤ (ns S - 1) * ig (S a)
  by_cases c : S a = true
  · rw [ig_t c]
    have := dg_lt hg hS ha c
    omega
  · have : dg g a = 0 := su_zero 11 (fun b _ => ig_f (fun q => c (hS a b q)))
    rw [this]; exact Nat.zero_le _
theorem en_ge {S : Nat → Bool} {g : Nat → Nat → Bool} {m : Nat} (h : ∀ a, a < 11 → S a = true → m ≤ dg g a) : m * ns S ≤ en g := by
  unfold en
  have e : m * ns S = su (fun a => m * ig (S a)) 11 := (su_mul _ _ 11).symm
  rw [e]
  refine su_mono 11 (fun a ha => ?_)
  show m * ig (S a) ≤ dg g a
  by_cases c : S a = true
  · rw [ig_t c, Nat.mul_one]; exact h a ha c
  · rw [ig_f c]; exact Nat.zero_le _
theorem su_pre (f : Nat → Nat) (n : Nat) : ∀ m, su f n ≤ su f (n + m)
  | 0 => Nat.le_refl _
  | m + 1 => by
    have := su_pre f n m
    show su f n ≤ su f (n + m) + f (n + m)
    omega
def rk_ (S : Nat → Bool) (w : Nat) : Nat := su (fun i => ig (S i)) w
theorem rk_lt {S : Nat → Bool} {a b : Nat} (h : a < b) (ha : S a = true) : rk_ S a < rk_ S b := by
  have q := su_pre (fun i => ig (S i)) (a + 1) (b - (a + 1))
  rw [show a + 1 + (b - (a + 1)) = b by omega] at q
  have e : su (fun i => ig (S i)) (a + 1) = rk_ S a + 1 := by
    show su (fun i => ig (S i)) a + ig (S a) = _
    rw [ig_t ha]; rfl
  unfold rk_ at *
  omega
theorem rk_inj {S : Nat → Bool} {a b : Nat} (ha : S a = true) (hb : S b = true) (e : rk_ S a = rk_ S b) : a = b := by
  rcases Nat.lt_trichotomy a b with q | q | q
  · have := rk_lt q ha; omega
  · exact q
  · have := rk_lt q hb; omega
theorem five_few {S : Nat → Bool} {g : Nat → Nat → Bool} (hg : Gb g) (hS : Spp S g) (h5 : ns S ≤ 5) (he : en g < 18) : ZZ (gd g) := by
  have hS2 : ∀ a b, g a b = true → S b = true := fun a b q => hS b a (hg.sy q)
  by_cases h4 : ns S ≤ 4
  · refine ZZ.five (fun a b q => hg.sy q) (fun w => 1 + rk_ S w) (fun a b q => ?_) (fun a b c d q1 q2 e => ?_)
    · have q : g a b = true := q
      have l1 : rk_ S a < ns S := rk_lt (hg.lt q).1 (hS a b q)
      have l2 : rk_ S b < ns S := rk_lt (hg.lt q).2 (hS2 a b q)
      have l3 : rk_ S a ≠ rk_ S b := fun e => hg.ne q (rk_inj (hS a b q) (hS2 a b q) e)
      show 1 + rk_ S a < 5 ∧ 1 + rk_ S b < 5 ∧ 1 + rk_ S a ≠ 1 + rk_ S b ∧ ¬ (1 + rk_ S a = 0 ∧ 1 + rk_ S b = 1) ∧ ¬ (1 + rk_ S a = 1 ∧ 1 + rk_ S b = 0)
      omega
    · have e : 1 + rk_ S a = 1 + rk_ S c := e
      exact rk_inj (hS a b q1) (hS c d q2) (by omega)
  · have h5 : ns S = 5 := by omega
    obtain ⟨u, hu1, hu2, hu3⟩ : ∃ u, u < 11 ∧ S u = true ∧ dg g u ≤ 3 := by
      apply Classical.byContradiction
      intro hc
      have := en_ge (S := S) (g := g) (m := 4) (fun a h1 h2 => by
        apply Classical.byContradiction
        intro h3
        exact hc ⟨a, h1, h2, by omega⟩)
      rw [h5] at this
      omega
    have hw := ns_wo hu1 hu2
    obtain ⟨v, hv0, hv1, hv2⟩ : ∃ v, v < 11 ∧ wo S u v = true ∧ ¬ g u v = true := by
      apply Classical.byContradiction
      intro hc
      have : ns (wo S u) ≤ dg g u := su_mono 11 (fun i hi => ig_mono (fun q => by
        apply Classical.byContradiction
        intro h3
        exact hc ⟨i, hi, q, h3⟩))
      omega
    have hw2 := ns_wo hv0 hv1
    have hvu := (wo_iff.mp hv1).2
    have hT : ∀ w, w < 11 → S w = true → w ≠ u → w ≠ v → wo (wo S u) v w = true ∧ rk_ (wo (wo S u) v) w < 3 := fun w h0 h1 h2 h3 => by
      have q : wo (wo S u) v w = true := wo_iff.mpr ⟨wo_iff.mpr ⟨h1, h2⟩, h3⟩
      have l : rk_ (wo (wo S u) v) w < ns (wo (wo S u) v) := rk_lt h0 q
      exact ⟨q, by omega⟩
    have hI : ∀ w, w < 11 → S w = true → (w = u ∧ (if w = u then 0 else if w = v then 1 else 2 + rk_ (wo (wo S u) v) w) = 0) ∨ (w = v ∧ (if w = u then 0 else if w = v then 1 else 2 + rk_ (wo (wo S u) v) w) = 1) ∨ (w ≠ u ∧ w ≠ v ∧ (if w = u then 0 else if w = v then 1 else 2 + rk_ (wo (wo S u) v) w) = 2 + rk_ (wo (wo S u) v) w) := fun w _ _ => by
      by_cases c1 : w = u
      · exact Or.inl ⟨c1, if_pos c1⟩
      · by_cases c2 : w = v
        · exact Or.inr (Or.inl ⟨c2, by rw [if_neg c1, if_pos c2]⟩)
        · exact Or.inr (Or.inr ⟨c1, c2, by rw [if_neg c1, if_neg c2]⟩)
    have hinj : ∀ a c, a < 11 → c < 11 → S a = true → S c = true → (if a = u then 0 else if a = v then 1 else 2 + rk_ (wo (wo S u) v) a) = (if c = u then 0 else if c = v then 1 else 2 + rk_ (wo (wo S u) v) c) → a = c := fun a c h1 h2 h3 h4 e => by
      rcases hI a h1 h3 with ⟨p1, p2⟩ | ⟨p1, p2⟩ | ⟨p1, p1', p2⟩ <;> rcases hI c h2 h4 with ⟨r1, r2⟩ | ⟨r1, r2⟩ | ⟨r1, r1', r2⟩ <;> rw [p2, r2] at e <;> first | omega | exact rk_inj (hT a h1 h3 p1 p1').1 (hT c h2 h4 r1 r1').1 (by omega)
    refine ZZ.five (fun a b q => hg.sy q) (fun w => if w = u then 0 else if w = v then 1 else 2 + rk_ (wo (wo S u) v) w) (fun a b q => ?_) (fun a b c d q1 q2 e => hinj a c (hg.lt q1).1 (hg.lt q2).1 (hS a b q1) (hS c d q2) e)
    have q : g a b = true := q
    obtain ⟨l1, l2⟩ := hg.lt q
    have s1 := hS a b q
    have s2 := hS2 a b q
    have hne := hg.ne q
    have hi := fun e => hne (hinj a b l1 l2 s1 s2 e)
    show (if a = u then 0 else if a = v then 1 else 2 + rk_ (wo (wo S u) v) a) < 5 ∧ (if b = u then 0 else if b = v then 1 else 2 + rk_ (wo (wo S u) v) b) < 5 ∧ (if a = u then 0 else if a = v then 1 else 2 + rk_ (wo (wo S u) v) a) ≠ (if b = u then 0 else if b = v then 1 else 2 + rk_ (wo (wo S u) v) b) ∧ ¬ ((if a = u then 0 else if a = v then 1 else 2 + rk_ (wo (wo S u) v) a) = 0 ∧ (if b = u then 0 else if b = v then 1 else 2 + rk_ (wo (wo S u) v) b) = 1) ∧ ¬ ((if a = u then 0 else if a = v then 1 else 2 + rk_ (wo (wo S u) v) a) = 1 ∧ (if b = u then 0 else if b = v then 1 else 2 + rk_ (wo (wo S u) v) b) = 0)
    have nuv : ¬ (a = u ∧ b = v) := fun z => hv2 (by rw [← z.1, ← z.2]; exact q)
    have nvu : ¬ (a = v ∧ b = u) := fun z => hv2 (by rw [← z.1, ← z.2]; exact hg.sy q)
    rcases hI a l1 s1 with ⟨p1, p2⟩ | ⟨p1, p2⟩ | ⟨p1, p1', p2⟩ <;> rcases hI b l2 s2 with ⟨r1, r2⟩ | ⟨r1, r2⟩ | ⟨r1, r1', r2⟩ <;> rw [p2, r2] at hi ⊢
    · exact absurd (p1.trans r1.symm) hne
    · exact absurd ⟨p1, r1⟩ nuv
    · have := (hT b l2 s2 r1 r1').2; omega
    · exact absurd ⟨p1, r1⟩ nvu
    · exact absurd (p1.trans r1.symm) hne
    · have := (hT b l2 s2 r1 r1').2; omega
    · have := (hT a l1 s1 p1 p1').2; omega
    · have := (hT a l1 s1 p1 p1').2; omega
    · have x1 := (hT a l1 s1 p1 p1').2
      have x2 := (hT b l2 s2 r1 r1').2
      refine ⟨by omega, by omega, hi, by omega, by omega⟩
theorem nb_list (g : Nat → Nat → Bool) (a : Nat) : ∃ L : List Nat, L.length = dg g a ∧ (∀ i, i ∈ L ↔ i < 11 ∧ g a i = true) ∧ L.Pairwise (· < ·) ∧ ∀ b, cmn g a b = (L.filter (g b)).length := by
  refine ⟨(List.range 11).filter (g a), (su_list (g a) 11).symm, fun i => by simp [List.mem_filter, List.mem_range], List.Pairwise.filter _ (by first | exact List.pairwise_lt_range | exact List.pairwise_lt_range _), fun b => ?_⟩
  rw [List.filter_filter]
  unfold cmn
  rw [su_list (fun c => g a c && g b c) 11, show (fun c => g a c && g b c) = (fun c => g b c && g a c) from funext (fun c => Bool.and_comm _ _)]
theorem few : ∀ (N : Nat) (S : Nat → Bool) (g : Nat → Nat → Bool), Gb g → Spp S g → ns S = N → en g < 18 → ZZ (gd g) := by
  intro N
  induction N with
  | zero =>
    intro S g hg hS hN he
    exact five_few hg hS (by omega) he
  | succ N ih =>
    intro S g hg hS hN he
    by_cases c : ∃ a, a < 11 ∧ S a = true ∧ dg g a ≤ 2
    · obtain ⟨a, ha, hSa, hd⟩ := c
      have hw := ns_wo ha hSa
      have hr := en_rmv hg ha
      have hSr : Spp (wo S a) (rmv g a) := fun b c q => by
        obtain ⟨q1, q2, q3⟩ := rmv_iff.mp q
        exact wo_iff.mpr ⟨hS b c q1, q2⟩
      obtain ⟨L, hL1, hL2, hL3, _⟩ := nb_list g a
      have hsub : ∀ b c, b ≠ a → c ≠ a → gd g b c → gd (rmv g a) b c := fun b c h1 h2 h3 => rmv_iff.mpr ⟨h3, h1, h2⟩
      rcases L with _ | ⟨p, _ | ⟨q, _ | ⟨r, L⟩⟩⟩
      · refine ih (wo S a) g hg (fun b c q => wo_iff.mpr ⟨hS b c q, fun e => ?_⟩) (by omega) he
        rw [e] at q
        exact absurd ((hL2 c).mpr ⟨(hg.lt q).2, q⟩) (by simp)
      · have hp := (hL2 p).mp (by simp)
        refine ZZ.path (ad := gd g) (H := gd (rmv g a)) (a := a) (p := p) (q := a + p + 1) (fun b c q => hg.sy q) (hg.ne hp.2) (by omega) (by omega) (fun w hw => Or.inl ?_) (fun b q => hg.ne q rfl) (ih (wo S a) (rmv g a) (hg.rmv a) hSr (by omega) (by omega)) hsub (fun q => ?_)
        · have := (hL2 w).mpr ⟨(hg.lt hw).2, hw⟩
          simpa using this
        · have := (hL2 (a + p + 1)).mpr ⟨(hg.lt q).2, q⟩
          have : a + p + 1 = p := by simpa using this
          omega
      · have hp := (hL2 p).mp (by simp)
        have hq := (hL2 q).mp (by simp)
        have hpq : p ≠ q := by
          have : p < q := by simpa using hL3
          omega
        have hl : dg g a = 2 := by rw [← hL1]; rfl
        have ha2 := en_ade (g := rmv g a) hp.1 hq.1
        refine ZZ.path (ad := gd g) (H := gd (ade (rmv g a) p q)) (a := a) (p := p) (q := q) (fun b c q => hg.sy q) (hg.ne hp.2) (hg.ne hq.2) hpq (fun w hw => ?_) (fun b q => hg.ne q rfl) (ih (wo S a) (ade (rmv g a) p q) ((hg.rmv a).ade hp.1 hq.1 hpq) (fun b c z => ?_) (by omega) (by omega)) (fun b c h1 h2 h3 => ade_iff.mpr (Or.inl (hsub b c h1 h2 h3))) (fun _ => ade_iff.mpr (Or.inr (Or.inl ⟨rfl, rfl⟩)))
        · have := (hL2 w).mpr ⟨(hg.lt hw).2, hw⟩
          simpa using this
        · rcases ade_iff.mp z with z | z | z
          · exact hSr b c z
          · rw [z.1]; exact wo_iff.mpr ⟨hS p a (hg.sy hp.2), Ne.symm (hg.ne hp.2)⟩
          · rw [z.1]; exact wo_iff.mpr ⟨hS q a (hg.sy hq.2), Ne.symm (hg.ne hq.2)⟩
      · have : L.length + 1 + 1 + 1 = dg g a := by rw [← hL1]; rfl
        omega
    · have := en_ge (S := S) (g := g) (m := 3) (fun a h1 h2 => by
        apply Classical.byContradiction
        intro h3
        exact c ⟨a, h1, h2, by omega⟩)
      exact five_few hg hS (by omega) he
