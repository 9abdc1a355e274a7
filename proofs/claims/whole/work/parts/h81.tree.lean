def up (par : Nat → Nat) : Nat → Nat → Nat
  | 0, w => w
  | k + 1, w => par (up par k w)
theorem up_add {par : Nat → Nat} : ∀ (j k w : Nat), up par (j + k) w = up par j (up par k w)
  | 0, k, w => by rw [Nat.zero_add, up]
  | j + 1, k, w => by rw [Nat.add_right_comm, up, up, up_add j k w]
def FR (ad : Nat → Nat → Prop) (par dp : Nat → Nat) : Prop := (∀ a b, ad a b → ad b a) ∧ ∀ w, 0 < dp w → dp (par w) + 1 = dp w ∧ ad (par w) w
def An (par dp : Nat → Nat) (u w : Nat) : Prop := dp u ≤ dp w ∧ up par (dp w - dp u) w = u
theorem up_dp {ad : Nat → Nat → Prop} {par dp : Nat → Nat} (hF : FR ad par dp) : ∀ k w, k ≤ dp w → dp (up par k w) = dp w - k
  | 0, w, _ => by rw [up, Nat.sub_zero]
  | k + 1, w, h => by
    have e := up_dp hF k w (by omega)
    have := (hF.2 (up par k w) (by omega)).1
    rw [up]; omega
theorem An.rf {par dp : Nat → Nat} (w : Nat) : An par dp w w := ⟨Nat.le_refl _, by rw [Nat.sub_self, up]⟩
theorem An.ups {ad : Nat → Nat → Prop} {par dp : Nat → Nat} (hF : FR ad par dp) {k w : Nat} (h : k ≤ dp w) : An par dp (up par k w) w := by
  refine ⟨by rw [up_dp hF k w h]; omega, ?_⟩
  rw [up_dp hF k w h, show dp w - (dp w - k) = k by omega]
theorem An.tr {par dp : Nat → Nat} {a b c : Nat} (h : An par dp a b) (g : An par dp b c) : An par dp a c := by
  refine ⟨Nat.le_trans h.1 g.1, ?_⟩
  have h1 := h.1
  have g1 := g.1
  rw [show dp c - dp a = (dp b - dp a) + (dp c - dp b) by omega, up_add, g.2, h.2]
theorem An.cmp {par dp : Nat → Nat} {a b c : Nat} (h : An par dp a c) (g : An par dp b c) (hd : dp a ≤ dp b) : An par dp a b := by
  refine ⟨hd, ?_⟩
  have h1 := h.1
  have g1 := g.1
  have e := h.2
  rw [show dp c - dp a = (dp b - dp a) + (dp c - dp b) by omega, up_add, g.2] at e
  exact e
theorem An.eq {par dp : Nat → Nat} {a b c : Nat} (h : An par dp a c) (g : An par dp b c) (hd : dp a = dp b) : a = b := by
  have e := (h.cmp g (by omega)).2
  rw [hd, Nat.sub_self, up] at e
  exact e.symm
theorem An.par {ad : Nat → Nat → Prop} {par dp : Nat → Nat} (hF : FR ad par dp) {w : Nat} (h : 0 < dp w) : An par dp (par w) w := by
  have := (hF.2 w h).1
  refine ⟨by omega, ?_⟩
  rw [show dp w - dp (par w) = 1 by omega, up, up]
theorem An.par_of {ad : Nat → Nat → Prop} {par dp : Nat → Nat} (hF : FR ad par dp) {v w : Nat} (h : An par dp v w) (hd : dp v < dp w) : An par dp v (par w) := by
  have := (hF.2 w (by omega)).1
  exact h.cmp (An.par hF (by omega)) (by omega)
def bk (ad : Nat → Nat → Prop) (par dp : Nat → Nat) (t s : Nat) : Prop := ad t s ∧ An par dp t s ∧ dp t + 2 ≤ dp s
def cyc (par dp : Nat → Nat) (t s i : Nat) : Nat := up par (dp s - dp t - i % (dp s - dp t + 1)) s
theorem cyc_dp {ad : Nat → Nat → Prop} {par dp : Nat → Nat} (hF : FR ad par dp) {t s : Nat} (hb : bk ad par dp t s) (i : Nat) : dp (cyc par dp t s i) = dp t + i % (dp s - dp t + 1) := by
  have h1 := hb.2.1.1
  have hlt := Nat.mod_lt i (show 0 < dp s - dp t + 1 by omega)
  unfold cyc
  rw [up_dp hF _ _ (by omega)]; omega
theorem cyc_An {ad : Nat → Nat → Prop} {par dp : Nat → Nat} (hF : FR ad par dp) {t s : Nat} (i : Nat) : An par dp (cyc par dp t s i) s := An.ups hF (by omega)
theorem cyc_at {ad : Nat → Nat → Prop} {par dp : Nat → Nat} (hF : FR ad par dp) {t s v : Nat} (hb : bk ad par dp t s) (hv : An par dp v s) (hd : dp t ≤ dp v) : cyc par dp t s (dp v - dp t) = v := by
  have h1 := hv.1
  have h2 := hb.2.1.1
  refine An.eq (cyc_An hF _) hv ?_
  rw [cyc_dp hF hb, Nat.mod_eq_of_lt (by omega)]; omega
theorem cyc_Cy {ad : Nat → Nat → Prop} {par dp : Nat → Nat} (hF : FR ad par dp) {t s : Nat} (hb : bk ad par dp t s) : Cy ad (cyc par dp t s) (dp s - dp t + 1) := by
  have h2 := hb.2.2
  refine ⟨by omega, fun i => by unfold cyc; rw [Nat.add_mod_right], fun i => ?_, fun j i h3 h4 e => ?_⟩
  · have hlt := Nat.mod_lt i (show 0 < dp s - dp t + 1 by omega)
    by_cases c : i % (dp s - dp t + 1) = dp s - dp t
    · -- from s back to t
      have e1 : cyc par dp t s i = s := by unfold cyc; rw [c, Nat.sub_self, up]
      have e2 : (i + 1) % (dp s - dp t + 1) = 0 := by
        rw [Nat.add_mod, c]
        by_cases d : dp s - dp t = 0
        · omega
        · rw [Nat.mod_eq_of_lt (show 1 < dp s - dp t + 1 by omega), Nat.mod_self]
      have e3 : cyc par dp t s (i + 1) = t := by unfold cyc; rw [e2, Nat.sub_zero, hb.2.1.2]
      rw [e1, e3]; exact hF.1 _ _ hb.1
    · have e2 : (i + 1) % (dp s - dp t + 1) = i % (dp s - dp t + 1) + 1 := by
        rw [Nat.add_mod, Nat.mod_eq_of_lt (show 1 < dp s - dp t + 1 by omega), Nat.mod_eq_of_lt (by omega)]
      have e3 : cyc par dp t s i = par (cyc par dp t s (i + 1)) := by
        unfold cyc
        rw [e2, show dp s - dp t - i % (dp s - dp t + 1) = (dp s - dp t - (i % (dp s - dp t + 1) + 1)) + 1 by omega, up]
      rw [e3]
      refine (hF.2 _ ?_).2
      rw [cyc_dp hF hb, e2]; omega
  · have e5 := congrArg dp e
    rw [cyc_dp hF hb, cyc_dp hF hb] at e5
    have e6 : (j + i) % (dp s - dp t + 1) = j % (dp s - dp t + 1) := by omega
    have e7 : i % (dp s - dp t + 1) = 0 := by
      have := Nat.mod_lt j (show 0 < dp s - dp t + 1 by omega)
      rw [Nat.add_mod] at e6
      have hi := Nat.mod_eq_of_lt h4
      rw [hi] at e6
      by_cases d : j % (dp s - dp t + 1) + i < dp s - dp t + 1
      · rw [Nat.mod_eq_of_lt d] at e6; omega
      · rw [Nat.mod_eq_sub_mod (by omega), Nat.mod_eq_of_lt (by omega)] at e6; omega
    rw [Nat.mod_eq_of_lt h4] at e7
    omega
def rtn (ad : Nat → Nat → Prop) (par dp : Nat → Nat) (v u t s : Nat) : Prop := bk ad par dp t s ∧ dp t < dp v ∧ ((par u = v ∧ 0 < dp u ∧ An par dp u s) ∨ (u = t ∧ s = v))
theorem wd_up {ad : Nat → Nat → Prop} {o : Nat → Nat → Nat} {x : Nat → Nat → Nat → Nat} (hZ : Zx ad o x) {par dp : Nat → Nat} (hF : FR ad par dp) {c : Nat → Nat} {m : Nat} (hC : Cy ad c m) : ∀ (k w : Nat), k ≤ dp w → (∀ j, j ≤ k → ∀ i, c i ≠ up par j w) → wd o x c m w % 2 = wd o x c m (up par k w) % 2
  | 0, w, _, _ => by rw [up]
  | k + 1, w, hk, h => by
    rw [wd_up hZ hF hC k w (by omega) (fun j hj => h j (by omega))]
    have e := up_dp hF k w (by omega)
    have hs := hF.2 (up par k w) (by omega)
    exact wd_step hZ hC (hF.1 _ _ hs.2) (h k (by omega)) (h (k + 1) (Nat.le_refl _))
theorem side_eq {ad : Nat → Nat → Prop} {o : Nat → Nat → Nat} (ho : Tn o) {x : Nat → Nat → Nat → Nat} (hZ : Zx ad o x) {par dp : Nat → Nat} (hF : FR ad par dp) {v u u' t s tg sg : Nat} (h1 : rtn ad par dp v u t s) (h2 : rtn ad par dp v u' tg sg) (hu : u ≠ u') (hd : dp tg < dp t) : rt o x t s (cyc par dp t s 1) (par t) % 2 = rt o x v (par v) u u' % 2 := by
  obtain ⟨hb, htv, hit⟩ := h1
  obtain ⟨hg, hgv, hit'⟩ := h2
  have hC := cyc_Cy hF hb
  have hts := hb.2.2
  have hvs : An par dp v s := by
    rcases hit with ⟨e1, e2, e3⟩ | ⟨_, e⟩
    · have := An.par hF e2
      rw [e1] at this
      exact this.tr e3
    · rw [e]; exact An.rf v
  have hvd := hvs.1
  have htv' : An par dp t v := hb.2.1.cmp hvs (by omega)
  have cv : cyc par dp t s (dp v - dp t) = v := cyc_at hF hb hvs (by omega)
  have ct : cyc par dp t s 0 = t := by
    have := cyc_at hF hb hb.2.1 (Nat.le_refl _)
    rw [Nat.sub_self] at this; exact this
  have cs : cyc par dp t s (0 + (dp s - dp t + 1 - 1)) = s := by
    have := cyc_at hF hb (An.rf s) hb.2.1.1
    rw [Nat.zero_add, Nat.add_sub_cancel]; exact this
  have cprev : cyc par dp t s (dp v - dp t + (dp s - dp t + 1 - 1)) = par v := by
    have hpv := hF.2 v (by omega)
    have := cyc_at hF hb ((An.par hF (show 0 < dp v by omega)).tr hvs) (by omega)
    rw [show dp v - dp t + (dp s - dp t + 1 - 1) = (dp (par v) - dp t) + (dp s - dp t + 1) by omega, hC.2.1]
    exact this
  have cnext : cyc par dp t s (dp v - dp t + 1) = u := by
    rcases hit with ⟨e1, e2, e3⟩ | ⟨e1, e2⟩
    · have hpu := hF.2 u e2
      rw [e1] at hpu
      have := cyc_at hF hb e3 (by omega)
      rw [show dp v - dp t + 1 = dp u - dp t by omega]
      exact this
    · rw [← e2, show dp s - dp t + 1 = 0 + (dp s - dp t + 1) by omega, hC.2.1, ct, e1]
  have offt : ∀ w, dp w < dp t → ∀ i, cyc par dp t s i ≠ w := fun w hw i e => by
    have := cyc_dp hF hb i
    rw [e] at this; omega
  have hpt := hF.2 t (by omega)
  have htgt : An par dp tg t := by
    have hgv2 : An par dp tg v := by
      rcases hit' with ⟨e1, e2, e3⟩ | ⟨_, e⟩
      · have := An.par hF e2
        rw [e1] at this
        exact hg.2.1.cmp (this.tr e3) (by omega)
      · rw [← e]; exact hg.2.1
    exact hgv2.cmp htv' (by omega)
  have htgp : An par dp tg (par t) := htgt.par_of hF hd
  have w1 : wd o x (cyc par dp t s) (dp s - dp t + 1) (par t) % 2 = wd o x (cyc par dp t s) (dp s - dp t + 1) tg % 2 := by
    have := wd_up hZ hF hC (dp (par t) - dp tg) (par t) (by omega) (fun j hj => offt _ (by rw [up_dp hF j _ (by omega)]; omega))
    rw [htgp.2] at this; exact this
  have adv : ad v u' ∧ (∀ i, cyc par dp t s i ≠ u') ∧ wd o x (cyc par dp t s) (dp s - dp t + 1) tg % 2 = wd o x (cyc par dp t s) (dp s - dp t + 1) u' % 2 := by
    rcases hit' with ⟨e1, e2, e3⟩ | ⟨e1, e2⟩
    · have hpu := hF.2 u' e2
      rw [e1] at hpu
      have offu : ∀ w, An par dp u' w → ∀ i, cyc par dp t s i ≠ w := fun w hw i e => by
        have hws : An par dp w s := by rw [← e]; exact cyc_An hF i
        have hus := hw.tr hws
        rcases hit with ⟨f1, f2, f3⟩ | ⟨f1, f2⟩
        · have hpu2 := hF.2 u f2
          rw [f1] at hpu2
          exact hu (An.eq f3 hus (by omega))
        · have := hus.1
          rw [f2] at this; omega
      refine ⟨hpu.2, offu u' (An.rf u'), ?_⟩
      have a1 := wd_step hZ hC hg.1 (offt tg hd) (offu sg e3)
      have a2 := wd_up hZ hF hC (dp sg - dp u') sg (by omega) (fun j hj => offu _ (by
        have h9 := e3.1
        refine e3.cmp (An.ups hF (by omega)) ?_
        rw [up_dp hF j _ (by omega)]; omega))
      rw [e3.2] at a2
      rw [a1, a2]
    · rw [e1]
      refine ⟨?_, offt tg hd, rfl⟩
      rw [← e2]; exact hF.1 _ _ hg.1
  have := theta ho hZ hC (j := 0) (i := dp v - dp t) (p := par t) (q := u') (by rw [ct]; exact hF.1 _ _ hpt.2) (by rw [cv]; exact adv.1) (offt _ (by omega)) adv.2.1 (w1.trans adv.2.2)
  rw [ct, cs, cv, cprev, cnext] at this
  exact this
def Sat (ad : Nat → Nat → Prop) (par dp : Nat → Nat) (la : Nat → Nat → Nat) : Prop :=
  (∀ v u u' t s t2 s2 tg sg, u ≠ u' → rtn ad par dp v u t s → rtn ad par dp v u t2 s2 → rtn ad par dp v u' tg sg → dp tg < dp t → dp tg < dp t2 → la t s % 2 = la t2 s2 % 2) ∧
  (∀ v u u' t s t2 s2 tg sg th sh, u ≠ u' → rtn ad par dp v u t s → rtn ad par dp v u' t2 s2 → rtn ad par dp v u' tg sg → dp tg < dp t → rtn ad par dp v u th sh → dp th < dp t2 → (la t s + la t2 s2) % 2 = 1)
theorem Z_Sat {ad : Nat → Nat → Prop} (hZ : ZZ ad) {par dp : Nat → Nat} (hF : FR ad par dp) : ∃ la, Sat ad par dp la := by
  obtain ⟨x, hx⟩ := hZ
  refine ⟨fun t s => rt (fun u w => if u < w then 1 else 0) x t s (cyc par dp t s 1) (par t), fun v u u' t s t2 s2 tg sg h0 h1 h2 h3 h4 h5 => ?_, fun v u u' t s t2 s2 tg sg th sh h0 h1 h2 h3 h4 h5 h6 => ?_⟩
  · show rt _ x t s (cyc par dp t s 1) (par t) % 2 = rt _ x t2 s2 (cyc par dp t2 s2 1) (par t2) % 2
    rw [side_eq Tn_lt hx hF h1 h3 h0 h4, side_eq Tn_lt hx hF h2 h3 h0 h5]
  · have a := side_eq Tn_lt hx hF h1 h3 h0 h4
    have b := side_eq Tn_lt hx hF h2 h5 (Ne.symm h0) h6
    have c := rt_swap Tn_lt (x := x) (a := v) (u := par v) (v := u) (w := u') h0
    show (rt _ x t s (cyc par dp t s 1) (par t) + rt _ x t2 s2 (cyc par dp t2 s2 1) (par t2)) % 2 = 1
    omega
