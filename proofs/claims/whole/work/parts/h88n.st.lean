def W2 (Z : Int32 → Prop) (lb : Int32) (l m : Nat) : Prop := bit lb l = true ∧ bit lb m = true ∧ Z (wt (wt lb l) m)
def E2 (Z : Int32 → Prop) (lb : Int32) : Prop := ∃ l m, l < m ∧ m < 24 ∧ W2 Z lb l m
def E1 (Z : Int32 → Prop) (lb : Int32) : Prop := ∃ l, l < 24 ∧ bit lb l = true ∧ Z (wt lb l)
def SPR (Z : Int32 → Prop) (lb r : Int32) : Prop := (Z lb → r = 0) ∧ (¬ Z lb → (E1 Z lb → r = 1) ∧ (¬ E1 Z lb → (E2 Z lb → r = 2) ∧ (¬ E2 Z lb → r = 3)))
theorem SPR_uq {Z : Int32 → Prop} {lb a b : Int32} (h1 : SPR Z lb a) (h2 : SPR Z lb b) : a = b := by
  by_cases c : Z lb
  · rw [h1.1 c, h2.1 c]
  · by_cases c1 : E1 Z lb
    · rw [(h1.2 c).1 c1, (h2.2 c).1 c1]
    · by_cases c2 : E2 Z lb
      · rw [((h1.2 c).2 c1).1 c2, ((h2.2 c).2 c1).1 c2]
      · rw [((h1.2 c).2 c1).2 c2, ((h2.2 c).2 c1).2 c2]
theorem bitT {x : Int32} {i : Nat} (hi : i < 32) (h : ¬ f_has x (nI i) = 0) : bit x i = true := by
  cases q : bit x i with
  | true => rfl
  | false => exact absurd ((has0_iff hi).mpr q) h
theorem one_S {P : TX → Prop} {K : (Nat → Int32) → Int32 → Int32 → (Nat → Int32) → (Nat → Int32) → (Nat → Int32) → (Nat → Int32) → (Nat → Int32) → (Nat → Int32) → Option TX} {le mo : Nat → Int32} {lb : Int32} {Z : Int32 → Prop} (hv : LU le mo lb) (hz : ZE le mo lb Z) (hP : ∀ R : TX, PH R → E1 Z lb → P (1, R.2.1, R.2.2.1, R.2.2.2.1, R.2.2.2.2.1, R.2.2.2.2.2.1, R.2.2.2.2.2.2.1, R.2.2.2.2.2.2.2.1, R.2.2.2.2.2.2.2.2.1, R.2.2.2.2.2.2.2.2.2)) (hK : ∀ near bl cl dep en re hi al op, HI hi → ¬ E1 Z lb → Ok (K near bl cl dep en re hi al op) P) : ∀ (n k : Nat) (near : Nat → Int32) (bl cl : Int32) (dep en re hi al op : Nat → Int32), k + n = 24 → (∀ l, l < k → bit lb l = true → ¬ Z (wt lb l)) → HI hi → Ok (F_oneG_L2 K lb le mo n k near bl cl dep en re hi al op) P
  | 0, k, near, bl, cl, dep, en, re, hi, al, op, hk, hn, hh => by
    rw [F_oneG_L2]
    exact hK near bl cl dep en re hi al op hh (fun ⟨l, h1, h2, h3⟩ => hn l (by omega) h2 h3)
  | n + 1, k, near, bl, cl, dep, en, re, hi, al, op, hk, hn, hh => by
    rw [F_oneG_L2]
    refine ok_if (fun c => one_S hv hz hP hK n (k + 1) _ _ _ _ _ _ _ _ _ (by omega) (fun l hl hb => ?_) hh) (fun c => ?_)
    · by_cases e : l = k
      · have := (has0_iff (by omega)).mp c
        rw [e, this] at hb; cases hb
      · exact hn l (by omega) hb
    · have hs2 : SubB (wt lb k) lb := fun l h => wt_sub (fun _ q => q) l h
      refine ok_bind (canDraw_sem (v := wt lb k) (hv.sub hs2) hh) (fun p hp => ?_)
      have h0 := z0_of hp.1.2 (hp.2.trans (hz _ hs2))
      refine ok_if (fun c2 => one_S hv hz hP hK n (k + 1) _ _ _ _ _ _ _ _ _ (by omega) (fun l hl hb => ?_) hp.1.1) (fun c2 => ok_some (hP p hp.1.1 ⟨k, by omega, bitT (by omega) c, Classical.byContradiction (fun z => c2 (h0.mpr z))⟩))
      by_cases e : l = k
      · rw [e]; exact h0.mp c2
      · exact hn l (by omega) hb
theorem two12_S {P : TX → Prop} {K : (Nat → Int32) → Int32 → Int32 → (Nat → Int32) → (Nat → Int32) → (Nat → Int32) → (Nat → Int32) → (Nat → Int32) → (Nat → Int32) → Option TX} {le mo : Nat → Int32} {lb : Int32} {Z : Int32 → Prop} {k2 : Nat} (h2 : k2 < 24) (hv : LU le mo lb) (hz : ZE le mo lb Z) (hP : ∀ R : TX, PH R → E2 Z lb → P (1, R.2.1, R.2.2.1, R.2.2.2.1, R.2.2.2.2.1, R.2.2.2.2.2.1, R.2.2.2.2.2.2.1, R.2.2.2.2.2.2.2.1, R.2.2.2.2.2.2.2.2.1, R.2.2.2.2.2.2.2.2.2)) (hK : ∀ near bl cl dep en re hi al op, HI hi → (∀ m, k2 < m → m < 24 → ¬ W2 Z lb k2 m) → Ok (K near bl cl dep en re hi al op) P) : ∀ (n k : Nat) (near : Nat → Int32) (bl cl : Int32) (dep en re hi al op : Nat → Int32), k + n = 24 → k2 < k → (∀ m, k2 < m → m < k → ¬ W2 Z lb k2 m) → HI hi → Ok (F_twoG_L12 K lb le mo k2 n k near bl cl dep en re hi al op) P
  | 0, k, near, bl, cl, dep, en, re, hi, al, op, hk, hkk, hn, hh => by
    rw [F_twoG_L12]; exact hK near bl cl dep en re hi al op hh (fun m h1 h2 => hn m h1 (by omega))
  | n + 1, k, near, bl, cl, dep, en, re, hi, al, op, hk, hkk, hn, hh => by
    rw [F_twoG_L12]
    have step : ¬ W2 Z lb k2 k → ∀ m, k2 < m → m < k + 1 → ¬ W2 Z lb k2 m := fun hw m h1 h2 => by
      by_cases e : m = k
      · rw [e]; exact hw
      · exact hn m h1 (by omega)
    refine ok_if (fun c => two12_S h2 hv hz hP hK n (k + 1) _ _ _ _ _ _ _ _ _ (by omega) (by omega) (step (fun z => ?_)) hh) (fun c1 => ok_if (fun c => two12_S h2 hv hz hP hK n (k + 1) _ _ _ _ _ _ _ _ _ (by omega) (by omega) (step (fun z => ?_)) hh) (fun c2 => ?_))
    · have := (has0_iff (by omega)).mp c
      rw [z.1] at this; cases this
    · have := (has0_iff (by omega)).mp c
      rw [z.2.1] at this; cases this
    · have hs2 : SubB (wt (wt lb k2) k) lb := fun l h => wt_sub (fun l h => wt_sub (fun _ q => q) l h) l h
      refine ok_bind (canDraw_sem (v := wt (wt lb k2) k) (hv.sub hs2) hh) (fun p hp => ?_)
      have h0 := z0_of hp.1.2 (hp.2.trans (hz _ hs2))
      exact ok_if (fun c => two12_S h2 hv hz hP hK n (k + 1) _ _ _ _ _ _ _ _ _ (by omega) (by omega) (step (fun z => h0.mp c z.2.2)) hp.1.1) (fun c => ok_some (hP p hp.1.1 ⟨k2, k, hkk, by omega, bitT (by omega) c1, bitT (by omega) c2, Classical.byContradiction (fun z => c (h0.mpr z))⟩))
theorem two2_S {P : TX → Prop} {K : (Nat → Int32) → Int32 → Int32 → (Nat → Int32) → (Nat → Int32) → (Nat → Int32) → (Nat → Int32) → (Nat → Int32) → (Nat → Int32) → Option TX} {le mo : Nat → Int32} {lb : Int32} {Z : Int32 → Prop} (hv : LU le mo lb) (hz : ZE le mo lb Z) (hP : ∀ R : TX, PH R → E2 Z lb → P (1, R.2.1, R.2.2.1, R.2.2.2.1, R.2.2.2.2.1, R.2.2.2.2.2.1, R.2.2.2.2.2.2.1, R.2.2.2.2.2.2.2.1, R.2.2.2.2.2.2.2.2.1, R.2.2.2.2.2.2.2.2.2)) (hK : ∀ near bl cl dep en re hi al op, HI hi → ¬ E2 Z lb → Ok (K near bl cl dep en re hi al op) P) : ∀ (n k : Nat) (near : Nat → Int32) (bl cl : Int32) (dep en re hi al op : Nat → Int32), k + n = 24 → (∀ l, l < k → ∀ m, l < m → m < 24 → ¬ W2 Z lb l m) → HI hi → Ok (F_twoG_L2 K lb le mo n k near bl cl dep en re hi al op) P
  | 0, k, near, bl, cl, dep, en, re, hi, al, op, hk, hn, hh => by
    rw [F_twoG_L2]; exact hK near bl cl dep en re hi al op hh (fun ⟨l, m, h1, h2, h3⟩ => hn l (by omega) m h1 h2 h3)
  | n + 1, k, near, bl, cl, dep, en, re, hi, al, op, hk, hn, hh => by
    rw [F_twoG_L2]
    refine two12_S (by omega) hv hz hP (fun near bl cl dep en re hi al op h2 hw => two2_S hv hz hP hK n (k + 1) _ _ _ _ _ _ _ _ _ (by omega) (fun l hl m h3 h4 => ?_) h2) _ _ _ _ _ _ _ _ _ _ _ (by omega) (by omega) (fun m h1 h2 => by omega) hh
    by_cases e : l = k
    · rw [e] at h3 ⊢; exact hw m h3 h4
    · exact hn l (by omega) m h3 h4
theorem spare_sem {le mo near : Nat → Int32} {bl cl : Int32} {dep en re hi al op : Nat → Int32} {lb : Int32} {Z : Int32 → Prop} (hv : LU le mo lb) (hz : ZE le mo lb Z) (hh : HI hi) : Ok (F_spareG lb le mo near bl cl dep en re hi al op) (fun R => PH R ∧ SPR Z lb R.1) := by
  refine ok_bind (canDraw_sem hv hh) (fun p hp => ?_)
  have h0 := z0_of hp.1.2 (hp.2.trans (hz _ (fun l h => h)))
  refine ok_if (fun c => ?_) (fun c => ok_some ⟨hp.1.1, fun _ => rfl, fun z => absurd (h0.mpr z) c⟩)
  refine ok_bind (Q := fun (R : TX) => PH R ∧ ((R.1 = 1 ∧ E1 Z lb) ∨ (R.1 = 0 ∧ ¬ E1 Z lb))) (one_S hv hz (fun R h e => ⟨h, Or.inl ⟨rfl, e⟩⟩) (fun near bl cl dep en re hi al op h2 e => ok_some ⟨h2, Or.inr ⟨rfl, e⟩⟩) 24 0 _ _ _ _ _ _ _ _ _ rfl (fun l hl => absurd hl (Nat.not_lt_zero _)) hp.1.1) (fun q hq => ?_)
  refine ok_if (fun c1 => ?_) (fun c1 => ?_)
  · have e1 : ¬ E1 Z lb := by
      rcases hq.2 with ⟨e, _⟩ | ⟨_, e⟩
      · rw [e] at c1; exact absurd c1 (by decide)
      · exact e
    refine ok_bind (Q := fun (R : TX) => PH R ∧ ((R.1 = 1 ∧ E2 Z lb) ∨ (R.1 = 0 ∧ ¬ E2 Z lb))) (two2_S hv hz (fun R h e => ⟨h, Or.inl ⟨rfl, e⟩⟩) (fun near bl cl dep en re hi al op h2 e => ok_some ⟨h2, Or.inr ⟨rfl, e⟩⟩) 24 0 _ _ _ _ _ _ _ _ _ rfl (fun l hl => absurd hl (Nat.not_lt_zero _)) hq.1) (fun r hr => ?_)
    refine ok_if (fun c2 => ok_some ⟨hr.1, fun z => absurd z (h0.mp c), fun _ => ⟨fun z => absurd z e1, fun _ => ⟨fun z => ?_, fun _ => rfl⟩⟩⟩) (fun c2 => ok_some ⟨hr.1, fun z => absurd z (h0.mp c), fun _ => ⟨fun z => absurd z e1, fun _ => ⟨fun _ => rfl, fun z => ?_⟩⟩⟩)
    · rcases hr.2 with ⟨e, _⟩ | ⟨_, e⟩
      · rw [e] at c2; exact absurd c2 (by decide)
      · exact absurd z e
    · rcases hr.2 with ⟨_, e⟩ | ⟨e, _⟩
      · exact absurd e z
      · exact absurd e c2
  · have e1 : E1 Z lb := by
      rcases hq.2 with ⟨_, e⟩ | ⟨e, _⟩
      · exact e
      · exact absurd e c1
    exact ok_some ⟨hq.1, fun z => absurd z (h0.mp c), fun _ => ⟨fun _ => rfl, fun z => absurd e1 z⟩⟩
theorem spare74_S {P : TM2 → Prop} {K : Int32 → Int32 → (Nat → Int32) → (Nat → Int32) → (Nat → Int32) → (Nat → Int32) → (Nat → Int32) → (Nat → Int32) → (Nat → Int32) → (Nat → Int32) → (Nat → Int32) → (Nat → Int32) → (Nat → Int32) → Option TM2} {on ot : Nat → Int32} {r : Int32} {Z : Int32 → Prop} {Q0 : Prop} (hv : LU on ot r) (hz : ZE on ot r Z) {k63 : Nat} (h63 : k63 < 24) (hK : ∀ v m a b fr to w d ab p n l t, FT fr to → ((v = 1 ∧ E2 Z r) ∨ (v = 0 ∧ Q0 ∧ ∀ m, k63 < m → m < 24 → ¬ W2 Z r k63 m)) → Ok (K v m a b fr to w d ab p n l t) P) : ∀ (n k : Nat) (v m : Int32) (a b fr to w d ab p nx l t : Nat → Int32), k + n = 24 → k63 < k → FT fr to → ((v = 1 ∧ E2 Z r) ∨ (v = 0 ∧ Q0 ∧ ∀ m, k63 < m → m < k → ¬ W2 Z r k63 m)) → Ok (F_spareM_L74 K on ot r k63 n k v m a b fr to w d ab p nx l t) P
  | 0, k, v, m, a, b, fr, to, w, d, ab, p, nx, l, t, hk, _, h1, hs => by
    rw [F_spareM_L74]
    exact hK _ _ _ _ _ _ _ _ _ _ _ _ _ h1 (hs.imp_right (fun q => ⟨q.1, q.2.1, fun m h1 h2 => q.2.2 m h1 (by omega)⟩))
  | n + 1, k, v, m, a, b, fr, to, w, d, ab, p, nx, l, t, hk, hkk, h1, hs => by
    rw [F_spareM_L74]
    refine ok_if (fun c => ?_) (fun c => hK _ _ _ _ _ _ _ _ _ _ _ _ _ h1 (Or.inl (hs.resolve_right (fun q => c q.1))))
    obtain ⟨hq0, hn⟩ : Q0 ∧ ∀ m, k63 < m → m < k → ¬ W2 Z r k63 m := by
      rcases hs with ⟨e, _⟩ | ⟨_, q⟩
      · rw [e] at c; exact absurd c (by decide)
      · exact q
    have step : ¬ W2 Z r k63 k → ∀ m, k63 < m → m < k + 1 → ¬ W2 Z r k63 m := fun hw m h1 h2 => by
      by_cases e : m = k
      · rw [e]; exact hw
      · exact hn m h1 (by omega)
    refine ok_bind (Q := fun (J : TM) => FT J.2.2.2.2.1 J.2.2.2.2.2.1 ∧ ((J.1 = 1 ∧ E2 Z r) ∨ (J.1 = 0 ∧ Q0 ∧ ∀ m, k63 < m → m < k + 1 → ¬ W2 Z r k63 m))) (ok_if (fun b1 => ok_if (fun b2 => ?_) (fun b2 => ok_some ⟨h1, Or.inr ⟨rfl, hq0, step (fun z => b2 ((bit1_iff (by omega)).mpr z.2.1))⟩⟩)) (fun b1 => ok_some ⟨h1, Or.inr ⟨rfl, hq0, step (fun z => b1 ((bit1_iff (by omega)).mpr z.1))⟩⟩)) (fun J hJ => spare74_S hv hz h63 hK n (k + 1) _ _ _ _ _ _ _ _ _ _ _ _ _ (by omega) (by omega) hJ.1 hJ.2)
    have hs2 : SubB (wt (wt r k63) k) r := fun l h => wt_sub (fun l h => wt_sub (fun _ q => q) l h) l h
    refine ok_bind (isDrawable_sem (v := wt (wt r k63) k) (hv.sub hs2) h1) (fun q hq => ?_)
    have h0 := z0_of hq.1.1 (hq.2.trans (hz _ hs2))
    exact ok_if (fun c => ok_some ⟨hq.1.2, Or.inr ⟨rfl, hq0, step (fun z => h0.mp c z.2.2)⟩⟩) (fun c => ok_some ⟨hq.1.2, Or.inl ⟨rfl, k63, k, hkk, by omega, (bit1_iff (by omega)).mp b1, (bit1_iff (by omega)).mp b2, Classical.byContradiction (fun z => c (h0.mpr z))⟩⟩)
theorem spare63_S {P : TM2 → Prop} {K : Int32 → Int32 → (Nat → Int32) → (Nat → Int32) → (Nat → Int32) → (Nat → Int32) → (Nat → Int32) → (Nat → Int32) → (Nat → Int32) → (Nat → Int32) → (Nat → Int32) → (Nat → Int32) → (Nat → Int32) → Option TM2} {on ot : Nat → Int32} {r : Int32} {Z : Int32 → Prop} (hv : LU on ot r) (hz : ZE on ot r Z) (hK : ∀ v m a b fr to w d ab p n l t, FT fr to → ((v = 1 ∧ E2 Z r) ∨ (v = 0 ∧ ¬ E2 Z r)) → Ok (K v m a b fr to w d ab p n l t) P) : ∀ (n k : Nat) (v m : Int32) (a b fr to w d ab p nx l t : Nat → Int32), k + n = 24 → FT fr to → ((v = 1 ∧ E2 Z r) ∨ (v = 0 ∧ ∀ l, l < k → ∀ m, l < m → m < 24 → ¬ W2 Z r l m)) → Ok (F_spareM_L63 K on ot r n k v m a b fr to w d ab p nx l t) P
  | 0, k, v, m, a, b, fr, to, w, d, ab, p, nx, l, t, hk, h1, hs => by
    rw [F_spareM_L63]
    exact hK _ _ _ _ _ _ _ _ _ _ _ _ _ h1 (hs.imp_right (fun q => ⟨q.1, fun ⟨l, m, h1, h2, h3⟩ => q.2 l (by omega) m h1 h2 h3⟩))
  | n + 1, k, v, m, a, b, fr, to, w, d, ab, p, nx, l, t, hk, h1, hs => by
    rw [F_spareM_L63]
    refine spare74_S (Q0 := ∀ l, l < k → ∀ m, l < m → m < 24 → ¬ W2 Z r l m) hv hz (by omega) (fun v2 m a b fr to w d ab p n2 l t h2 hq => spare63_S hv hz hK n (k + 1) _ _ _ _ _ _ _ _ _ _ _ _ _ (by omega) h2 ?_) _ _ _ _ _ _ _ _ _ _ _ _ _ _ _ (by omega) (by omega) h1 (hs.imp_right (fun q => ⟨q.1, q.2, fun m h1 h2 => by omega⟩))
    refine hq.imp_right (fun z => ⟨z.1, fun l hl m h3 h4 => ?_⟩)
    by_cases e : l = k
    · rw [e] at h3 ⊢; exact z.2.2 m h3 h4
    · exact z.2.1 l (by omega) m h3 h4
theorem spare24_S {P : TM2 → Prop} {K : Int32 → (Nat → Int32) → (Nat → Int32) → (Nat → Int32) → (Nat → Int32) → (Nat → Int32) → (Nat → Int32) → (Nat → Int32) → (Nat → Int32) → (Nat → Int32) → (Nat → Int32) → (Nat → Int32) → Option TM2} {on ot : Nat → Int32} {r : Int32} {Z : Int32 → Prop} (hv : LU on ot r) (hz : ZE on ot r Z) (hP : ∀ R : TM2, PF R → R.1 = 1 → E1 Z r → P R) (hK : ∀ m a b fr to w d ab p n l t, FT fr to → ¬ E1 Z r → Ok (K m a b fr to w d ab p n l t) P) : ∀ (n k : Nat) (m : Int32) (a b fr to w d ab p nx l t : Nat → Int32), k + n = 24 → (∀ l, l < k → bit r l = true → ¬ Z (wt r l)) → FT fr to → Ok (F_spareM_L24 K on ot r n k m a b fr to w d ab p nx l t) P
  | 0, k, m, a, b, fr, to, w, d, ab, p, nx, l, t, hk, hn, h1 => by
    rw [F_spareM_L24]
    exact hK _ _ _ _ _ _ _ _ _ _ _ _ h1 (fun ⟨l, h1, h2, h3⟩ => hn l (by omega) h2 h3)
  | n + 1, k, m, a, b, fr, to, w, d, ab, p, nx, l, t, hk, hn, h1 => by
    rw [F_spareM_L24]
    have step : ¬ (bit r k = true ∧ Z (wt r k)) → ∀ l, l < k + 1 → bit r l = true → ¬ Z (wt r l) := fun hw l hl hb z => by
      by_cases e : l = k
      · rw [e] at hb z; exact hw ⟨hb, z⟩
      · exact hn l (by omega) hb z
    refine ok_if (fun b1 => ?_) (fun b1 => spare24_S hv hz hP hK n (k + 1) _ _ _ _ _ _ _ _ _ _ _ _ (by omega) (step (fun z => b1 ((bit1_iff (by omega)).mpr z.1))) h1)
    have hs2 : SubB (wt r k) r := fun l h => wt_sub (fun _ q => q) l h
    refine ok_bind (isDrawable_sem (v := wt r k) (hv.sub hs2) h1) (fun q hq => ?_)
    have h0 := z0_of hq.1.1 (hq.2.trans (hz _ hs2))
    exact ok_if (fun c => spare24_S hv hz hP hK n (k + 1) _ _ _ _ _ _ _ _ _ _ _ _ (by omega) (step (fun z => h0.mp c z.2)) hq.1.2) (fun c => ok_some (hP _ hq.1.2 rfl ⟨k, by omega, (bit1_iff (by omega)).mp b1, Classical.byContradiction (fun z => c (h0.mpr z))⟩))
theorem spareM_sem {on ot ma mb fr to way dep abo pile nxt ld tu : Nat → Int32} {lb : Int32} {Z : Int32 → Prop} (hb : F_lineBitsM on = some lb) (hv : LU on ot lb) (hz : ZE on ot lb Z) (h1 : FT fr to) : Ok (F_spareM on ot ma mb fr to way dep abo pile nxt ld tu) (fun R => PF R ∧ SPR Z lb R.1) := by
  unfold F_spareM
  rw [hb, Option.bind_some]
  refine ok_bind (isDrawable_sem hv h1) (fun p hp => ?_)
  have h0 := z0_of hp.1.1 (hp.2.trans (hz _ (fun l h => h)))
  refine ok_if (fun c => ?_) (fun c => ok_some ⟨hp.1.2, fun _ => rfl, fun z => absurd (h0.mpr z) c⟩)
  refine spare24_S hv hz (fun R h e q => ⟨h, fun z => absurd z (h0.mp c), fun _ => ⟨fun _ => e, fun z => absurd q z⟩⟩) (fun m a b fr to w d ab p n l t h2 e1 => spare63_S hv hz (fun v m a b fr to w d ab p n l t h3 hs => ?_) 24 0 _ _ _ _ _ _ _ _ _ _ _ _ _ rfl h2 (Or.inr ⟨rfl, fun l hl => absurd hl (Nat.not_lt_zero _)⟩)) 24 0 _ _ _ _ _ _ _ _ _ _ _ _ rfl (fun l hl => absurd hl (Nat.not_lt_zero _)) hp.1.2
  refine ok_if (fun c2 => ok_some ⟨h3, fun z => absurd z (h0.mp c), fun _ => ⟨fun z => absurd z e1, fun _ => ⟨fun z => ?_, fun _ => rfl⟩⟩⟩) (fun c2 => ok_some ⟨h3, fun z => absurd z (h0.mp c), fun _ => ⟨fun z => absurd z e1, fun _ => ⟨fun _ => rfl, fun z => ?_⟩⟩⟩)
  · rcases hs with ⟨e, _⟩ | ⟨_, e⟩
    · rw [e] at c2; exact absurd c2 (by decide)
    · exact absurd z e
  · rcases hs with ⟨_, e⟩ | ⟨e, _⟩
    · exact absurd e z
    · exact absurd e c2
theorem ZE_of {nb lb : Int32} {le mo dx dy mt on ot mx my fr to hi : Nat → Int32} (_ : Inv nb lb le mo dx dy mt on ot mx my fr to hi) : ZE le mo lb (fun v => ZZ (gA v le mo)) := fun _ _ => Iff.rfl
theorem ZE_ofM {nb lb : Int32} {le mo dx dy mt on ot mx my fr to hi : Nat → Int32} (hv : Inv nb lb le mo dx dy mt on ot mx my fr to hi) : ZE on ot lb (fun v => ZZ (gA v le mo)) := fun _ hs => ZZ.cg (fun a b => (gA_eq hv hs a b).symm)
theorem st_drawable (zx_nodeBits : Int32) (zx_lineBits : Int32) (zx_lessEnd : Nat → Int32) (zx_moreEnd : Nat → Int32) (zx_web_near : Nat → Int32) (zx_planeTest_backLines : Int32) (zx_planeTest_clash : Int32) (zx_planeTest_depthOf : Nat → Int32) (zx_planeTest_endingAt : Nat → Int32) (zx_planeTest_returns : Nat → Int32) (zx_planeTest_highest : Nat → Int32) (zx_planeTest_alike : Nat → Int32) (zx_planeTest_opposed : Nat → Int32) (zx_palette_there : Int32) (zx_palette_allowed : Int32) (zx_palette_shades : Nat → Int32) (zx_desk_xs : Nat → Int32) (zx_desk_ys : Nat → Int32) (zm_thrown : Int32) (zm_many : Int32) (zm_there : Nat → Int32) (zm_ones : Nat → Int32) (zm_others : Nat → Int32) (zm_xs : Nat → Int32) (zm_ys : Nat → Int32) (zm_a : Nat → Int32) (zm_b : Nat → Int32) (zm_from : Nat → Int32) (zm_to : Nat → Int32) (zm_way : Nat → Int32) (zm_depth : Nat → Int32) (zm_above : Nat → Int32) (zm_pile : Nat → Int32) (zm_next : Nat → Int32) (zm_leader : Nat → Int32) (zm_turned : Nat → Int32) (zm_piece : Nat → Int32) (zm_numbers : Nat → Int32) (zm_row : Nat → Int32) (zb : Nat → Int64) (hv : Inv zx_nodeBits zx_lineBits zx_lessEnd zx_moreEnd zx_desk_xs zx_desk_ys zm_there zm_ones zm_others zm_xs zm_ys zm_from zm_to zx_planeTest_highest) : ∃ Rx, F_drawableG zx_lineBits zx_lessEnd zx_moreEnd zx_web_near zx_planeTest_backLines zx_planeTest_clash zx_planeTest_depthOf zx_planeTest_endingAt zx_planeTest_returns zx_planeTest_highest zx_planeTest_alike zx_planeTest_opposed = some Rx ∧ ∃ Rm, F_drawableM zm_ones zm_others zm_a zm_b zm_from zm_to zm_way zm_depth zm_above zm_pile zm_next zm_leader zm_turned = some Rm ∧ (Rx.1 = Rm.1) ∧ Inv zx_nodeBits zx_lineBits zx_lessEnd zx_moreEnd zx_desk_xs zx_desk_ys zm_there zm_ones zm_others zm_xs zm_ys Rm.2.2.2.2.2.1 Rm.2.2.2.2.2.2.1 Rx.2.2.2.2.2.2.2.1 := by
  exact two_ok (P := fun R => PH R ∧ z01 R.1 ∧ (R.1 = 1 ↔ ZZ (gA zx_lineBits zx_lessEnd zx_moreEnd))) (Q := fun R => PF R ∧ z01 R.1 ∧ (R.1 = 1 ↔ ZZ (gA zx_lineBits zx_lessEnd zx_moreEnd))) (ok_bind (canDraw_sem (LU_of hv) (HI_of hv)) (fun p hp => ok_some ⟨hp.1.1, hp.1.2, hp.2⟩)) (by
    unfold F_drawableM
    rw [LB_of hv, Option.bind_some]
    exact ok_bind (isDrawable_sem (LU_ofM hv) (FT_of hv)) (fun p hp => ok_some ⟨hp.1.2, hp.1.1, hp.2.trans (ZE_ofM hv _ (fun l h => h))⟩)) (fun a b h1 h2 => ⟨z_uq h1.2.1 h2.2.1 h1.2.2 h2.2.2, inv_rep hv h2.1 h1.1⟩)
theorem st_pattern (zx_nodeBits : Int32) (zx_lineBits : Int32) (zx_lessEnd : Nat → Int32) (zx_moreEnd : Nat → Int32) (zx_web_near : Nat → Int32) (zx_planeTest_backLines : Int32) (zx_planeTest_clash : Int32) (zx_planeTest_depthOf : Nat → Int32) (zx_planeTest_endingAt : Nat → Int32) (zx_planeTest_returns : Nat → Int32) (zx_planeTest_highest : Nat → Int32) (zx_planeTest_alike : Nat → Int32) (zx_planeTest_opposed : Nat → Int32) (zx_palette_there : Int32) (zx_palette_allowed : Int32) (zx_palette_shades : Nat → Int32) (zx_desk_xs : Nat → Int32) (zx_desk_ys : Nat → Int32) (zm_thrown : Int32) (zm_many : Int32) (zm_there : Nat → Int32) (zm_ones : Nat → Int32) (zm_others : Nat → Int32) (zm_xs : Nat → Int32) (zm_ys : Nat → Int32) (zm_a : Nat → Int32) (zm_b : Nat → Int32) (zm_from : Nat → Int32) (zm_to : Nat → Int32) (zm_way : Nat → Int32) (zm_depth : Nat → Int32) (zm_above : Nat → Int32) (zm_pile : Nat → Int32) (zm_next : Nat → Int32) (zm_leader : Nat → Int32) (zm_turned : Nat → Int32) (zm_piece : Nat → Int32) (zm_numbers : Nat → Int32) (zm_row : Nat → Int32) (zb : Nat → Int64) (hv : Inv zx_nodeBits zx_lineBits zx_lessEnd zx_moreEnd zx_desk_xs zx_desk_ys zm_there zm_ones zm_others zm_xs zm_ys zm_from zm_to zx_planeTest_highest) : ∃ Rx, F_patternG zx_lineBits zx_lessEnd zx_moreEnd zx_web_near zx_planeTest_backLines zx_planeTest_clash zx_planeTest_depthOf zx_planeTest_endingAt zx_planeTest_returns zx_planeTest_highest zx_planeTest_alike zx_planeTest_opposed = some Rx ∧ ∃ Rm, F_patternM zm_ones zm_others zm_a zm_b zm_from zm_to zm_way zm_depth zm_above zm_pile zm_next zm_leader zm_turned = some Rm ∧ (Rx.1 = Rm.1) ∧ Inv zx_nodeBits zx_lineBits zx_lessEnd zx_moreEnd zx_desk_xs zx_desk_ys zm_there zm_ones zm_others zm_xs zm_ys Rm.2.2.2.2.2.1 Rm.2.2.2.2.2.2.1 Rx.2.2.2.2.2.2.2.1 := by
  exact two_ok (P := fun R => PH R ∧ PT0 (fun v => ZZ (gA v zx_lessEnd zx_moreEnd)) zx_lineBits R.1) (Q := fun R => PF R ∧ PT0 (fun v => ZZ (gA v zx_lessEnd zx_moreEnd)) zx_lineBits R.1) (ok_bind (forb_sem (LU_of hv) (ZE_of hv) (HI_of hv)) (fun p hp => ok_some ⟨hp.1.1, hp.2⟩)) (ok_bind (patNow_sem (LB_of hv) (LU_ofM hv) (ZE_ofM hv) (FT_of hv)) (fun p hp => ok_some ⟨hp.1.2, hp.2⟩)) (fun a b h1 h2 => ⟨PT0_uq h1.2 h2.2, inv_rep hv h2.1 h1.1⟩)
theorem st_spare (zx_nodeBits : Int32) (zx_lineBits : Int32) (zx_lessEnd : Nat → Int32) (zx_moreEnd : Nat → Int32) (zx_web_near : Nat → Int32) (zx_planeTest_backLines : Int32) (zx_planeTest_clash : Int32) (zx_planeTest_depthOf : Nat → Int32) (zx_planeTest_endingAt : Nat → Int32) (zx_planeTest_returns : Nat → Int32) (zx_planeTest_highest : Nat → Int32) (zx_planeTest_alike : Nat → Int32) (zx_planeTest_opposed : Nat → Int32) (zx_palette_there : Int32) (zx_palette_allowed : Int32) (zx_palette_shades : Nat → Int32) (zx_desk_xs : Nat → Int32) (zx_desk_ys : Nat → Int32) (zm_thrown : Int32) (zm_many : Int32) (zm_there : Nat → Int32) (zm_ones : Nat → Int32) (zm_others : Nat → Int32) (zm_xs : Nat → Int32) (zm_ys : Nat → Int32) (zm_a : Nat → Int32) (zm_b : Nat → Int32) (zm_from : Nat → Int32) (zm_to : Nat → Int32) (zm_way : Nat → Int32) (zm_depth : Nat → Int32) (zm_above : Nat → Int32) (zm_pile : Nat → Int32) (zm_next : Nat → Int32) (zm_leader : Nat → Int32) (zm_turned : Nat → Int32) (zm_piece : Nat → Int32) (zm_numbers : Nat → Int32) (zm_row : Nat → Int32) (zb : Nat → Int64) (hv : Inv zx_nodeBits zx_lineBits zx_lessEnd zx_moreEnd zx_desk_xs zx_desk_ys zm_there zm_ones zm_others zm_xs zm_ys zm_from zm_to zx_planeTest_highest) : ∃ Rx, F_spareG zx_lineBits zx_lessEnd zx_moreEnd zx_web_near zx_planeTest_backLines zx_planeTest_clash zx_planeTest_depthOf zx_planeTest_endingAt zx_planeTest_returns zx_planeTest_highest zx_planeTest_alike zx_planeTest_opposed = some Rx ∧ ∃ Rm, F_spareM zm_ones zm_others zm_a zm_b zm_from zm_to zm_way zm_depth zm_above zm_pile zm_next zm_leader zm_turned = some Rm ∧ (Rx.1 = Rm.1) ∧ Inv zx_nodeBits zx_lineBits zx_lessEnd zx_moreEnd zx_desk_xs zx_desk_ys zm_there zm_ones zm_others zm_xs zm_ys Rm.2.2.2.2.2.1 Rm.2.2.2.2.2.2.1 Rx.2.2.2.2.2.2.2.1 := by
  exact two_ok (spare_sem (LU_of hv) (ZE_of hv) (HI_of hv)) (spareM_sem (LB_of hv) (LU_ofM hv) (ZE_ofM hv) (FT_of hv)) (fun a b h1 h2 => ⟨SPR_uq h1.2 h2.2, inv_rep hv h2.1 h1.1⟩)
theorem st_room (zx_nodeBits : Int32) (zx_lineBits : Int32) (zx_lessEnd : Nat → Int32) (zx_moreEnd : Nat → Int32) (zx_web_near : Nat → Int32) (zx_planeTest_backLines : Int32) (zx_planeTest_clash : Int32) (zx_planeTest_depthOf : Nat → Int32) (zx_planeTest_endingAt : Nat → Int32) (zx_planeTest_returns : Nat → Int32) (zx_planeTest_highest : Nat → Int32) (zx_planeTest_alike : Nat → Int32) (zx_planeTest_opposed : Nat → Int32) (zx_palette_there : Int32) (zx_palette_allowed : Int32) (zx_palette_shades : Nat → Int32) (zx_desk_xs : Nat → Int32) (zx_desk_ys : Nat → Int32) (zm_thrown : Int32) (zm_many : Int32) (zm_there : Nat → Int32) (zm_ones : Nat → Int32) (zm_others : Nat → Int32) (zm_xs : Nat → Int32) (zm_ys : Nat → Int32) (zm_a : Nat → Int32) (zm_b : Nat → Int32) (zm_from : Nat → Int32) (zm_to : Nat → Int32) (zm_way : Nat → Int32) (zm_depth : Nat → Int32) (zm_above : Nat → Int32) (zm_pile : Nat → Int32) (zm_next : Nat → Int32) (zm_leader : Nat → Int32) (zm_turned : Nat → Int32) (zm_piece : Nat → Int32) (zm_numbers : Nat → Int32) (zm_row : Nat → Int32) (zb : Nat → Int64) (hv : Inv zx_nodeBits zx_lineBits zx_lessEnd zx_moreEnd zx_desk_xs zx_desk_ys zm_there zm_ones zm_others zm_xs zm_ys zm_from zm_to zx_planeTest_highest) : ∃ Rx, F_roomG zx_nodeBits zx_lineBits zx_lessEnd zx_moreEnd zx_web_near zx_planeTest_backLines zx_planeTest_clash zx_planeTest_depthOf zx_planeTest_endingAt zx_planeTest_returns zx_planeTest_highest zx_planeTest_alike zx_planeTest_opposed = some Rx ∧ ∃ Rm, F_roomM zm_many zm_there zm_ones zm_others zm_a zm_b zm_from zm_to zm_way zm_depth zm_above zm_pile zm_next zm_leader zm_turned = some Rm ∧ (Rx.1 = Rm.1) ∧ Inv zx_nodeBits zx_lineBits zx_lessEnd zx_moreEnd zx_desk_xs zx_desk_ys zm_there zm_ones zm_others zm_xs zm_ys Rm.2.2.2.2.2.1 Rm.2.2.2.2.2.2.1 Rx.2.2.2.2.2.2.2.1 := by
  exact two_ok (P := fun R => PH R ∧ RO_ (WR zx_nodeBits zx_lineBits zx_lessEnd zx_moreEnd) 10 0 0 R.1) (Q := fun R => PF R ∧ RO_ (WR zx_nodeBits zx_lineBits zx_lessEnd zx_moreEnd) 10 0 0 R.1) (room4_S (LU_of hv) 10 0 _ _ _ _ _ _ _ _ _ _ rfl (HI_of hv) (fun v near bl cl dep en re hi al op q1 q2 => ok_some ⟨q2, q1⟩)) (room9_S hv 10 0 _ _ _ _ _ _ _ _ _ _ _ _ _ rfl (FT_of hv) (fun v m a b fr to w d ab p n l t q1 q2 => ok_some ⟨q2, q1⟩)) (fun a b h1 h2 => ⟨RO_uq _ _ _ _ _ h1.2 h2.2, inv_rep hv h2.1 h1.1⟩)
