theorem z0_of {a : Int32} {P : Prop} (h : z01 a) (h1 : a = 1 ↔ P) : a = 0 ↔ ¬ P := by
  rcases h with rfl | rfl
  · exact ⟨fun _ q => absurd (h1.mpr q) (by decide), fun _ => rfl⟩
  · exact ⟨fun q => absurd q (by decide), fun q => absurd (h1.mp rfl) q⟩
theorem z_uq {a b : Int32} {P : Prop} (ha : z01 a) (hb : z01 b) (h1 : a = 1 ↔ P) (h2 : b = 1 ↔ P) : a = b := by
  rcases ha with rfl | rfl
  · rcases hb with rfl | rfl
    · rfl
    · exact absurd (h1.mpr (h2.mp rfl)) (by decide)
  · exact (h2.mpr (h1.mp rfl)).symm
def wt (v : Int32) (k : Nat) : Int32 := v &&& (((1 : Int32) <<< (nI k &&& 31)) ^^^ (-1))
theorem wt_sub {v lb : Int32} {k : Nat} (hs : ∀ l, bit v l = true → bit lb l = true) (l : Nat) (h : bit (wt v k) l = true) : bit lb l = true := hs l (and_sub l h)
theorem wt_same {v : Int32} {k : Nat} (hk : k < 32) (h : ¬ bit v k = true) : wt v k = v := by
  apply bit_ext
  intro j _
  unfold wt
  rw [clr_bit hk j]
  by_cases c : j = k
  · have : bit v k = false := by simpa using h
    rw [c, this]; rfl
  · rw [decide_eq_false c]; simp
def PTr (Z : Int32 → Prop) : Nat → Nat → Int32 → Int32 → Prop
  | 0, _, v, r => r = v
  | n + 1, k, v, r => (Z (wt v k) → PTr Z n (k + 1) v r) ∧ (¬ Z (wt v k) → PTr Z n (k + 1) (wt v k) r)
theorem PTr_uq {Z : Int32 → Prop} : ∀ (n k : Nat) (v a b : Int32), PTr Z n k v a → PTr Z n k v b → a = b
  | 0, k, v, a, b, h1, h2 => h1.trans h2.symm
  | n + 1, k, v, a, b, h1, h2 => by
    by_cases c : Z (wt v k)
    · exact PTr_uq n (k + 1) v a b (h1.1 c) (h2.1 c)
    · exact PTr_uq n (k + 1) (wt v k) a b (h1.2 c) (h2.2 c)
def PT0 (Z : Int32 → Prop) (lb r : Int32) : Prop := (Z lb → r = 0) ∧ (¬ Z lb → PTr Z 24 0 lb r)
theorem PT0_uq {Z : Int32 → Prop} {lb a b : Int32} (h1 : PT0 Z lb a) (h2 : PT0 Z lb b) : a = b := by
  by_cases c : Z lb
  · rw [h1.1 c, h2.1 c]
  · exact PTr_uq 24 0 lb a b (h1.2 c) (h2.2 c)
def SubB (v lb : Int32) : Prop := ∀ l, bit v l = true → bit lb l = true
def ZE (le mo : Nat → Int32) (lb : Int32) (Z : Int32 → Prop) : Prop := ∀ v, SubB v lb → (ZZ (gA v le mo) ↔ Z v)
theorem forb_S {P : TX → Prop} {K : Int32 → (Nat → Int32) → Int32 → Int32 → (Nat → Int32) → (Nat → Int32) → (Nat → Int32) → (Nat → Int32) → (Nat → Int32) → (Nat → Int32) → Option TX} {le mo : Nat → Int32} {lb : Int32} {Z : Int32 → Prop} (hv : LU le mo lb) (hz : ZE le mo lb Z) : ∀ (n k : Nat) (v : Int32) (near : Nat → Int32) (bl cl : Int32) (dep en re hi al op : Nat → Int32), SubB v lb → HI hi → (∀ v' near bl cl dep en re hi al op, SubB v' lb → PTr Z n k v v' → HI hi → Ok (K v' near bl cl dep en re hi al op) P) → Ok (F_forbiddenG_L20 K le mo n k v near bl cl dep en re hi al op) P
  | 0, k, v, near, bl, cl, dep, en, re, hi, al, op, hs, hh, hK => by rw [F_forbiddenG_L20]; exact hK v near bl cl dep en re hi al op hs rfl hh
  | n + 1, k, v, near, bl, cl, dep, en, re, hi, al, op, hs, hh, hK => by
    rw [F_forbiddenG_L20]
    have hs2 : SubB (wt v k) lb := fun l h => wt_sub hs l h
    refine ok_bind (canDraw_sem (v := wt v k) (hv.sub hs2) hh) (fun p hp => ?_)
    have h0 := z0_of hp.1.2 (hp.2.trans (hz _ hs2))
    exact ok_if (fun c => forb_S hv hz n (k + 1) _ _ _ _ _ _ _ _ _ _ hs2 hp.1.1 (fun v' near bl cl dep en re hi al op q1 q2 q3 => hK v' near bl cl dep en re hi al op q1 ⟨fun z => absurd z (h0.mp c), fun _ => q2⟩ q3)) (fun c => forb_S hv hz n (k + 1) _ _ _ _ _ _ _ _ _ _ hs hp.1.1 (fun v' near bl cl dep en re hi al op q1 q2 q3 => hK v' near bl cl dep en re hi al op q1 ⟨fun _ => q2, fun z => absurd (h0.mpr z) c⟩ q3))
theorem forb_sem {le mo near : Nat → Int32} {bl cl : Int32} {dep en re hi al op : Nat → Int32} {lb : Int32} {Z : Int32 → Prop} (hv : LU le mo lb) (hz : ZE le mo lb Z) (hh : HI hi) : Ok (F_forbiddenG lb le mo near bl cl dep en re hi al op) (fun R => (PH R ∧ SubB R.1 lb) ∧ PT0 Z lb R.1) := by
  refine ok_bind (canDraw_sem hv hh) (fun p hp => ?_)
  have h0 := z0_of hp.1.2 (hp.2.trans (hz _ (fun l h => h)))
  refine ok_if (fun c => forb_S hv hz 24 0 _ _ _ _ _ _ _ _ _ _ (fun l h => h) hp.1.1 (fun v' near bl cl dep en re hi al op q1 q2 q3 => ok_some ⟨⟨q3, q1⟩, fun z => absurd z (h0.mp c), fun _ => q2⟩)) (fun c => ok_some ⟨⟨hp.1.1, fun l h => ?_⟩, fun _ => rfl, fun z => absurd (h0.mpr z) c⟩)
  have h : bit 0 l = true := h
  rw [bit_zero] at h; exact absurd h (by decide)
theorem pat_S {P : TM → Prop} {K : Int32 → Int32 → (Nat → Int32) → (Nat → Int32) → (Nat → Int32) → (Nat → Int32) → (Nat → Int32) → (Nat → Int32) → (Nat → Int32) → (Nat → Int32) → (Nat → Int32) → (Nat → Int32) → (Nat → Int32) → Option TM} {on ot : Nat → Int32} {lb : Int32} {Z : Int32 → Prop} (hv : LU on ot lb) (hz : ZE on ot lb Z) : ∀ (n k : Nat) (v m : Int32) (a b fr to w d ab p nx l t : Nat → Int32), k + n = 24 → SubB v lb → FT fr to → (∀ v' m a b fr to w d ab p n2 l t, SubB v' lb → PTr Z n k v v' → FT fr to → Ok (K v' m a b fr to w d ab p n2 l t) P) → Ok (F_patternNowM_L17 K on ot n k v m a b fr to w d ab p nx l t) P
  | 0, k, v, m, a, b, fr, to, w, d, ab, p, nx, l, t, _, hs, h1, hK => by rw [F_patternNowM_L17]; exact hK _ _ _ _ _ _ _ _ _ _ _ _ _ hs rfl h1
  | n + 1, k, v, m, a, b, fr, to, w, d, ab, p, nx, l, t, hk, hs, h1, hK => by
    rw [F_patternNowM_L17]
    have hs2 : SubB (wt v k) lb := fun l h => wt_sub hs l h
    refine ok_bind (Q := fun (J : TM) => SubB J.1 lb ∧ FT J.2.2.2.2.1 J.2.2.2.2.2.1 ∧ ((J.1 = v ∧ (Z (wt v k) ∨ wt v k = v)) ∨ (J.1 = wt v k ∧ ¬ Z (wt v k)))) (ok_if (fun hb => ?_) (fun hb => ok_some ⟨hs, h1, Or.inl ⟨rfl, Or.inr (wt_same (by omega) (fun q => hb ((bit1_iff (by omega)).mpr q)))⟩⟩)) (fun J hJ => pat_S hv hz n (k + 1) _ _ _ _ _ _ _ _ _ _ _ _ _ (by omega) hJ.1 hJ.2.1 (fun v' m a b fr to w d ab p n2 l t q1 q2 q3 => hK v' m a b fr to w d ab p n2 l t q1 ?_ q3))
    · refine ok_bind (isDrawable_sem (v := wt v k) (hv.sub hs2) h1) (fun q hq => ?_)
      have h0 := z0_of hq.1.1 (hq.2.trans (hz _ hs2))
      exact ok_if (fun c => ok_some ⟨hs2, hq.1.2, Or.inr ⟨rfl, h0.mp c⟩⟩) (fun c => ok_some ⟨hs, hq.1.2, Or.inl ⟨rfl, Or.inl (Classical.byContradiction (fun z => c (h0.mpr z)))⟩⟩)
    · rcases hJ.2.2 with ⟨e, z | z⟩ | ⟨e, z⟩
      · rw [e] at q2; exact ⟨fun _ => q2, fun y => absurd z y⟩
      · rw [e] at q2; exact ⟨fun _ => q2, fun _ => by rw [z]; exact q2⟩
      · rw [e] at q2; exact ⟨fun y => absurd y z, fun _ => q2⟩
theorem patNow_sem {on ot ma mb fr to way dep abo pile nxt ld tu : Nat → Int32} {lb : Int32} {Z : Int32 → Prop} (hb : F_lineBitsM on = some lb) (hv : LU on ot lb) (hz : ZE on ot lb Z) (h1 : FT fr to) : Ok (F_patternNowM on ot ma mb fr to way dep abo pile nxt ld tu) (fun R => (SubB R.1 lb ∧ FT R.2.2.2.2.1 R.2.2.2.2.2.1) ∧ PT0 Z lb R.1) := by
  unfold F_patternNowM
  rw [hb, Option.bind_some]
  refine ok_bind (isDrawable_sem hv h1) (fun q hq => ?_)
  have h0 := z0_of hq.1.1 (hq.2.trans (hz _ (fun l h => h)))
  refine ok_if (fun c => pat_S hv hz 24 0 _ _ _ _ _ _ _ _ _ _ _ _ _ rfl (fun i hi => hi) hq.1.2 (fun v m a b fr to w d ab p n l t q1 q2 q3 => ok_some ⟨⟨q1, q3⟩, fun z => absurd z (h0.mp c), fun _ => q2⟩)) (fun c => ok_some ⟨⟨fun l h => ?_, hq.1.2⟩, fun _ => rfl, fun z => absurd (h0.mpr z) c⟩)
  have h : bit 0 l = true := h
  rw [bit_zero] at h; exact absurd h (by decide)
def RI (W : Nat → Prop) : Nat → Nat → Int32 → Int32 → Prop
  | 0, _, v, r => r = v
  | n + 1, k, v, r => (W k → RI W n (k + 1) (v + 1) r) ∧ (¬ W k → RI W n (k + 1) v r)
def RO_ (W : Nat → Nat → Prop) : Nat → Nat → Int32 → Int32 → Prop
  | 0, _, v, r => r = v
  | n + 1, k, v, r => ∃ z, RI (W k) (10 - (k + 1)) (k + 1) v z ∧ RO_ W n (k + 1) z r
theorem RI_uq {W : Nat → Prop} : ∀ (n k : Nat) (v a b : Int32), RI W n k v a → RI W n k v b → a = b
  | 0, k, v, a, b, h1, h2 => h1.trans h2.symm
  | n + 1, k, v, a, b, h1, h2 => by
    by_cases c : W k
    · exact RI_uq n (k + 1) _ a b (h1.1 c) (h2.1 c)
    · exact RI_uq n (k + 1) _ a b (h1.2 c) (h2.2 c)
theorem RO_uq {W : Nat → Nat → Prop} : ∀ (n k : Nat) (v a b : Int32), RO_ W n k v a → RO_ W n k v b → a = b
  | 0, k, v, a, b, h1, h2 => h1.trans h2.symm
  | n + 1, k, v, a, b, h1, h2 => by
    obtain ⟨z1, p1, q1⟩ := h1
    obtain ⟨z2, p2, q2⟩ := h2
    have e := RI_uq _ _ _ _ _ p1 p2
    subst e
    exact RO_uq n (k + 1) _ a b q1 q2
def WR (nb lb : Int32) (le mo : Nat → Int32) (i j : Nat) : Prop := bit nb i = true ∧ bit nb j = true ∧ ¬ gA lb le mo i j ∧ ZZ (adp (gA lb le mo) i j)
theorem jn_gA {le mo : Nat → Int32} {lb : Int32} (hv : LU le mo lb) {i j : Nat} (hi : i < 10) (hj : j < 10) (hij : i ≠ j) : jn lb le mo (nI i) (nI j) ↔ gA lb le mo i j := by
  constructor
  · rintro ⟨l, hl, hb, h1, h2⟩
    obtain ⟨a, b, q1, q2, q3, q4⟩ := hv.1 l hl hb
    refine ⟨by omega, by omega, l, hl, hb, ?_⟩
    rw [q3, q4] at h1 h2 ⊢
    rw [nI_eq_iff (by omega) (by omega), nI_eq_iff (by omega) (by omega)] at h1 h2
    rw [nI_eq_iff (by omega) (by omega), nI_eq_iff (by omega) (by omega), nI_eq_iff (by omega) (by omega), nI_eq_iff (by omega) (by omega)]
    omega
  · rintro ⟨_, _, l, hl, hb, h⟩
    refine ⟨l, hl, hb, ?_⟩
    rcases h with ⟨h1, h2⟩ | ⟨h1, h2⟩
    · exact ⟨Or.inl h1, Or.inr h2⟩
    · exact ⟨Or.inr h2, Or.inl h1⟩
theorem jm_gA {nb lb : Int32} {le mo dx dy mt on ot mx my fr to hi : Nat → Int32} (hv : Inv nb lb le mo dx dy mt on ot mx my fr to hi) {i j : Nat} (hi : i < 11) (hj : j < 11) : (∃ l, l < 24 ∧ jm on ot (nI i) (nI j) l) ↔ gA lb on ot i j := by
  constructor
  · rintro ⟨l, hl, h0, h⟩
    have hb : bit lb l = true := by
      cases c : bit lb l with
      | true => rfl
      | false => exact absurd ((inv_live hv l hl).mpr c) h0
    exact ⟨hi, hj, l, hl, hb, h⟩
  · rintro ⟨_, _, l, hl, hb, h⟩
    refine ⟨l, hl, fun h0 => ?_, h⟩
    have := (inv_live hv l hl).mp h0
    rw [hb] at this; cases this
theorem room14_S {P : TX → Prop} {K : Int32 → (Nat → Int32) → Int32 → Int32 → (Nat → Int32) → (Nat → Int32) → (Nat → Int32) → (Nat → Int32) → (Nat → Int32) → (Nat → Int32) → Option TX} {le mo : Nat → Int32} {nb lb : Int32} {k4 : Nat} (h4 : k4 < 10) (hv : LU le mo lb) : ∀ (n k : Nat) (v : Int32) (near : Nat → Int32) (bl cl : Int32) (dep en re hi al op : Nat → Int32), k + n = 10 → k4 < k → HI hi → (∀ v' near bl cl dep en re hi al op, RI (WR nb lb le mo k4) n k v v' → HI hi → Ok (K v' near bl cl dep en re hi al op) P) → Ok (F_roomG_L14 K nb lb le mo k4 n k v near bl cl dep en re hi al op) P
  | 0, k, v, near, bl, cl, dep, en, re, hi, al, op, _, _, hh, hK => by rw [F_roomG_L14]; exact hK v near bl cl dep en re hi al op rfl hh
  | n + 1, k, v, near, bl, cl, dep, en, re, hi, al, op, hk, hkk, hh, hK => by
    rw [F_roomG_L14]
    refine ok_bind (Q := fun (R : TX) => PH R ∧ ((R.1 = v + 1 ∧ WR nb lb le mo k4 k) ∨ (R.1 = v ∧ ¬ WR nb lb le mo k4 k))) (ok_if (fun c => ok_some ⟨hh, Or.inr ⟨rfl, fun z => ?_⟩⟩) (fun _ => ok_if (fun c => ok_some ⟨hh, Or.inr ⟨rfl, fun z => ?_⟩⟩) (fun c2 => ?_))) (fun p hp => room14_S h4 hv n (k + 1) _ _ _ _ _ _ _ _ _ _ (by omega) (by omega) hp.1 (fun v' near bl cl dep en re hi al op q1 q2 => hK v' near bl cl dep en re hi al op ?_ q2))
    · have := (has0_iff (by omega)).mp c
      rw [z.1] at this; cases this
    · have := (has0_iff (by omega)).mp c
      rw [z.2.1] at this; cases this
    · rename_i c1
      have b1 : bit nb k4 = true := by
        cases q : bit nb k4 with
        | true => rfl
        | false => exact absurd ((has0_iff (by omega)).mpr q) c1
      have b2 : bit nb k = true := by
        cases q : bit nb k with
        | true => rfl
        | false => exact absurd ((has0_iff (by omega)).mpr q) c2
      have jg := jn_gA hv (show k4 < 10 by omega) (show k < 10 by omega) (by omega)
      rcases joined_eq lb le mo (nI k4) (nI k) with h | h
      · rw [h.1, Option.bind_some, if_pos rfl]
        refine ok_bind (canDrawWith_sem (show k4 < 11 by omega) (show k < 11 by omega) (by omega) hv hh) (fun r hr => ?_)
        have h0 := z0_of hr.1.2 hr.2
        exact ok_if (fun c => ok_some ⟨hr.1.1, Or.inr ⟨rfl, fun z => h0.mp c z.2.2.2⟩⟩) (fun c => ok_some ⟨hr.1.1, Or.inl ⟨rfl, b1, b2, fun z => h.2 (jg.mpr z), Classical.byContradiction (fun z => c (h0.mpr z))⟩⟩)
      · rw [h.1, Option.bind_some, if_neg n10]
        exact ok_some ⟨hh, Or.inr ⟨rfl, fun z => z.2.2.1 (jg.mp h.2)⟩⟩
    · rcases hp.2 with ⟨e, z⟩ | ⟨e, z⟩
      · rw [e] at q1; exact ⟨fun _ => q1, fun y => absurd z y⟩
      · rw [e] at q1; exact ⟨fun y => absurd y z, fun _ => q1⟩
theorem room4_S {P : TX → Prop} {K : Int32 → (Nat → Int32) → Int32 → Int32 → (Nat → Int32) → (Nat → Int32) → (Nat → Int32) → (Nat → Int32) → (Nat → Int32) → (Nat → Int32) → Option TX} {le mo : Nat → Int32} {nb lb : Int32} (hv : LU le mo lb) : ∀ (n k : Nat) (v : Int32) (near : Nat → Int32) (bl cl : Int32) (dep en re hi al op : Nat → Int32), k + n = 10 → HI hi → (∀ v' near bl cl dep en re hi al op, RO_ (WR nb lb le mo) n k v v' → HI hi → Ok (K v' near bl cl dep en re hi al op) P) → Ok (F_roomG_L4 K nb lb le mo n k v near bl cl dep en re hi al op) P
  | 0, k, v, near, bl, cl, dep, en, re, hi, al, op, _, hh, hK => by rw [F_roomG_L4]; exact hK v near bl cl dep en re hi al op rfl hh
  | n + 1, k, v, near, bl, cl, dep, en, re, hi, al, op, hk, hh, hK => by
    rw [F_roomG_L4]
    exact room14_S (by omega) hv _ _ _ _ _ _ _ _ _ _ _ _ (by omega) (by omega) hh (fun v2 near bl cl dep en re hi al op q1 q2 => room4_S hv n (k + 1) _ _ _ _ _ _ _ _ _ _ (by omega) q2 (fun v' near bl cl dep en re hi al op q3 q4 => hK v' near bl cl dep en re hi al op ⟨v2, q1, q3⟩ q4))
theorem adp_cg {ad ad' : Nat → Nat → Prop} (h : ∀ a b, ad a b ↔ ad' a b) (p q a b : Nat) : adp ad p q a b ↔ adp ad' p q a b := by
  unfold adp; rw [h a b]
theorem room19_S {P : TM2 → Prop} {K : Int32 → Int32 → (Nat → Int32) → (Nat → Int32) → (Nat → Int32) → (Nat → Int32) → (Nat → Int32) → (Nat → Int32) → (Nat → Int32) → (Nat → Int32) → (Nat → Int32) → (Nat → Int32) → (Nat → Int32) → Option TM2} {nb lb : Int32} {le mo dx dy mt on ot mx my fr0 to0 hi : Nat → Int32} (hv : Inv nb lb le mo dx dy mt on ot mx my fr0 to0 hi) {k9 : Nat} (h9 : k9 < 10) : ∀ (n k : Nat) (v m : Int32) (a b fr to w d ab p nx l t : Nat → Int32), k + n = 10 → k9 < k → FT fr to → (∀ v' m a b fr to w d ab p n2 l t, RI (WR nb lb le mo k9) n k v v' → FT fr to → Ok (K v' m a b fr to w d ab p n2 l t) P) → Ok (F_roomM_L19 K mt on ot k9 n k v m a b fr to w d ab p nx l t) P
  | 0, k, v, m, a, b, fr, to, w, d, ab, p, nx, l, t, _, _, h1, hK => by rw [F_roomM_L19]; exact hK _ _ _ _ _ _ _ _ _ _ _ _ _ rfl h1
  | n + 1, k, v, m, a, b, fr, to, w, d, ab, p, nx, l, t, hk, hkk, h1, hK => by
    rw [F_roomM_L19, hv.2.2.1 k9 h9, hv.2.2.1 k (by omega)]
    have gg := gA_eq hv (v := lb) (fun l h => h)
    refine ok_bind (Q := fun (J : TM) => FT J.2.2.2.2.1 J.2.2.2.2.2.1 ∧ ((J.1 = v + 1 ∧ WR nb lb le mo k9 k) ∨ (J.1 = v ∧ ¬ WR nb lb le mo k9 k))) (ok_if (fun c => ok_some ⟨h1, Or.inr ⟨rfl, fun z => ?_⟩⟩) (fun c1 => ok_if (fun c => ok_some ⟨h1, Or.inr ⟨rfl, fun z => ?_⟩⟩) (fun c2 => ?_))) (fun J hJ => room19_S hv h9 n (k + 1) _ _ _ _ _ _ _ _ _ _ _ _ _ (by omega) (by omega) hJ.1 (fun v' m a b fr to w d ab p n2 l t q1 q2 => hK v' m a b fr to w d ab p n2 l t ?_ q2))
    · rw [if_pos z.1] at c; exact absurd c (by decide)
    · rw [if_pos z.2.1] at c; exact absurd c (by decide)
    · have b1 : bit nb k9 = true := Classical.byContradiction (fun q => c1 (if_neg q))
      have b2 : bit nb k = true := Classical.byContradiction (fun q => c2 (if_neg q))
      have jg := jm_gA hv (show k9 < 11 by omega) (show k < 11 by omega)
      rcases lineB_eq on ot (nI k9) (nI k) with ⟨e, hn⟩ | ⟨l, hl, hj, e⟩
      · rw [e, Option.bind_some, if_neg (by decide)]
        have hng : ¬ gA lb on ot k9 k := fun z => by
          obtain ⟨l, hl, hj⟩ := jg.mpr z
          exact hn l hl hj
        refine ok_bind (couldHave_sem (LB_of hv) (LU_ofM hv) h1 (by omega) (by omega) (by omega) hng) (fun r hr => ?_)
        have h0 := z0_of hr.1.1 (hr.2.trans (ZZ.cg (fun a b => (adp_cg (fun a b => (gg a b).symm) k9 k a b))))
        exact ok_if (fun c => ok_some ⟨hr.1.2, Or.inr ⟨rfl, fun z => h0.mp c z.2.2.2⟩⟩) (fun c => ok_some ⟨hr.1.2, Or.inl ⟨rfl, b1, b2, fun z => hng ((gg _ _).mp z), Classical.byContradiction (fun z => c (h0.mpr z))⟩⟩)
      · rw [e, Option.bind_some, if_pos (nI_0le (by omega))]
        exact ok_some ⟨h1, Or.inr ⟨rfl, fun z => z.2.2.1 ((gg _ _).mpr (jg.mp ⟨l, hl, hj⟩))⟩⟩
    · rcases hJ.2 with ⟨e, z⟩ | ⟨e, z⟩
      · rw [e] at q1; exact ⟨fun _ => q1, fun y => absurd z y⟩
      · rw [e] at q1; exact ⟨fun y => absurd y z, fun _ => q1⟩
theorem room9_S {P : TM2 → Prop} {K : Int32 → Int32 → (Nat → Int32) → (Nat → Int32) → (Nat → Int32) → (Nat → Int32) → (Nat → Int32) → (Nat → Int32) → (Nat → Int32) → (Nat → Int32) → (Nat → Int32) → (Nat → Int32) → (Nat → Int32) → Option TM2} {nb lb : Int32} {le mo dx dy mt on ot mx my fr0 to0 hi : Nat → Int32} (hv : Inv nb lb le mo dx dy mt on ot mx my fr0 to0 hi) : ∀ (n k : Nat) (v m : Int32) (a b fr to w d ab p nx l t : Nat → Int32), k + n = 10 → FT fr to → (∀ v' m a b fr to w d ab p n2 l t, RO_ (WR nb lb le mo) n k v v' → FT fr to → Ok (K v' m a b fr to w d ab p n2 l t) P) → Ok (F_roomM_L9 K mt on ot n k v m a b fr to w d ab p nx l t) P
  | 0, k, v, m, a, b, fr, to, w, d, ab, p, nx, l, t, _, h1, hK => by rw [F_roomM_L9]; exact hK _ _ _ _ _ _ _ _ _ _ _ _ _ rfl h1
  | n + 1, k, v, m, a, b, fr, to, w, d, ab, p, nx, l, t, hk, h1, hK => by
    rw [F_roomM_L9]
    exact room19_S hv (by omega) _ _ _ _ _ _ _ _ _ _ _ _ _ _ _ (by omega) (by omega) h1 (fun v2 m a b fr to w d ab p n2 l t q1 q2 => room9_S hv n (k + 1) _ _ _ _ _ _ _ _ _ _ _ _ _ (by omega) q2 (fun v' m a b fr to w d ab p n2 l t q3 q4 => hK v' m a b fr to w d ab p n2 l t ⟨v2, q1, q3⟩ q4))
