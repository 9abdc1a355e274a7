def gA (v : Int32) (le mo : Nat → Int32) (i j : Nat) : Prop := i < 11 ∧ j < 11 ∧ AJ v le mo i j
def LU (le mo : Nat → Int32) (lb : Int32) : Prop := (∀ l, l < 24 → bit lb l = true → ∃ a b : Nat, a < b ∧ b < 10 ∧ le l = nI a ∧ mo l = nI b) ∧ ∀ l k, l < 24 → k < 24 → bit lb l = true → bit lb k = true → le l = le k → mo l = mo k → l = k
theorem LU.sub {le mo : Nat → Int32} {lb v : Int32} (h : LU le mo lb) (hs : ∀ l, bit v l = true → bit lb l = true) : LU le mo v := ⟨fun l hl hb => h.1 l hl (hs l hb), fun l k h1 h2 h3 h4 => h.2 l k h1 h2 (hs l h3) (hs k h4)⟩
theorem LU.lv {le mo : Nat → Int32} {lb : Int32} (h : LU le mo lb) : LV le mo lb := fun l hl hb => by
  obtain ⟨a, b, h1, h2, h3, h4⟩ := h.1 l hl hb
  exact ⟨a, b, by omega, h2, h3, h4⟩
theorem LU_of {nb lb : Int32} {le mo dx dy mt on ot mx my fr to hi : Nat → Int32} (hv : Inv nb lb le mo dx dy mt on ot mx my fr to hi) : LU le mo lb := ⟨fun l hl hb => by
  obtain ⟨a, b, h1, h2, _, _, h3, h4, _, _⟩ := hv.2.2.2.2.1 l hl hb
  exact ⟨a, b, h1, h2, h3, h4⟩, fun l k hl hk hb1 hb2 e1 e2 => by
  obtain ⟨a, b, _, _, _, _, h3, h4, h5, h6⟩ := hv.2.2.2.2.1 l hl hb1
  obtain ⟨a', b', _, _, _, _, h3', h4', h5', h6'⟩ := hv.2.2.2.2.1 k hk hb2
  exact hv.2.2.2.2.2.1 l k hl hk hb1 hb2 (by rw [h5, h5', ← h3, ← h3', e1]) (by rw [h6, h6', ← h4, ← h4', e2])⟩
theorem LU_ofM {nb lb : Int32} {le mo dx dy mt on ot mx my fr to hi : Nat → Int32} (hv : Inv nb lb le mo dx dy mt on ot mx my fr to hi) : LU on ot lb := ⟨fun l hl hb => by
  obtain ⟨a, b, h1, h2, _, _, _, _, h3, h4⟩ := hv.2.2.2.2.1 l hl hb
  exact ⟨a, b, h1, h2, h3, h4⟩, hv.2.2.2.2.2.1⟩
theorem gA_eq {nb lb : Int32} {le mo dx dy mt on ot mx my fr to hi : Nat → Int32} (hv : Inv nb lb le mo dx dy mt on ot mx my fr to hi) {v : Int32} (hs : ∀ l, bit v l = true → bit lb l = true) (i j : Nat) : gA v le mo i j ↔ gA v on ot i j := by
  have key : ∀ l, l < 24 → bit v l = true → le l = on l ∧ mo l = ot l := fun l hl hb => by
    obtain ⟨a, b, _, _, _, _, h3, h4, h5, h6⟩ := hv.2.2.2.2.1 l hl (hs l hb)
    exact ⟨by rw [h3, h5], by rw [h4, h6]⟩
  constructor
  · rintro ⟨h1, h2, l, hl, hb, h3⟩
    obtain ⟨e1, e2⟩ := key l hl hb
    rw [e1, e2] at h3
    exact ⟨h1, h2, l, hl, hb, h3⟩
  · rintro ⟨h1, h2, l, hl, hb, h3⟩
    obtain ⟨e1, e2⟩ := key l hl hb
    rw [← e1, ← e2] at h3
    exact ⟨h1, h2, l, hl, hb, h3⟩
theorem gA_lt {le mo : Nat → Int32} {v : Int32} (h : LU le mo v) {i j : Nat} (q : gA v le mo i j) : i < 10 ∧ j < 10 ∧ i ≠ j := by
  obtain ⟨h1, h2, l, hl, hb, h3⟩ := q
  obtain ⟨a, b, h4, h5, h6, h7⟩ := h.1 l hl hb
  rw [h6, h7] at h3
  rcases h3 with ⟨e1, e2⟩ | ⟨e1, e2⟩ <;> rw [nI_eq_iff (by omega) (by omega)] at e1 e2 <;> omega
theorem gA_sy {le mo : Nat → Int32} {v : Int32} {i j : Nat} (q : gA v le mo i j) : gA v le mo j i := ⟨q.2.1, q.1, q.2.2.symm⟩
theorem ZZ.cg {ad ad' : Nat → Nat → Prop} (h : ∀ a b, ad a b ↔ ad' a b) : ZZ ad ↔ ZZ ad' := ⟨fun q => q.sub (fun a b z => (h a b).mpr z), fun q => q.sub (fun a b z => (h a b).mp z)⟩
def WN (u : Nat → Int32) (ad : Nat → Nat → Prop) : Prop := Bd u ∧ ∀ i j, aj u i j ↔ ad i j
theorem WN.wb {u : Nat → Int32} {ad : Nat → Nat → Prop} (h : WN u ad) (h1 : ∀ a b, ad a b → a ≠ b) (h2 : ∀ a b, ad a b → ad b a) : Wb u := ⟨fun a b q => h1 a b ((h.2 a b).mp q), fun a b q => (h.2 b a).mpr (h2 a b ((h.2 a b).mp q))⟩
theorem spin_sem {le mo near : Nat → Int32} {v : Int32} (hv : LU le mo v) : Ok (F_spinG le mo near v) (fun u => WN u (gA v le mo)) := by
  refine ok_mono (spin_bits hv.lv) (fun u hu => ⟨fun a ha i hi => ?_, fun i j => ?_⟩)
  · cases hb : bit (u a) i with
    | false => rfl
    | true => have := ((hu a i ha).mp hb).1; omega
  · constructor
    · rintro ⟨h1, h2, h3⟩
      exact ⟨h1, h2, ((hu i j h1).mp h3).2⟩
    · intro q
      exact ⟨q.1, q.2.1, (hu i j q.1).mpr ⟨(gA_lt hv q).2.1, q.2.2⟩⟩
def adp (ad : Nat → Nat → Prop) (p q x y : Nat) : Prop := ad x y ∨ (x = p ∧ y = q) ∨ (x = q ∧ y = p)
theorem adp_sy {ad : Nat → Nat → Prop} {p q : Nat} (h : ∀ a b, ad a b → ad b a) (a b : Nat) (z : adp ad p q a b) : adp ad p q b a := by
  rcases z with z | ⟨z1, z2⟩ | ⟨z1, z2⟩
  · exact Or.inl (h a b z)
  · exact Or.inr (Or.inr ⟨z2, z1⟩)
  · exact Or.inr (Or.inl ⟨z2, z1⟩)
theorem adp_ne {ad : Nat → Nat → Prop} {p q : Nat} (hpq : p ≠ q) (h : ∀ a b, ad a b → a ≠ b) (a b : Nat) (z : adp ad p q a b) : a ≠ b := by
  rcases z with z | ⟨z1, z2⟩ | ⟨z1, z2⟩
  · exact h a b z
  · rw [z1, z2]; exact hpq
  · rw [z1, z2]; exact Ne.symm hpq
theorem join_sem {u : Nat → Int32} {ad : Nat → Nat → Prop} (h : WN u ad) {a b : Nat} (ha : a < 11) (hb : b < 11) : Ok (F_joinG u (nI a) (nI b)) (fun w => WN w (adp ad a b)) := by
  refine ok_mono (join_bits u ha hb) (fun w hw => ⟨fun x hx i hi => ?_, fun i j => ?_⟩)
  · rw [hw x i, h.1 x hx i hi, decide_eq_false (show ¬ i = b by omega), decide_eq_false (show ¬ i = a by omega)]
    simp
  · unfold aj adp
    rw [hw i j, ← h.2 i j]
    unfold aj
    constructor
    · rintro ⟨h1, h2, h3⟩
      simp at h3
      rcases h3 with (h3 | h3) | h3
      · exact Or.inl ⟨h1, h2, h3⟩
      · exact Or.inr (Or.inl h3)
      · exact Or.inr (Or.inr h3)
    · rintro (h3 | h3 | h3)
      · exact ⟨h3.1, h3.2.1, by rw [h3.2.2]; simp⟩
      · obtain ⟨rfl, rfl⟩ := h3
        exact ⟨ha, hb, by simp⟩
      · obtain ⟨rfl, rfl⟩ := h3
        exact ⟨hb, ha, by simp⟩
theorem canDraw_sem {le mo near : Nat → Int32} {bl cl : Int32} {dep en re hi al op : Nat → Int32} {v : Int32} (hv : LU le mo v) (hh : HI hi) : Ok (F_canDrawG le mo near bl cl dep en re hi al op v) (fun R => (PH R ∧ z01 R.1) ∧ (R.1 = 1 ↔ ZZ (gA v le mo))) :=
  ok_bind (spin_sem hv) (fun p hp => ok_bind (passes_sem bl cl dep en re hi al op p hh (hp.wb (fun a b q => (gA_lt hv q).2.2) (fun a b q => gA_sy q)) hp.1) (fun q hq => ok_some ⟨⟨hq.1.2, hq.1.1⟩, hq.2.trans (ZZ.cg hp.2)⟩))
theorem canDrawWith_sem {le mo near : Nat → Int32} {bl cl : Int32} {dep en re hi al op : Nat → Int32} {v : Int32} {a b : Nat} (ha : a < 11) (hb : b < 11) (hab : a ≠ b) (hv : LU le mo v) (hh : HI hi) : Ok (F_canDrawWithG v le mo near bl cl dep en re hi al op (nI a) (nI b)) (fun R => (PH R ∧ z01 R.1) ∧ (R.1 = 1 ↔ ZZ (adp (gA v le mo) a b))) :=
  ok_bind (spin_sem hv) (fun p hp => ok_bind (join_sem hp ha hb) (fun p2 hp2 => ok_bind (passes_sem bl cl dep en re hi al op p2 hh (hp2.wb (adp_ne hab (fun a b q => (gA_lt hv q).2.2)) (adp_sy (fun a b q => gA_sy q))) hp2.1) (fun q hq => ok_some ⟨⟨hq.1.2, hq.1.1⟩, hq.2.trans (ZZ.cg hp2.2)⟩)))
def LD_ (M : Nat) (ad : Nat → Nat → Prop) (ma mb : Nat → Int32) : Prop := ∃ A B : Nat → Nat, ED M ad A B ∧ ∀ e, e < M → ma e = nI (A e) ∧ mb e = nI (B e)
theorem ED.cg {M : Nat} {ad ad' : Nat → Nat → Prop} {A B : Nat → Nat} (h : ED M ad A B) (he : ∀ a b, ad a b ↔ ad' a b) : ED M ad' A B := ⟨h.1, fun a b => (he a b).symm.trans (h.2.1 a b), h.2.2⟩
theorem LD_.cg {M : Nat} {ad ad' : Nat → Nat → Prop} {ma mb : Nat → Int32} (h : LD_ M ad ma mb) (he : ∀ a b, ad a b ↔ ad' a b) : LD_ M ad' ma mb := by
  obtain ⟨A, B, h1, h2⟩ := h
  exact ⟨A, B, h1.cg he, h2⟩
theorem layLine_sem {M : Nat} (hM : M < 40) {ad : Nat → Nat → Prop} {ma mb : Nat → Int32} (h : LD_ M ad ma mb) {p q : Nat} (hp : p < 11) (hq : q < 11) (hpq : p ≠ q) (hn : ¬ ad p q) : Ok (F_layLineM (nI M) ma mb (nI p) (nI q)) (fun R => R.1 = nI (M + 1) ∧ LD_ (M + 1) (adp ad p q) R.2.1 R.2.2) := by
  refine ok_th (inb_nI hM (by decide)) ?_
  rw [nI_clamp (by omega), nI_add1]
  obtain ⟨A, B, hE, hm⟩ := h
  have hsy := hE.sy
  obtain ⟨e1, e2, e3⟩ := hE
  have hn2 : ¬ ad q p := fun z => hn (hsy.2 _ _ z)
  refine ok_some ⟨rfl, fun e => if e = M then p else A e, fun e => if e = M then q else B e, ⟨fun e he => ?_, fun a b => ?_, fun e f he hf => ?_⟩, fun e he => ?_⟩
  · show (if e = M then p else A e) < 11 ∧ (if e = M then q else B e) < 11 ∧ (if e = M then p else A e) ≠ (if e = M then q else B e)
    by_cases c : e = M
    · rw [if_pos c, if_pos c]; exact ⟨hp, hq, hpq⟩
    · rw [if_neg c, if_neg c]; exact e1 e (by omega)
  · show adp ad p q a b ↔ ∃ e, e < M + 1 ∧ (((if e = M then p else A e) = a ∧ (if e = M then q else B e) = b) ∨ ((if e = M then p else A e) = b ∧ (if e = M then q else B e) = a))
    constructor
    · rintro (z | ⟨z1, z2⟩ | ⟨z1, z2⟩)
      · obtain ⟨e, h1, h2⟩ := (e2 a b).mp z
        exact ⟨e, by omega, by rw [if_neg (by omega), if_neg (by omega)]; exact h2⟩
      · exact ⟨M, by omega, by rw [if_pos rfl, if_pos rfl]; exact Or.inl ⟨z1.symm, z2.symm⟩⟩
      · exact ⟨M, by omega, by rw [if_pos rfl, if_pos rfl]; exact Or.inr ⟨z2.symm, z1.symm⟩⟩
    · rintro ⟨e, h1, h2⟩
      by_cases c : e = M
      · rw [if_pos c, if_pos c] at h2
        rcases h2 with ⟨h2, h3⟩ | ⟨h2, h3⟩
        · exact Or.inr (Or.inl ⟨h2.symm, h3.symm⟩)
        · exact Or.inr (Or.inr ⟨h3.symm, h2.symm⟩)
      · rw [if_neg c, if_neg c] at h2
        exact Or.inl ((e2 a b).mpr ⟨e, by omega, h2⟩)
  · show (((if e = M then p else A e) = (if f = M then p else A f) ∧ (if e = M then q else B e) = (if f = M then q else B f)) ∨ ((if e = M then p else A e) = (if f = M then q else B f) ∧ (if e = M then q else B e) = (if f = M then p else A f))) → e = f
    have ne : ∀ g, g < M → ¬ ((A g = p ∧ B g = q) ∨ (A g = q ∧ B g = p)) := fun g hg z => hn ((e2 p q).mpr ⟨g, hg, z⟩)
    by_cases c : e = M
    · by_cases d : f = M
      · intro _; rw [c, d]
      · rw [if_pos c, if_pos c, if_neg d, if_neg d]
        intro z
        exact absurd (by rcases z with ⟨z1, z2⟩ | ⟨z1, z2⟩; exact Or.inl ⟨z1.symm, z2.symm⟩; exact Or.inr ⟨z2.symm, z1.symm⟩) (ne f (by omega))
    · by_cases d : f = M
      · rw [if_neg c, if_neg c, if_pos d, if_pos d]
        intro z
        exact absurd z (ne e (by omega))
      · rw [if_neg c, if_neg c, if_neg d, if_neg d]
        exact e3 e f (by omega) (by omega)
  · show upd ma M (nI p) e = nI (if e = M then p else A e) ∧ upd mb M (nI q) e = nI (if e = M then q else B e)
    by_cases c : e = M
    · rw [if_pos c, if_pos c, c, pk_us, pk_us]; exact ⟨rfl, rfl⟩
    · rw [if_neg c, if_neg c, pk_un c, pk_un c]; exact hm e (by omega)
def gK (v : Int32) (on ot : Nat → Int32) (k i j : Nat) : Prop := i < 11 ∧ j < 11 ∧ ∃ l, l < k ∧ bit v l = true ∧ ((on l = nI i ∧ ot l = nI j) ∨ (on l = nI j ∧ ot l = nI i))
theorem lay_L_sem {P : Int32 × (Nat → Int32) × (Nat → Int32) → Prop} {K : Int32 → (Nat → Int32) → (Nat → Int32) → Option (Int32 × (Nat → Int32) × (Nat → Int32))} {on ot : Nat → Int32} {v : Int32} (hv : LU on ot v) (hK : ∀ M ma mb, M ≤ 24 → LD_ M (gK v on ot 24) ma mb → Ok (K (nI M) ma mb) P) : ∀ (n k M : Nat) (ma mb : Nat → Int32), k + n = 24 → M ≤ k → LD_ M (gK v on ot k) ma mb → Ok (F_layM_L7 K on ot v n k (nI M) ma mb) P
  | 0, k, M, ma, mb, h1, h2, h => by
    have : k = 24 := by omega
    subst this
    rw [F_layM_L7]; exact hK M ma mb (by omega) h
  | n + 1, k, M, ma, mb, h1, h2, h => by
    rw [F_layM_L7]
    refine ok_bind (Q := fun J : Int32 × (Nat → Int32) × (Nat → Int32) => ∃ M', M' ≤ k + 1 ∧ J.1 = nI M' ∧ LD_ M' (gK v on ot (k + 1)) J.2.1 J.2.2) ?_ (fun J hJ => ?_)
    · have skip : ¬ bit v k = true → LD_ M (gK v on ot (k + 1)) ma mb := fun hb => h.cg (fun a b => by
        constructor
        · rintro ⟨q1, q2, l, q3, q4⟩
          exact ⟨q1, q2, l, by omega, q4⟩
        · rintro ⟨q1, q2, l, q3, q4⟩
          by_cases c : l = k
          · rw [c] at q4; exact absurd q4.1 hb
          · exact ⟨q1, q2, l, by omega, q4⟩)
      refine ok_if (fun hb => ?_) (fun hb => ok_some ⟨M, by omega, rfl, skip (fun q => hb ((bit1_iff (by omega)).mpr q))⟩)
      have hb : bit v k = true := (bit1_iff (by omega)).mp hb
      obtain ⟨a, b, ha, hb2, e1, e2⟩ := hv.1 k (by omega) hb
      rw [e1, e2]
      refine ok_if (fun h0 => absurd h0 (nI_nn (by omega))) (fun _ => ?_)
      refine ok_bind (layLine_sem (by omega) h (show a < 11 by omega) (show b < 11 by omega) (by omega) (fun z => ?_)) (fun p hp => ok_some ⟨M + 1, by omega, hp.1, hp.2.cg (fun x y => ?_)⟩)
      · obtain ⟨q1, q2, l, q3, q4, q5⟩ := z
        obtain ⟨a', b', k1, k2, k3, k4⟩ := hv.1 l (by omega) q4
        rcases q5 with ⟨q5, q6⟩ | ⟨q5, q6⟩
        · have := hv.2 l k (by omega) (by omega) q4 hb (by rw [q5, e1]) (by rw [q6, e2])
          omega
        · rw [k3, nI_eq_iff (by omega) (by omega)] at q5
          rw [k4, nI_eq_iff (by omega) (by omega)] at q6
          omega
      · constructor
        · rintro (z | ⟨z1, z2⟩ | ⟨z1, z2⟩)
          · obtain ⟨q1, q2, l, q3, q4⟩ := z
            exact ⟨q1, q2, l, by omega, q4⟩
          · exact ⟨by omega, by omega, k, by omega, hb, Or.inl ⟨by rw [e1, z1], by rw [e2, z2]⟩⟩
          · exact ⟨by omega, by omega, k, by omega, hb, Or.inr ⟨by rw [e1, z2], by rw [e2, z1]⟩⟩
        · rintro ⟨q1, q2, l, q3, q4, q5⟩
          by_cases c : l = k
          · subst c
            rw [e1, e2] at q5
            rcases q5 with ⟨q5, q6⟩ | ⟨q5, q6⟩ <;> rw [nI_eq_iff (by omega) (by omega)] at q5 q6
            · exact Or.inr (Or.inl ⟨q5.symm, q6.symm⟩)
            · exact Or.inr (Or.inr ⟨q6.symm, q5.symm⟩)
          · exact Or.inl ⟨q1, q2, l, by omega, q4, q5⟩
    · obtain ⟨M', q1, q2, q3⟩ := hJ
      rw [q2]
      exact lay_L_sem hv hK n (k + 1) M' _ _ (by omega) q1 q3
theorem lay_sem {on ot ma mb : Nat → Int32} {v : Int32} (hv : LU on ot v) : Ok (F_layM on ot ma mb v) (fun R => ∃ M, M ≤ 24 ∧ R.1 = nI M ∧ LD_ M (gA v on ot) R.2.1 R.2.2) :=
  lay_L_sem hv (fun M ma mb hM h => ok_some ⟨M, hM, rfl, h.cg (fun _ _ => Iff.rfl)⟩) 24 0 0 ma mb rfl (Nat.le_refl _) ⟨fun _ => 0, fun _ => 0, ⟨fun e he => absurd he (Nat.not_lt_zero _), fun a b => ⟨fun q => by obtain ⟨_, _, l, hl, _⟩ := q; exact absurd hl (Nat.not_lt_zero _), fun q => by obtain ⟨e, he, _⟩ := q; exact absurd he (Nat.not_lt_zero _)⟩, fun e f he => absurd he (Nat.not_lt_zero _)⟩, fun e he => absurd he (Nat.not_lt_zero _)⟩
theorem isDrawable_sem {on ot ma mb fr to way dep abo pile nxt ld tu : Nat → Int32} {v : Int32} (hv : LU on ot v) (h1 : FT fr to) : Ok (F_isDrawableM on ot ma mb fr to way dep abo pile nxt ld tu v) (fun R => (z01 R.1 ∧ FT R.2.2.2.2.1 R.2.2.2.2.2.1) ∧ (R.1 = 1 ↔ ZZ (gA v on ot))) :=
  ok_bind (lay_sem hv) (fun p hp => by
    obtain ⟨M, hM, e, A, B, hE, hab⟩ := hp
    rw [e]
    exact ok_bind (flat_sem (by omega) hE hab h1) (fun q hq => ok_some ⟨⟨hq.1.1, hq.1.2⟩, hq.2⟩))
theorem couldHave_sem {on ot ma mb fr to way dep abo pile nxt ld tu : Nat → Int32} {lb : Int32} (hb : F_lineBitsM on = some lb) (hv : LU on ot lb) (h1 : FT fr to) {i j : Nat} (hi : i < 11) (hj : j < 11) (hij : i ≠ j) (hn : ¬ gA lb on ot i j) : Ok (F_couldHaveM on ot ma mb fr to way dep abo pile nxt ld tu (nI i) (nI j)) (fun R => (z01 R.1 ∧ FT R.2.2.2.2.1 R.2.2.2.2.2.1) ∧ (R.1 = 1 ↔ ZZ (adp (gA lb on ot) i j))) := by
  unfold F_couldHaveM
  rw [hb, Option.bind_some]
  refine ok_bind (lay_sem hv) (fun p hp => ?_)
  obtain ⟨M, hM, e, hl⟩ := hp
  rw [e]
  refine ok_bind (layLine_sem (by omega) hl hi hj hij hn) (fun q hq => ?_)
  obtain ⟨e2, A, B, hE, hab⟩ := hq
  rw [e2]
  exact ok_bind (flat_sem (by omega) hE hab h1) (fun q hq => ok_some ⟨⟨hq.1.1, hq.1.2⟩, hq.2⟩)
