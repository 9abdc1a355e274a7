def GS (near : Nat → Int32) (V : Nat → Prop) (par D : Nat → Nat) (B : Nat) (T S : Nat → Nat) (dep en hi al op : Nat → Int32) : Prop := Fo (aj near) V par D ∧ Bl (aj near) V par D B T S ∧ B ≤ 27 ∧ Eg en B (fun n => D (T n)) ∧ (∀ w, w < 11 → (V w → dep w = nI (D w)) ∧ (¬ V w → dep w = -1)) ∧ HI hi ∧ Str B al op ∧ Snd (aj near) par D B T S al op
def Cap (near : Nat → Int32) : Prop := ∀ (B : Nat) (T S : Nat → Nat), (∀ n, n < B → aj near (T n) (S n)) → (∀ n m, n < B → m < B → n ≠ m → ¬ (T n = T m ∧ S n = S m) ∧ ¬ (T n = S m ∧ S n = T m)) → B ≤ 27
theorem Bl.cap {near : Nat → Int32} {V : Nat → Prop} {par D : Nat → Nat} {B : Nat} {T S : Nat → Nat} (hC : Cap near) (h : Bl (aj near) V par D B T S) : B ≤ 27 := by
  refine hC B T S (fun n hn => (h.1 n hn).1.1) (fun n m hn hm hne => ⟨fun e => hne (h.2 n m hn hm e.1 e.2), fun e => ?_⟩)
  have h1 := (h.1 n hn).1.2.2
  have h2 := (h.1 m hm).1.2.2
  rw [e.1, e.2] at h1
  omega
theorem WI_of {near : Nat → Int32} {V : Nat → Prop} {par D : Nat → Nat} {B : Nat} {T S : Nat → Nat} {dep en hi al op : Nat → Int32} (h : GS near V par D B T S dep en hi al op) : WI (nI B) dep hi := by
  refine ⟨⟨B, h.2.2.1, rfl⟩, fun i hi2 => ?_, h.2.2.2.2.2.1⟩
  by_cases c : V i
  · exact Or.inr ⟨D i, (h.1.1 i c).2, (h.2.2.2.2.1 i hi2).1 c⟩
  · exact Or.inl ((h.2.2.2.2.1 i hi2).2 c)
theorem deep_lt {ad : Nat → Nat → Prop} {V : Nat → Prop} {par D : Nat → Nat} (h : Fo ad V par D) {a b : Nat} (ha : V a) (hb : b < 11) (hnb : ¬ V b) : D a + 1 < 11 := by
  have := php 11 (D a + 2) (fun i => if i ≤ D a then up par i a else b) (fun i hi => by
    show (if i ≤ D a then up par i a else b) < 11
    by_cases c : i ≤ D a
    · rw [if_pos c]; exact (h.1 _ (h.upV ha i c).1).1
    · rw [if_neg c]; exact hb) (fun i j hi hj e => by
    have e : (if i ≤ D a then up par i a else b) = (if j ≤ D a then up par j a else b) := e
    by_cases c : i ≤ D a
    · by_cases c2 : j ≤ D a
      · rw [if_pos c, if_pos c2] at e
        have e1 := (h.upV ha i c).2
        have e2 := (h.upV ha j c2).2
        rw [e] at e1; omega
      · rw [if_pos c, if_neg c2] at e
        have := (h.upV ha i c).1
        rw [e] at this; exact absurd this hnb
    · by_cases c2 : j ≤ D a
      · rw [if_neg c, if_pos c2] at e
        have := (h.upV ha j c2).1
        rw [← e] at this; exact absurd this hnb
      · omega)
  omega
theorem cf_sde {near : Nat → Int32} (hW : Wb near) {V : Nat → Prop} {par D : Nat → Nat} {B : Nat} {T S : Nat → Nat} (h : Fo (aj near) V par D) (hB : Bl (aj near) V par D B T S) {x : Nat → Nat → Nat → Nat} (hx : Zx (aj near) (fun u w => if u < w then 1 else 0) x) {w u u' : Nat} (hu : u ≠ u') : Cf (fun n => D (T n)) (sde x par D T S) (RT par D B T S w u) (RT par D B T S w u') := by
  have hF := h.fr hW
  have tr : ∀ v n, RT par D B T S w v n → rtn (aj near) par D w v (T n) (S n) := fun v n hn => ⟨(hB.1 n hn.1).1, hn.2.1, hn.2.2⟩
  refine ⟨rt (fun u w => if u < w then 1 else 0) x w (par w) u u', fun n hn => ?_, fun n hn => ?_⟩
  · obtain ⟨h1, m, h2, h3⟩ := hn
    exact side_eq Tn_lt hx hF (tr u n h1) (tr u' m h2) hu h3
  · obtain ⟨h1, m, h2, h3⟩ := hn
    have e := side_eq Tn_lt hx hF (tr u' n h1) (tr u m h2) (Ne.symm hu) h3
    have s := rt_swap Tn_lt (x := x) (a := w) (u := par w) (v := u) (w := u') hu
    unfold sde
    omega
theorem GS.visit {near : Nat → Int32} (hW : Wb near) {V : Nat → Prop} {par D : Nat → Nat} {B : Nat} {T S : Nat → Nat} {dep en hi al op : Nat → Int32} (h : GS near V par D B T S dep en hi al op) {b d p : Nat} (hb : b < 11) (hnb : ¬ V b) (hd : d < 11) (hp : d = 0 ∨ (d = D p + 1 ∧ V p ∧ aj near p b)) (hdn : ∀ w, V w → aj near w b → d = D p + 1 ∧ V p ∧ An par D w p) : GS near (fun w => V w ∨ w = b) (fun w => if w = b then p else par w) (fun w => if w = b then d else D w) B T S (upd dep b (nI d)) en hi al op ∧ Xt V par D B T S (fun w => V w ∨ w = b) (fun w => if w = b then p else par w) (fun w => if w = b then d else D w) B T S := by
  obtain ⟨h1, h2, h3, h4, h5, h6, h7, h8⟩ := h
  have ne : ∀ w, V w → w ≠ b := fun w hw e => hnb (by rw [← e]; exact hw)
  have he : ∀ w, V w → (fun w => if w = b then p else par w) w = par w ∧ (fun w => if w = b then d else D w) w = D w := fun w hw => ⟨if_neg (ne w hw), if_neg (ne w hw)⟩
  have hx : Xt V par D B T S (fun w => V w ∨ w = b) (fun w => if w = b then p else par w) (fun w => if w = b then d else D w) B T S := ⟨fun w hw => ⟨Or.inl hw, he w hw⟩, Nat.le_refl _, fun _ _ => ⟨rfl, rfl⟩⟩
  have Eb : (fun w => if w = b then d else D w) b = d := if_pos rfl
  have Pb : (fun w => if w = b then p else par w) b = p := if_pos rfl
  have anb : ∀ w, V w → d = D p + 1 → V p → An par D w p → An (fun w => if w = b then p else par w) (fun w => if w = b then d else D w) w b := by
    intro w hw e hp' ha
    have ha' := (An_ext h1 he hp').mpr ha
    obtain ⟨a1, a2⟩ := ha'
    unfold An
    rw [Eb]
    have ew := (he w hw).2
    have ep := (he p hp').2
    rw [ew, ep] at a1 a2
    rw [ew]
    refine ⟨by omega, ?_⟩
    rw [show d - D w = (D p - D w) + 1 by omega, up_add, up, up, if_pos rfl]
    exact a2
  refine ⟨⟨⟨fun w hw => ?_, fun w hw => ?_, fun w hw => ?_, fun u w hu hw huw => ?_⟩, ⟨fun n hn => ?_, h2.2⟩, h3, fun d' hd' n => ?_, fun w hw => ?_, h6, h7, h8.ext h1 he h2 h7⟩, hx⟩
  · rcases hw with hw | hw
    · rw [(he w hw).2]; exact h1.1 w hw
    · subst hw
      rw [Eb]; exact ⟨hb, hd⟩
  · show (if w = b then d else D w) = 0
    rw [if_neg (fun e => hw (Or.inr e))]
    exact h1.2.1 w (fun e => hw (Or.inl e))
  · by_cases c : w = b
    · subst c
      rw [Eb] at hw
      rcases hp with hp | ⟨q1, q2, q3⟩
      · omega
      · rw [Pb, Eb, (he p q2).2]
        exact ⟨q1.symm, q3, Or.inl q2⟩
    · have hw : 0 < (if w = b then d else D w) := hw
      rw [if_neg c] at hw
      obtain ⟨q1, q2, q3⟩ := h1.2.2.1 w hw
      rw [(he w (h1.vis hw)).1, (he w (h1.vis hw)).2, (he _ q3).2]
      exact ⟨q1, q2, Or.inl q3⟩
  · rcases hu with hu | hu
    · rcases hw with hw | hw
      · rcases h1.2.2.2 u w hu hw huw with q | q
        · exact Or.inl ((An_ext h1 he hw).mpr q)
        · exact Or.inr ((An_ext h1 he hu).mpr q)
      · subst hw
        obtain ⟨q1, q2, q3⟩ := hdn u hu huw
        exact Or.inl (anb u hu q1 q2 q3)
    · subst hu
      rcases hw with hw | hw
      · obtain ⟨q1, q2, q3⟩ := hdn w hw (hW.2 _ _ huw)
        exact Or.inr (anb w hw q1 q2 q3)
      · exact absurd hw.symm (hW.1 _ _ huw)
  · exact ⟨(bk_ext h1 he (h2.1 n hn).2).mpr (h2.1 n hn).1, Or.inl (h2.1 n hn).2⟩
  · have h4n := h4 d' hd' n
    rw [h4n]
    constructor
    · rintro ⟨q1, q2⟩; exact ⟨q1, (E_ext h1 h2 hx q1).trans q2⟩
    · rintro ⟨q1, q2⟩; exact ⟨q1, (E_ext h1 h2 hx q1).symm.trans q2⟩
  · by_cases c : w = b
    · subst c
      rw [pk_us, Eb]
      exact ⟨fun _ => rfl, fun q => absurd (Or.inr rfl) q⟩
    · rw [pk_un c]
      refine ⟨fun q => ?_, fun q => (h5 w hw).2 (fun e => q (Or.inl e))⟩
      have hw' := q.resolve_right c
      rw [(he w hw').2]; exact (h5 w hw).1 hw'
theorem GS.back {near : Nat → Int32} (hW : Wb near) (hC : Cap near) {V : Nat → Prop} {par D : Nat → Nat} {B : Nat} {T S : Nat → Nat} {dep en hi al op : Nat → Int32} (h : GS near V par D B T S dep en hi al op) {a k : Nat} (hk : bk (aj near) par D k a) (ha : V a) (hnew : ∀ n, n < B → ¬ (T n = k ∧ S n = a)) : B < 27 ∧ GS near V par D (B + 1) (fun n => if n = B then k else T n) (fun n => if n = B then a else S n) dep (upd en (D k) (en (D k) ||| (1 : Int32) <<< (nI B &&& 31))) hi (upd al B ((1 : Int32) <<< (nI B &&& 31))) (upd op B 0) ∧ Xt V par D B T S V par D (B + 1) (fun n => if n = B then k else T n) (fun n => if n = B then a else S n) ∧ ∀ la, Cmp (B + 1) (upd al B ((1 : Int32) <<< (nI B &&& 31))) (upd op B 0) la → Cmp B al op la := by
  obtain ⟨h1, h2, h3, h4, h5, h6, h7, h8⟩ := h
  have hx : Xt V par D B T S V par D (B + 1) (fun n => if n = B then k else T n) (fun n => if n = B then a else S n) := ⟨fun _ q => ⟨q, rfl, rfl⟩, Nat.le_succ B, fun n hn => ⟨if_neg (by omega), if_neg (by omega)⟩⟩
  have TB : (fun n => if n = B then k else T n) B = k := if_pos rfl
  have SB : (fun n => if n = B then a else S n) B = a := if_pos rfl
  have old : ∀ n, n < B + 1 → n ≠ B → n < B ∧ (fun n => if n = B then k else T n) n = T n ∧ (fun n => if n = B then a else S n) n = S n := fun n hn hne => ⟨by omega, if_neg hne, if_neg hne⟩
  have hbl : Bl (aj near) V par D (B + 1) (fun n => if n = B then k else T n) (fun n => if n = B then a else S n) := by
    refine ⟨fun n hn => ?_, fun n m hn hm e1 e2 => ?_⟩
    · by_cases c : n = B
      · subst c; rw [TB, SB]; exact ⟨hk, ha⟩
      · obtain ⟨q1, q2, q3⟩ := old n hn c
        rw [q2, q3]; exact h2.1 n q1
    · by_cases c : n = B
      · by_cases c2 : m = B
        · rw [c, c2]
        · obtain ⟨q1, q2, q3⟩ := old m hm c2
          rw [c, TB, q2] at e1
          rw [c, SB, q3] at e2
          exact absurd ⟨e1.symm, e2.symm⟩ (hnew m q1)
      · obtain ⟨p1, p2, p3⟩ := old n hn c
        by_cases c2 : m = B
        · rw [c2, TB, p2] at e1
          rw [c2, SB, p3] at e2
          exact absurd ⟨e1, e2⟩ (hnew n p1)
        · obtain ⟨q1, q2, q3⟩ := old m hm c2
          rw [p2, q2] at e1
          rw [p3, q3] at e2
          exact h2.2 n m p1 q1 e1 e2
  have cap := hbl.cap hC
  have alo : ∀ n, n ≠ B → upd al B ((1 : Int32) <<< (nI B &&& 31)) n = al n ∧ upd op B 0 n = op n := fun n hn => ⟨pk_un hn, pk_un hn⟩
  have alB : upd al B ((1 : Int32) <<< (nI B &&& 31)) B = (1 : Int32) <<< (nI B &&& 31) ∧ upd op B 0 B = 0 := ⟨pk_us, pk_us⟩
  have bB : ∀ m, bit ((1 : Int32) <<< (nI B &&& 31)) m = true ↔ m = B := fun m => by rw [bit_shl (by omega)]; exact decide_eq_true_iff
  have mem : ∀ n, n < B → ∀ m, (bit (al n) m = true ∨ bit (op n) m = true) → m < B := fun n hn m hm => by
    rcases hm with hm | hm
    · exact (((h7 n hn).2 m).1 hm).1
    · exact (((h7 n hn).2 m).2.1 hm).1
  have hst : Str (B + 1) (upd al B ((1 : Int32) <<< (nI B &&& 31))) (upd op B 0) := by
    intro n hn
    by_cases c : n = B
    · subst c
      rw [alB.1, alB.2]
      refine ⟨(bB n).mpr rfl, fun m => ⟨fun q => ?_, fun q => ?_, fun q => ?_⟩⟩
      · have e := (bB m).mp q
        subst e
        exact ⟨by omega, alB.1, alB.2⟩
      · rw [bit_zero] at q; exact absurd q (by decide)
      · rw [bit_zero] at q; exact absurd q.2 (by decide)
    · have hn' : n < B := by omega
      rw [(alo n c).1, (alo n c).2]
      refine ⟨(h7 n hn').1, fun m => ⟨fun q => ?_, fun q => ?_, ((h7 n hn').2 m).2.2⟩⟩
      · obtain ⟨q1, q2⟩ := ((h7 n hn').2 m).1 q
        rw [(alo m (by omega)).1, (alo m (by omega)).2]
        exact ⟨by omega, q2⟩
      · obtain ⟨q1, q2⟩ := ((h7 n hn').2 m).2.1 q
        rw [(alo m (by omega)).1, (alo m (by omega)).2]
        exact ⟨by omega, q2⟩
  refine ⟨by omega, ⟨h1, hbl, cap, fun d hd n => ?_, h5, h6, hst, fun x hxx => ?_⟩, hx, fun la hla => ?_⟩
  · have hkd : D k < 11 := (h1.1 k (h1.anV ha hk.2.1)).2
    by_cases c : d = D k
    · subst c
      rw [pk_us, bit_or, Bool.or_eq_true, h4 _ hkd n, bB n]
      constructor
      · rintro (⟨q1, q2⟩ | q)
        · refine ⟨by omega, ?_⟩
          show D (if n = B then k else T n) = D k
          rw [if_neg (by omega)]; exact q2
        · refine ⟨by omega, ?_⟩
          show D (if n = B then k else T n) = D k
          rw [if_pos q]
      · rintro ⟨q1, q2⟩
        by_cases c2 : n = B
        · exact Or.inr c2
        · have q2 : D (if n = B then k else T n) = D k := q2
          rw [if_neg c2] at q2
          exact Or.inl ⟨by omega, q2⟩
    · rw [pk_un c, h4 d hd n]
      constructor
      · rintro ⟨q1, q2⟩
        refine ⟨by omega, ?_⟩
        show D (if n = B then k else T n) = d
        rw [if_neg (by omega)]; exact q2
      · rintro ⟨q1, q2⟩
        have q2 : D (if n = B then k else T n) = d := q2
        by_cases c2 : n = B
        · rw [if_pos c2] at q2; exact absurd q2.symm c
        · rw [if_neg c2] at q2
          exact ⟨by omega, q2⟩
  · have hc := h8 x hxx
    have es : ∀ n, n < B → sde x par D (fun n => if n = B then k else T n) (fun n => if n = B then a else S n) n = sde x par D T S n := fun n hn => sde_ext h1 (fun _ _ => ⟨rfl, rfl⟩) (hx.2.2 n hn).1 (hx.2.2 n hn).2 (h2.1 n hn).1 (h2.1 n hn).2 x
    intro n hn m
    by_cases c : n = B
    · subst c
      rw [alB.1, alB.2]
      refine ⟨fun q => by rw [(bB m).mp q], fun q => ?_⟩
      rw [bit_zero] at q; exact absurd q (by decide)
    · have hn' : n < B := by omega
      rw [(alo n c).1, (alo n c).2]
      refine ⟨fun q => ?_, fun q => ?_⟩
      · rw [es n hn', es m (mem n hn' m (Or.inl q))]; exact (hc n hn' m).1 q
      · rw [es n hn', es m (mem n hn' m (Or.inr q))]; exact (hc n hn' m).2 q
  · intro n hn m
    have := hla n (by omega) m
    rw [(alo n (by omega)).1, (alo n (by omega)).2] at this
    exact this
