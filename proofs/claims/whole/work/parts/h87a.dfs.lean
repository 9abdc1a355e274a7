def aj (near : Nat → Int32) (a b : Nat) : Prop := a < 11 ∧ b < 11 ∧ bit (near a) b = true
def Wb (near : Nat → Int32) : Prop := (∀ a b, aj near a b → a ≠ b) ∧ ∀ a b, aj near a b → aj near b a
def Fo (ad : Nat → Nat → Prop) (V : Nat → Prop) (par D : Nat → Nat) : Prop := (∀ w, V w → w < 11 ∧ D w < 11) ∧ (∀ w, ¬ V w → D w = 0) ∧ (∀ w, 0 < D w → D (par w) + 1 = D w ∧ ad (par w) w ∧ V (par w)) ∧ ∀ u w, V u → V w → ad u w → An par D u w ∨ An par D w u
def Bl (ad : Nat → Nat → Prop) (V : Nat → Prop) (par D : Nat → Nat) (B : Nat) (T S : Nat → Nat) : Prop := (∀ n, n < B → bk ad par D (T n) (S n) ∧ V (S n)) ∧ ∀ n m, n < B → m < B → T n = T m → S n = S m → n = m
def RT (par D : Nat → Nat) (B : Nat) (T S : Nat → Nat) (w u n : Nat) : Prop := n < B ∧ D (T n) < D w ∧ ((par u = w ∧ 0 < D u ∧ An par D u (S n)) ∨ (u = T n ∧ S n = w))
def Dn (ad : Nat → Nat → Prop) (V : Nat → Prop) (par D : Nat → Nat) (B : Nat) (T S : Nat → Nat) (al op : Nat → Int32) (w : Nat) : Prop := (∀ c, ad w c → V c) ∧ (∀ t, bk ad par D t w → ∃ n, n < B ∧ T n = t ∧ S n = w) ∧ ∀ la, Cmp B al op la → ∀ u u', u ≠ u' → Cf (fun n => D (T n)) la (RT par D B T S w u) (RT par D B T S w u')
def sde (x : Nat → Nat → Nat → Nat) (par D : Nat → Nat) (T S : Nat → Nat) (n : Nat) : Nat := rt (fun u w => if u < w then 1 else 0) x (T n) (S n) (cyc par D (T n) (S n) 1) (par (T n))
def Snd (ad : Nat → Nat → Prop) (par D : Nat → Nat) (B : Nat) (T S : Nat → Nat) (al op : Nat → Int32) : Prop := ∀ x, Zx ad (fun u w => if u < w then 1 else 0) x → Cmp B al op (sde x par D T S)
def Xt (V : Nat → Prop) (par D : Nat → Nat) (B : Nat) (T S : Nat → Nat) (V' : Nat → Prop) (par' D' : Nat → Nat) (B' : Nat) (T' S' : Nat → Nat) : Prop := (∀ w, V w → V' w ∧ par' w = par w ∧ D' w = D w) ∧ B ≤ B' ∧ ∀ n, n < B → T' n = T n ∧ S' n = S n
theorem Xt.rf (V : Nat → Prop) (par D : Nat → Nat) (B : Nat) (T S : Nat → Nat) : Xt V par D B T S V par D B T S := ⟨fun _ h => ⟨h, rfl, rfl⟩, Nat.le_refl _, fun _ _ => ⟨rfl, rfl⟩⟩
theorem Xt.tr {V : Nat → Prop} {par D : Nat → Nat} {B : Nat} {T S : Nat → Nat} {V' : Nat → Prop} {par' D' : Nat → Nat} {B' : Nat} {T' S' : Nat → Nat} {V2 : Nat → Prop} {par2 D2 : Nat → Nat} {B2 : Nat} {T2 S2 : Nat → Nat} (h : Xt V par D B T S V' par' D' B' T' S') (g : Xt V' par' D' B' T' S' V2 par2 D2 B2 T2 S2) : Xt V par D B T S V2 par2 D2 B2 T2 S2 := by
  refine ⟨fun w hw => ?_, Nat.le_trans h.2.1 g.2.1, fun n hn => ?_⟩
  · obtain ⟨a1, a2, a3⟩ := h.1 w hw
    obtain ⟨b1, b2, b3⟩ := g.1 w a1
    exact ⟨b1, b2.trans a2, b3.trans a3⟩
  · obtain ⟨a1, a2⟩ := h.2.2 n hn
    obtain ⟨b1, b2⟩ := g.2.2 n (Nat.lt_of_lt_of_le hn h.2.1)
    exact ⟨b1.trans a1, b2.trans a2⟩
theorem Fo.vis {ad : Nat → Nat → Prop} {V : Nat → Prop} {par D : Nat → Nat} (h : Fo ad V par D) {w : Nat} (hw : 0 < D w) : V w := by
  apply Classical.byContradiction
  intro c
  have := h.2.1 w c
  omega
theorem Fo.fr {near : Nat → Int32} (hW : Wb near) {V : Nat → Prop} {par D : Nat → Nat} (h : Fo (aj near) V par D) : FR (aj near) par D := ⟨hW.2, fun w hw => ⟨(h.2.2.1 w hw).1, (h.2.2.1 w hw).2.1⟩⟩
theorem Fo.upV {ad : Nat → Nat → Prop} {V : Nat → Prop} {par D : Nat → Nat} (h : Fo ad V par D) {w : Nat} (hw : V w) : ∀ k, k ≤ D w → V (up par k w) ∧ D (up par k w) = D w - k
  | 0, _ => ⟨hw, by rw [up, Nat.sub_zero]⟩
  | k + 1, hk => by
    obtain ⟨h1, h2⟩ := h.upV hw k (by omega)
    obtain ⟨h3, _, h4⟩ := h.2.2.1 (up par k w) (by omega)
    rw [up]
    exact ⟨h4, by omega⟩
theorem Fo.anV {ad : Nat → Nat → Prop} {V : Nat → Prop} {par D : Nat → Nat} (h : Fo ad V par D) {u w : Nat} (hw : V w) (ha : An par D u w) : V u := by
  have := (h.upV hw (D w - D u) (by omega)).1
  rw [ha.2] at this; exact this
theorem up_ext {ad : Nat → Nat → Prop} {V : Nat → Prop} {par D : Nat → Nat} (h : Fo ad V par D) {par' : Nat → Nat} (he : ∀ w, V w → par' w = par w) {w : Nat} (hw : V w) : ∀ k, k ≤ D w → up par' k w = up par k w
  | 0, _ => rfl
  | k + 1, hk => by
    rw [up, up, up_ext h he hw k (by omega)]
    exact he _ (h.upV hw k (by omega)).1
theorem An_ext {ad : Nat → Nat → Prop} {V : Nat → Prop} {par D : Nat → Nat} (h : Fo ad V par D) {par' D' : Nat → Nat} (he : ∀ w, V w → par' w = par w ∧ D' w = D w) {u w : Nat} (hw : V w) : (An par' D' u w ↔ An par D u w) := by
  constructor
  · rintro ⟨h1, h2⟩
    rw [(he w hw).2] at h1 h2
    rw [up_ext h (fun w hw => (he w hw).1) hw _ (by omega)] at h2
    have hu := h.upV hw (D w - D' u) (by omega)
    rw [h2] at hu
    have e := (he u hu.1).2
    rw [e] at h1 h2
    exact ⟨h1, h2⟩
  · intro ha
    have hu := h.anV hw ha
    obtain ⟨h1, h2⟩ := ha
    unfold An
    rw [(he w hw).2, (he u hu).2, up_ext h (fun w hw => (he w hw).1) hw _ (by omega)]
    exact ⟨h1, h2⟩
theorem bk_ext {ad : Nat → Nat → Prop} {V : Nat → Prop} {par D : Nat → Nat} (h : Fo ad V par D) {par' D' : Nat → Nat} (he : ∀ w, V w → par' w = par w ∧ D' w = D w) {t s : Nat} (hs : V s) : (bk ad par' D' t s ↔ bk ad par D t s) := by
  constructor
  · rintro ⟨h1, h2, h3⟩
    have h4 := (An_ext h he hs).mp h2
    have ht := h.anV hs h4
    rw [(he t ht).2, (he s hs).2] at h3
    exact ⟨h1, h4, h3⟩
  · rintro ⟨h1, h2, h3⟩
    have ht := h.anV hs h2
    refine ⟨h1, (An_ext h he hs).mpr h2, ?_⟩
    rw [(he t ht).2, (he s hs).2]; exact h3
theorem sde_ext {ad : Nat → Nat → Prop} {V : Nat → Prop} {par D : Nat → Nat} (h : Fo ad V par D) {par' D' : Nat → Nat} (he : ∀ w, V w → par' w = par w ∧ D' w = D w) {T S T' S' : Nat → Nat} {n : Nat} (hT : T' n = T n) (hS : S' n = S n) (hb : bk ad par D (T n) (S n)) (hs : V (S n)) (x : Nat → Nat → Nat → Nat) : sde x par' D' T' S' n = sde x par D T S n := by
  have ht := h.anV hs hb.2.1
  unfold sde cyc
  rw [hT, hS, (he _ ht).1, (he _ ht).2, (he _ hs).2, up_ext h (fun w hw => (he w hw).1) hs _ (by omega)]
theorem Cmp.cg {B : Nat} {al op : Nat → Int32} {la la' : Nat → Nat} (h : Cmp B al op la) (hS : Str B al op) (he : ∀ n, n < B → la' n = la n) : Cmp B al op la' := by
  intro n hn m
  refine ⟨fun hm => ?_, fun hm => ?_⟩
  · rw [he n hn, he m (((hS n hn).2 m).1 hm).1]; exact (h n hn m).1 hm
  · rw [he n hn, he m (((hS n hn).2 m).2.1 hm).1]; exact (h n hn m).2 hm
theorem Snd.ext {ad : Nat → Nat → Prop} {V : Nat → Prop} {par D : Nat → Nat} (h : Fo ad V par D) {par' D' : Nat → Nat} (he : ∀ w, V w → par' w = par w ∧ D' w = D w) {B : Nat} {T S : Nat → Nat} (hB : Bl ad V par D B T S) {al op : Nat → Int32} (hS : Str B al op) (hs : Snd ad par D B T S al op) : Snd ad par' D' B T S al op := fun x hx => (hs x hx).cg hS (fun n hn => sde_ext h he rfl rfl (hB.1 n hn).1 (hB.1 n hn).2 x)
theorem Cf.mono {E E' la : Nat → Nat} {R1 R2 R1' R2' : Nat → Prop} (h : Cf E la R1 R2) (h1 : ∀ n, R1' n → R1 n ∧ E' n = E n) (h2 : ∀ n, R2' n → R2 n ∧ E' n = E n) : Cf E' la R1' R2' := by
  refine Csg.congr h (fun k hk => ?_) (fun k hk => ?_)
  · obtain ⟨a, m, b, c⟩ := hk
    rw [(h1 k a).2, (h2 m b).2] at c
    exact ⟨(h1 k a).1, m, (h2 m b).1, c⟩
  · obtain ⟨a, m, b, c⟩ := hk
    rw [(h2 k a).2, (h1 m b).2] at c
    exact ⟨(h2 k a).1, m, (h1 m b).1, c⟩
theorem Cf.none1 {E la : Nat → Nat} {R1 R2 : Nat → Prop} (h : ∀ n, ¬ R1 n) : Cf E la R1 R2 := ⟨0, fun k hk => absurd hk.1 (h k), fun k hk => by obtain ⟨_, m, b, _⟩ := hk; exact absurd b (h m)⟩
theorem RT_ext {ad : Nat → Nat → Prop} {V : Nat → Prop} {par D : Nat → Nat} {B : Nat} {T S : Nat → Nat} {V' : Nat → Prop} {par' D' : Nat → Nat} {B' : Nat} {T' S' : Nat → Nat} (h : Fo ad V par D) (hB : Bl ad V par D B T S) (hx : Xt V par D B T S V' par' D' B' T' S') {w u n : Nat} (hw : V w) (hn : n < B) : RT par' D' B' T' S' w u n ↔ RT par D B T S w u n := by
  have he : ∀ w, V w → par' w = par w ∧ D' w = D w := fun w hw => (hx.1 w hw).2
  obtain ⟨e1, e2⟩ := hx.2.2 n hn
  have hs := (hB.1 n hn).2
  have ht := h.anV hs (hB.1 n hn).1.2.1
  have hn' : n < B' := Nat.lt_of_lt_of_le hn hx.2.1
  unfold RT
  rw [e1, e2, (he _ ht).2, (he _ hw).2]
  constructor
  · rintro ⟨_, h1, h2⟩
    refine ⟨hn, h1, h2.imp (fun h3 => ?_) id⟩
    obtain ⟨a, b, c⟩ := h3
    have c' := (An_ext h he hs).mp c
    have hu := h.anV hs c'
    rw [(he u hu).1] at a
    rw [(he u hu).2] at b
    exact ⟨a, b, c'⟩
  · rintro ⟨_, h1, h2⟩
    refine ⟨hn', h1, h2.imp (fun h3 => ?_) id⟩
    obtain ⟨a, b, c⟩ := h3
    have hu := h.anV hs c
    rw [(he u hu).1, (he u hu).2]
    exact ⟨a, b, (An_ext h he hs).mpr c⟩
theorem E_ext {ad : Nat → Nat → Prop} {V : Nat → Prop} {par D : Nat → Nat} {B : Nat} {T S : Nat → Nat} {V' : Nat → Prop} {par' D' : Nat → Nat} {B' : Nat} {T' S' : Nat → Nat} (h : Fo ad V par D) (hB : Bl ad V par D B T S) (hx : Xt V par D B T S V' par' D' B' T' S') {n : Nat} (hn : n < B) : D' (T' n) = D (T n) := by
  rw [(hx.2.2 n hn).1]
  exact (hx.1 _ (h.anV (hB.1 n hn).2 (hB.1 n hn).1.2.1)).2.2
theorem Dn_ext {ad : Nat → Nat → Prop} {V : Nat → Prop} {par D : Nat → Nat} {B : Nat} {T S : Nat → Nat} {V' : Nat → Prop} {par' D' : Nat → Nat} {B' : Nat} {T' S' : Nat → Nat} (h : Fo ad V par D) (hB : Bl ad V par D B T S) (hx : Xt V par D B T S V' par' D' B' T' S') {al op al' op' : Nat → Int32} (hm : ∀ la, Cmp B' al' op' la → Cmp B al op la) {w : Nat} (hw : V w) (hd : Dn ad V par D B T S al op w) (hnew : ∀ u n, B ≤ n → ¬ RT par' D' B' T' S' w u n) : Dn ad V' par' D' B' T' S' al' op' w := by
  have he : ∀ w, V w → par' w = par w ∧ D' w = D w := fun w hw => (hx.1 w hw).2
  refine ⟨fun c hc => (hx.1 c (hd.1 c hc)).1, fun t ht => ?_, fun la hla u u' hu => ?_⟩
  · obtain ⟨n, h1, h2, h3⟩ := hd.2.1 t ((bk_ext h he hw).mp ht)
    obtain ⟨e1, e2⟩ := hx.2.2 n h1
    exact ⟨n, Nat.lt_of_lt_of_le h1 hx.2.1, e1.trans h2, e2.trans h3⟩
  · have old : ∀ v n, RT par' D' B' T' S' w v n → RT par D B T S w v n ∧ D' (T' n) = D (T n) := fun v n hr => by
      rcases Nat.lt_or_ge n B with q | q
      · exact ⟨(RT_ext h hB hx hw q).mp hr, E_ext h hB hx q⟩
      · exact absurd hr (hnew v n q)
    exact Cf.mono (hd.2.2 la (hm la hla) u u' hu) (fun n hn => old u n hn) (fun n hn => old u' n hn)
