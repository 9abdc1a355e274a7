theorem no_K33 {ad : Nat → Nat → Prop} (h : ZZ ad) {a b c p q r : Nat} (ap : ad a p) (aq : ad a q) (ar : ad a r) (bp : ad b p) (bq : ad b q) (br : ad b r) (cp : ad c p) (cq : ad c q) (cr : ad c r) (n1 : a ≠ b) (n2 : p ≠ q) (n3 : a ≠ c) (n4 : p ≠ r) (n5 : b ≠ c) (n6 : q ≠ r) (map : a ≠ p) (maq : a ≠ q) (mar : a ≠ r) (mbp : b ≠ p) (mbq : b ≠ q) (mbr : b ≠ r) (mcp : c ≠ p) (mcq : c ≠ q) (mcr : c ≠ r) : False := by
  obtain ⟨x, hx1, hx2⟩ := h
  have tn := Tn_lt
  generalize (fun u w : Nat => if u < w then 1 else 0) = o at hx2 tn
  have e1 := hx2 a p b q ap bq n1 maq (Ne.symm mbp) n2
  have e2 := hx2 a p b r ap br n1 mar (Ne.symm mbp) n4
  have e3 := hx2 a p c q ap cq n3 maq (Ne.symm mcp) n2
  have e4 := hx2 a p c r ap cr n3 mar (Ne.symm mcp) n4
  have e5 := hx2 a q b p aq bp n1 map (Ne.symm mbq) (Ne.symm n2)
  have e6 := hx2 a q b r aq br n1 mar (Ne.symm mbq) n6
  have e7 := hx2 a q c p aq cp n3 map (Ne.symm mcq) (Ne.symm n2)
  have e8 := hx2 a q c r aq cr n3 mar (Ne.symm mcq) n6
  have e9 := hx2 a r b p ar bp n1 map (Ne.symm mbr) (Ne.symm n4)
  have e10 := hx2 a r b q ar bq n1 maq (Ne.symm mbr) (Ne.symm n6)
  have e11 := hx2 a r c p ar cp n3 map (Ne.symm mcr) (Ne.symm n4)
  have e12 := hx2 a r c q ar cq n3 maq (Ne.symm mcr) (Ne.symm n6)
  have e13 := hx2 b p c q bp cq n5 mbq (Ne.symm mcp) n2
  have e14 := hx2 b p c r bp cr n5 mbr (Ne.symm mcp) n4
  have e15 := hx2 b q c p bq cp n5 mbp (Ne.symm mcq) (Ne.symm n2)
  have e16 := hx2 b q c r bq cr n5 mbr (Ne.symm mcq) n6
  have e17 := hx2 b r c p br cp n5 mbp (Ne.symm mcr) (Ne.symm n4)
  have e18 := hx2 b r c q br cq n5 mbq (Ne.symm mcr) (Ne.symm n6)
  have t1 := tn b p mbp
  have t2 := tn b q mbq
  have t3 := tn b r mbr
  have t4 := tn p q n2
  have t5 := tn p r n4
  have t6 := tn q r n6
  clear hx1 hx2 tn
  have s0 : ((x a p b + x a p q + x b q a + x b q p + o a b + o a q + o p b + o p q) + (x a p b + x a p r + x b r a + x b r p + o a b + o a r + o p b + o p r) + (x a p c + x a p q + x c q a + x c q p + o a c + o a q + o p c + o p q)) % 2 = 0 := by omega
  have s1 : ((x a p c + x a p r + x c r a + x c r p + o a c + o a r + o p c + o p r) + (x a q b + x a q p + x b p a + x b p q + o a b + o a p + o q b + o q p) + (x a q b + x a q r + x b r a + x b r q + o a b + o a r + o q b + o q r)) % 2 = 0 := by omega
  have s2 : ((x a q c + x a q p + x c p a + x c p q + o a c + o a p + o q c + o q p) + (x a q c + x a q r + x c r a + x c r q + o a c + o a r + o q c + o q r) + (x a r b + x a r p + x b p a + x b p r + o a b + o a p + o r b + o r p)) % 2 = 0 := by omega
  have s3 : ((x a r b + x a r q + x b q a + x b q r + o a b + o a q + o r b + o r q) + (x a r c + x a r p + x c p a + x c p r + o a c + o a p + o r c + o r p) + (x a r c + x a r q + x c q a + x c q r + o a c + o a q + o r c + o r q)) % 2 = 0 := by omega
  have s4 : ((x b p c + x b p q + x c q b + x c q p + o b c + o b q + o p c + o p q) + (x b p c + x b p r + x c r b + x c r p + o b c + o b r + o p c + o p r) + (x b q c + x b q p + x c p b + x c p q + o b c + o b p + o q c + o q p)) % 2 = 0 := by omega
  have s5 : ((x b q c + x b q r + x c r b + x c r q + o b c + o b r + o q c + o q r) + (x b r c + x b r p + x c p b + x c p r + o b c + o b p + o r c + o r p) + (x b r c + x b r q + x c q b + x c q r + o b c + o b q + o r c + o r q)) % 2 = 0 := by omega
  clear e1 e2 e3 e4 e5 e6 e7 e8 e9 e10 e11 e12 e13 e14 e15 e16 e17 e18
  omega
def Rc (g : Nat → Nat → Bool) (W : Nat → Prop) (s v : Nat) : Prop := ∀ P : Nat → Prop, P s → (∀ a b, P a → W b → g a b = true → P b) → P v
def Cd (g : Nat → Nat → Bool) (W : Nat → Prop) : Prop := ∀ a b, W a → W b → Rc g W a b
theorem Rc.rf (g : Nat → Nat → Bool) (W : Nat → Prop) (s : Nat) : Rc g W s s := fun _ h _ => h
theorem Rc.st {g : Nat → Nat → Bool} {W : Nat → Prop} {s a b : Nat} (h : Rc g W s a) (hb : W b) (e : g a b = true) : Rc g W s b := fun P h1 h2 => h2 a b (h P h1 h2) hb e
theorem Rc.tr {g : Nat → Nat → Bool} {W : Nat → Prop} {s a b : Nat} (h : Rc g W s a) (k : Rc g W a b) : Rc g W s b := k (fun v => Rc g W s v) h (fun _ _ h1 h2 h3 => h1.st h2 h3)
theorem Rc.mem {g : Nat → Nat → Bool} {W : Nat → Prop} {s v : Nat} (hs : W s) (h : Rc g W s v) : W v := h W hs (fun _ _ _ h _ => h)
theorem Rc.sy {g : Nat → Nat → Bool} (hg : Gb g) {W : Nat → Prop} {s v : Nat} (hs : W s) (h : Rc g W s v) : Rc g W v s := by
  have := h (fun v => W v ∧ Rc g W v s) ⟨hs, Rc.rf _ _ _⟩ (fun a b h1 h2 h3 => ⟨h2, ((Rc.rf g W b).st h1.1 (hg.sy h3)).tr h1.2⟩)
  exact this.2
theorem Rc.mono {g g' : Nat → Nat → Bool} {W W' : Nat → Prop} {s v : Nat} (hW : ∀ a, W a → W' a) (hs : W s) (hg : ∀ a b, W a → W b → g a b = true → g' a b = true) (h : Rc g W s v) : Rc g' W' s v := by
  have := h (fun v => W v ∧ Rc g' W' s v) ⟨hs, Rc.rf _ _ _⟩ (fun a b h1 h2 h3 => ⟨h2, h1.2.st (hW b h2) (hg a b h1.1 h2 h3)⟩)
  exact this.2
theorem Rc.cl {g : Nat → Nat → Bool} (hg : Gb g) {W : Nat → Prop} {s : Nat} (hs : W s) : Cd g (fun v => Rc g W s v) := fun a b ha hb => by
  have key : ∀ v, Rc g W s v → Rc g (fun v => Rc g W s v) s v := fun v hv => (hv (fun v => Rc g W s v ∧ Rc g (fun v => Rc g W s v) s v) ⟨Rc.rf _ _ _, Rc.rf _ _ _⟩ (fun a b h1 h2 h3 => ⟨h1.1.st h2 h3, h1.2.st (h1.1.st h2 h3) h3⟩)).2
  exact (Rc.sy hg (Rc.rf g W s) (key a ha)).tr (key b hb)
theorem Cd.of {g : Nat → Nat → Bool} (hg : Gb g) {W : Nat → Prop} {c : Nat} (hc : W c) (h : ∀ v, W v → Rc g W c v) : Cd g W := fun a b ha hb => (Rc.sy hg hc (h a ha)).tr (h b hb)
def Adj (g : Nat → Nat → Bool) (A B : Nat → Prop) : Prop := ∃ a b, A a ∧ B b ∧ g a b = true
theorem Adj.sy {g : Nat → Nat → Bool} (hg : Gb g) {A B : Nat → Prop} (h : Adj g A B) : Adj g B A := by
  obtain ⟨a, b, h1, h2, h3⟩ := h
  exact ⟨b, a, h2, h1, hg.sy h3⟩
theorem Cd.nb {g : Nat → Nat → Bool} {W : Nat → Prop} (h : Cd g W) {c a : Nat} (hc : W c) (ha : W a) (hne : a ≠ c) : ∃ v, W v ∧ v ≠ c ∧ g c v = true := by
  have := h c a hc ha (fun v => v = c ∨ ∃ v, W v ∧ v ≠ c ∧ g c v = true) (Or.inl rfl) (fun a b h1 h2 h3 => by
    rcases h1 with h1 | h1
    · by_cases e : b = c
      · exact Or.inl e
      · rw [h1] at h3; exact Or.inr ⟨b, h2, e, h3⟩
    · exact Or.inr h1)
  exact this.resolve_left hne
theorem ctr_of {g : Nat → Nat → Bool} {u v a b : Nat} (e : g a b = true) (ha : a ≠ v) (hb : b ≠ v) : ctr g u v a b = true := ctr_iff.mpr (Or.inl ⟨e, ha, hb⟩)
theorem ctr_nb {g : Nat → Nat → Bool} {u v b : Nat} (hne : u ≠ v) (e : g v b = true) (hb : b ≠ u) (hbv : b ≠ v) : ctr g u v u b = true := by
  cases c : g u b
  · exact ctr_iff.mpr (Or.inr (Or.inl ⟨rfl, tt_iff.mpr ⟨e, c, hb⟩⟩))
  · exact ctr_of c hne hbv
theorem Cd.con {g : Nat → Nat → Bool} (hg : Gb g) {W : Nat → Prop} (h : Cd g W) {u v : Nat} (hu : W u) (hv : W v) (e : g u v = true) : Cd (ctr g u v) (fun a => W a ∧ a ≠ v) := by
  have hne := hg.ne e
  have hg' : Gb (ctr g u v) := hg.ctr (hg.lt e).1
  refine Cd.of hg' (c := u) ⟨hu, hne⟩ (fun b hb => ?_)
  have := h u b hu hb.1 (fun w => w = v ∨ Rc (ctr g u v) (fun a => W a ∧ a ≠ v) u w) (Or.inr (Rc.rf _ _ _)) (fun w x h1 h2 h3 => by
    by_cases ex : x = v
    · exact Or.inl ex
    · refine Or.inr ?_
      by_cases ew : w = v
      · rw [ew] at h3
        by_cases exu : x = u
        · rw [exu]; exact Rc.rf _ _ _
        · exact (Rc.rf _ _ _).st ⟨h2, ex⟩ (ctr_nb hne h3 exu ex)
      · exact (h1.resolve_left ew).st ⟨h2, ex⟩ (ctr_of h3 ew ex))
  exact this.resolve_left hb.2
theorem toB (P : Nat → Prop) : ∃ S : Nat → Bool, ∀ i, S i = true ↔ P i := ⟨fun i => @decide (P i) (Classical.propDecidable _), fun i => @decide_eq_true_iff (P i) (Classical.propDecidable _)⟩
theorem col : ∀ (n : Nat) (g : Nat → Nat → Bool) (B : Nat → Bool) (c : Nat), ns B ≤ n → (∀ a, B a = true → a < 11) → Gb g → ZZ (gd g) → B c = true → Cd g (fun a => B a = true) → ∃ g', Gb g' ∧ ZZ (gd g') ∧ (∀ a b, ¬ B a = true → ¬ B b = true → g a b = true → g' a b = true) ∧ ∀ a b, B a = true → ¬ B b = true → g a b = true → g' c b = true := by
  intro n
  induction n with
  | zero =>
    intro g B c hn hlt hg hz hc hC
    have := ns_wo (hlt c hc) hc
    omega
  | succ n ih =>
    intro g B c hn hlt hg hz hc hC
    by_cases h1 : ∃ a, B a = true ∧ a ≠ c
    · obtain ⟨a, ha, hac⟩ := h1
      obtain ⟨v, hv, hvc, e⟩ := hC.nb hc ha hac
      have hne := hg.ne e
      have hw := ns_wo (hlt v hv) hv
      obtain ⟨g', q1, q2, q3, q4⟩ := ih (ctr g c v) (wo B v) c (by omega) (fun a ha => hlt a (wo_iff.mp ha).1) (hg.ctr (hg.lt e).1) (hz.ctr hg e) (wo_iff.mpr ⟨hc, hne⟩) (by
        have := hC.con hg hc hv e
        intro a b ha hb
        exact Rc.mono (W := fun a => B a = true ∧ a ≠ v) (fun a ha => wo_iff.mpr ha) (wo_iff.mp ha) (fun _ _ _ _ q => q) (this a b (wo_iff.mp ha) (wo_iff.mp hb)))
      refine ⟨g', q1, q2, fun a b ha hb e2 => ?_, fun a b ha hb e2 => ?_⟩
      · exact q3 a b (fun q => ha (wo_iff.mp q).1) (fun q => hb (wo_iff.mp q).1) (ctr_of e2 (fun q => ha (by rw [q]; exact hv)) (fun q => hb (by rw [q]; exact hv)))
      · have hbv : b ≠ v := fun q => hb (by rw [q]; exact hv)
        have hbc : b ≠ c := fun q => hb (by rw [q]; exact hc)
        by_cases eav : a = v
        · rw [eav] at e2
          exact q4 c b (wo_iff.mpr ⟨hc, hne⟩) (fun q => hb (wo_iff.mp q).1) (ctr_nb hne e2 hbc hbv)
        · exact q4 a b (wo_iff.mpr ⟨ha, eav⟩) (fun q => hb (wo_iff.mp q).1) (ctr_of e2 eav hbv)
    · refine ⟨g, hg, hz, fun a b _ _ e => e, fun a b ha _ e => ?_⟩
      have : a = c := Classical.byContradiction (fun q => h1 ⟨a, ha, q⟩)
      rw [this] at e; exact e
theorem colP {g : Nat → Nat → Bool} (hg : Gb g) (hz : ZZ (gd g)) {B : Nat → Prop} (hlt : ∀ a, B a → a < 11) {c : Nat} (hc : B c) (hC : Cd g B) : ∃ g', Gb g' ∧ ZZ (gd g') ∧ (∀ a b, ¬ B a → ¬ B b → g a b = true → g' a b = true) ∧ ∀ a b, B a → ¬ B b → g a b = true → g' c b = true := by
  obtain ⟨S, hS⟩ := toB B
  obtain ⟨g', q1, q2, q3, q4⟩ := col (ns S) g S c (Nat.le_refl _) (fun a ha => hlt a ((hS a).mp ha)) hg hz ((hS c).mpr hc) (fun a b ha hb => Rc.mono (W := B) (fun a ha => (hS a).mpr ha) ((hS a).mp ha) (fun _ _ _ _ q => q) (hC a b ((hS a).mp ha) ((hS b).mp hb)))
  exact ⟨g', q1, q2, fun a b ha hb => q3 a b (fun q => ha ((hS a).mp q)) (fun q => hb ((hS b).mp q)), fun a b ha hb => q4 a b ((hS a).mpr ha) (fun q => hb ((hS b).mp q))⟩
