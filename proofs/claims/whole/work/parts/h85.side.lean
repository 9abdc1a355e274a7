theorem and_sh0 {x : Int32} {j : Nat} (hj : j < 32) : (x &&& ((1 : Int32) <<< (nI j &&& 31)) = 0) ↔ bit x j = false := by
  rw [and_ne0]
  constructor
  · intro h
    cases hb : bit x j with
    | false => rfl
    | true => exact absurd ⟨hb, by rw [bit_shl hj]; exact decide_eq_true rfl⟩ (h j hj)
  · rintro h i _ ⟨h1, h2⟩
    rw [bit_shl hj] at h2
    rw [of_decide_eq_true h2, h] at h1
    exact absurd h1 (by decide)
theorem ex_step {A : Prop} {P : Nat → Prop} {j n : Nat} (h : j < n) : ((A ∨ P j) ∨ ∃ k, j + 1 ≤ k ∧ k < n ∧ P k) ↔ (A ∨ ∃ k, j ≤ k ∧ k < n ∧ P k) := by
  constructor
  · rintro ((h1 | h1) | ⟨k, h1, h2, h3⟩)
    · exact Or.inl h1
    · exact Or.inr ⟨j, Nat.le_refl _, h, h1⟩
    · exact Or.inr ⟨k, by omega, h2, h3⟩
  · rintro (h1 | ⟨k, h1, h2, h3⟩)
    · exact Or.inl (Or.inl h1)
    · by_cases c : k = j
      · subst c; exact Or.inl (Or.inr h3)
      · exact Or.inr ⟨k, by omega, h2, h3⟩
theorem ex_none {A : Prop} {P : Nat → Prop} {n : Nat} : A ↔ (A ∨ ∃ k, n ≤ k ∧ k < n ∧ P k) := by
  constructor
  · exact Or.inl
  · rintro (h1 | ⟨k, h1, h2, _⟩)
    · exact h1
    · omega
def sdP (al op : Nat → Int32) (v1 v2 : Int32) (i k : Nat) : Prop := (bit v1 k = true ∧ bit (al k) i = true) ∨ (bit v2 k = true ∧ bit (op k) i = true)
theorem part8_eq {K : Int32 → Int32 → Int32 → Option (Int32 × (Nat → Int32) × (Nat → Int32))} {n : Nat} (hn : n ≤ 27) {al op : Nat → Int32} {v1 v2 : Int32} : ∀ (m j : Nat) (a b : Int32), j ≤ n → n < j + m → ∃ r s, F_partSidesG_L8 K (nI n) al op v1 v2 m a b (nI j) = K r s (nI n) ∧ (∀ i, bit r i = true ↔ (bit a i = true ∨ ∃ k, j ≤ k ∧ k < n ∧ sdP al op v1 v2 i k)) ∧ ∀ i, bit s i = true ↔ (bit b i = true ∨ ∃ k, j ≤ k ∧ k < n ∧ sdP op al v1 v2 i k)
  | 0, j, a, b, h1, h2 => by omega
  | m + 1, j, a, b, h1, h2 => by
    rw [F_partSidesG_L8]
    by_cases h : n ≤ j
    · have hj : j = n := by omega
      subst hj
      rw [if_pos ((nLe (by omega) (by omega)).mpr h)]
      exact ⟨a, b, rfl, fun i => ex_none, fun i => ex_none⟩
    · have hj : j < n := by omega
      rw [if_neg (fun h9 => h ((nLe (by omega) (by omega)).mp h9)), if_pos (inb_nI (show j < 27 by omega) (by decide)), nI_clamp (show j < 2 ^ 31 by omega)]
      have s1 : ∃ q : Int32 × Int32, (if v1 &&& (1 : Int32) <<< (nI j &&& 31) = 0 then some (a, b) else some (a ||| al j, b ||| op j)) = some q ∧ (∀ i, bit q.1 i = true ↔ (bit a i = true ∨ (bit v1 j = true ∧ bit (al j) i = true))) ∧ ∀ i, bit q.2 i = true ↔ (bit b i = true ∨ (bit v1 j = true ∧ bit (op j) i = true)) := by
        cases c : bit v1 j with
        | false =>
          refine ⟨_, if_pos ((and_sh0 (by omega)).mpr c), fun i => ?_, fun i => ?_⟩
          · exact ⟨Or.inl, fun h => h.elim id (fun h => absurd h.1 (by decide))⟩
          · exact ⟨Or.inl, fun h => h.elim id (fun h => absurd h.1 (by decide))⟩
        | true =>
          refine ⟨_, if_neg (iff_no (and_sh0 (by omega)) c), fun i => ?_, fun i => ?_⟩
          · show bit (a ||| al j) i = true ↔ _
            rw [bit_or]; simp
          · show bit (b ||| op j) i = true ↔ _
            rw [bit_or]; simp
      obtain ⟨q, e, q1, q2⟩ := s1
      rw [e, Option.bind_some]
      have s2 : ∃ p : Int32 × Int32, (if v2 &&& (1 : Int32) <<< (nI j &&& 31) = 0 then some (q.1, q.2) else some (q.1 ||| op j, q.2 ||| al j)) = some p ∧ (∀ i, bit p.1 i = true ↔ (bit q.1 i = true ∨ (bit v2 j = true ∧ bit (op j) i = true))) ∧ ∀ i, bit p.2 i = true ↔ (bit q.2 i = true ∨ (bit v2 j = true ∧ bit (al j) i = true)) := by
        cases c : bit v2 j with
        | false =>
          refine ⟨_, if_pos ((and_sh0 (by omega)).mpr c), fun i => ?_, fun i => ?_⟩
          · exact ⟨Or.inl, fun h => h.elim id (fun h => absurd h.1 (by decide))⟩
          · exact ⟨Or.inl, fun h => h.elim id (fun h => absurd h.1 (by decide))⟩
        | true =>
          refine ⟨_, if_neg (iff_no (and_sh0 (by omega)) c), fun i => ?_, fun i => ?_⟩
          · show bit (q.1 ||| op j) i = true ↔ _
            rw [bit_or]; simp
          · show bit (q.2 ||| al j) i = true ↔ _
            rw [bit_or]; simp
      obtain ⟨p, e2, p1, p2⟩ := s2
      rw [if_pos (inb_nI (show j < 27 by omega) (by decide)), e2, Option.bind_some, nI_add1]
      obtain ⟨r, s, e3, r1, r2⟩ := part8_eq (K := K) hn (al := al) (op := op) (v1 := v1) (v2 := v2) m (j + 1) p.1 p.2 (by omega) (by omega)
      refine ⟨r, s, e3, fun i => ?_, fun i => ?_⟩
      · rw [r1 i, p1 i, q1 i, or_assoc (a := bit a i = true)]
        exact ex_step (P := fun k => sdP al op v1 v2 i k) hj
      · rw [r2 i, p2 i, q2 i, or_assoc (a := bit b i = true)]
        exact ex_step (P := fun k => sdP op al v1 v2 i k) hj
theorem part102_eq {K : Int32 → (Nat → Int32) → (Nat → Int32) → Option (Int32 × (Nat → Int32) × (Nat → Int32))} {n : Nat} (hn : n ≤ 27) {s t : Int32} : ∀ (m j : Nat) (a b : Nat → Int32), j ≤ n → n < j + m → ∃ x y, F_partSidesG_L102 K (nI n) s t m (nI j) a b = K (nI n) x y ∧ ∀ i, ((j ≤ i ∧ i < n ∧ bit s i = true) → x i = s ∧ y i = t) ∧ ((j ≤ i ∧ i < n ∧ bit s i = false ∧ bit t i = true) → x i = t ∧ y i = s) ∧ ((¬ (j ≤ i ∧ i < n) ∨ (bit s i = false ∧ bit t i = false)) → x i = a i ∧ y i = b i)
  | 0, j, a, b, h1, h2 => by omega
  | m + 1, j, a, b, h1, h2 => by
    rw [F_partSidesG_L102]
    by_cases h : n ≤ j
    · have hj : j = n := by omega
      subst hj
      rw [if_pos ((nLe (by omega) (by omega)).mpr h)]
      exact ⟨a, b, rfl, fun i => ⟨fun h9 => by omega, fun h9 => by omega, fun _ => ⟨rfl, rfl⟩⟩⟩
    · have hj : j < n := by omega
      rw [if_neg (fun h9 => h ((nLe (by omega) (by omega)).mp h9)), if_pos (inb_nI (show j < 27 by omega) (by decide)), if_pos (inb_nI (show j < 27 by omega) (by decide)), nI_clamp (show j < 2 ^ 31 by omega)]
      have s1 : ∃ q : (Nat → Int32) × (Nat → Int32), (if s &&& (1 : Int32) <<< (nI j &&& 31) = 0 then (if t &&& (1 : Int32) <<< (nI j &&& 31) = 0 then some (a, b) else some (upd a j t, upd b j s)) else some (upd a j s, upd b j t)) = some q ∧ (∀ i, i ≠ j → q.1 i = a i ∧ q.2 i = b i) ∧ (bit s j = true → q.1 j = s ∧ q.2 j = t) ∧ (bit s j = false → bit t j = true → q.1 j = t ∧ q.2 j = s) ∧ (bit s j = false → bit t j = false → q.1 j = a j ∧ q.2 j = b j) := by
        cases c : bit s j with
        | true =>
          exact ⟨_, if_neg (iff_no (and_sh0 (by omega)) c), fun i hi => ⟨pk_un hi, pk_un hi⟩, fun _ => ⟨pk_us, pk_us⟩, fun h => absurd h (by decide), fun h => absurd h (by decide)⟩
        | false =>
          rw [if_pos ((and_sh0 (by omega)).mpr c)]
          cases c2 : bit t j with
          | true => exact ⟨_, if_neg (iff_no (and_sh0 (by omega)) c2), fun i hi => ⟨pk_un hi, pk_un hi⟩, fun h => absurd h (by decide), fun _ _ => ⟨pk_us, pk_us⟩, fun _ h => absurd h (by decide)⟩
          | false => exact ⟨_, if_pos ((and_sh0 (by omega)).mpr c2), fun i _ => ⟨rfl, rfl⟩, fun h => absurd h (by decide), fun _ h => absurd h (by decide), fun _ _ => ⟨rfl, rfl⟩⟩
      obtain ⟨q, e, q1, q2, q3, q4⟩ := s1
      rw [e, Option.bind_some, nI_add1]
      obtain ⟨x, y, e2, hx⟩ := part102_eq (K := K) hn (s := s) (t := t) m (j + 1) q.1 q.2 (by omega) (by omega)
      refine ⟨x, y, e2, fun i => ?_⟩
      obtain ⟨x1, x2, x3⟩ := hx i
      by_cases c : i = j
      · subst c
        have x4 := x3 (Or.inl (by omega))
        rw [x4.1, x4.2]
        exact ⟨fun h9 => q2 h9.2.2, fun h9 => q3 h9.2.2.1 h9.2.2.2, fun h9 => by
          rcases h9 with h9 | h9
          · exact absurd ⟨Nat.le_refl _, hj⟩ h9
          · exact q4 h9.1 h9.2⟩
      · rw [(q1 i c).1, (q1 i c).2] at x3
        exact ⟨fun h9 => x1 ⟨by omega, h9.2⟩, fun h9 => x2 ⟨by omega, h9.2⟩, fun h9 => x3 (h9.imp (fun h8 h7 => h8 ⟨by omega, h7.2⟩) id)⟩
def Str (B : Nat) (al op : Nat → Int32) : Prop := ∀ n, n < B → bit (al n) n = true ∧ ∀ m, (bit (al n) m = true → m < B ∧ al m = al n ∧ op m = op n) ∧ (bit (op n) m = true → m < B ∧ al m = op n ∧ op m = al n) ∧ ¬ (bit (al n) m = true ∧ bit (op n) m = true)
def Cmp (B : Nat) (al op : Nat → Int32) (la : Nat → Nat) : Prop := ∀ n, n < B → ∀ m, (bit (al n) m = true → la m % 2 = la n % 2) ∧ (bit (op n) m = true → (la m + la n) % 2 = 1)
def Csg (la : Nat → Nat) (p q : Nat → Prop) : Prop := ∃ z, (∀ k, p k → la k % 2 = z % 2) ∧ ∀ k, q k → (la k + z) % 2 = 1
theorem Csg.congr {la : Nat → Nat} {p q p' q' : Nat → Prop} (h : Csg la p q) (h1 : ∀ k, p' k → p k) (h2 : ∀ k, q' k → q k) : Csg la p' q' := by
  obtain ⟨z, a, b⟩ := h
  exact ⟨z, fun k hk => a k (h1 k hk), fun k hk => b k (h2 k hk)⟩
theorem Csg.sw {la : Nat → Nat} {p q : Nat → Prop} (h : Csg la p q) : Csg la q p := by
  obtain ⟨z, a, b⟩ := h
  refine ⟨z + 1, fun k hk => ?_, fun k hk => ?_⟩
  · have := b k hk; omega
  · have := a k hk; omega
theorem part_spec {B : Nat} (hB : B ≤ 27) {al op : Nat → Int32} {v1 v2 : Int32} (hS : Str B al op) (h1 : ∀ k, bit v1 k = true → k < B) (h2 : ∀ k, bit v2 k = true → k < B) (cl : Int32) : Ok (F_partSidesG (nI B) cl al op v1 v2) (fun R => ((R.1 = cl ∧ Str B R.2.1 R.2.2 ∧ ∀ la, Cmp B R.2.1 R.2.2 la → Cmp B al op la ∧ Csg la (fun k => bit v1 k = true) (fun k => bit v2 k = true)) ∨ (R.1 = 1 ∧ ∀ la, Cmp B al op la → ¬ Csg la (fun k => bit v1 k = true) (fun k => bit v2 k = true))) ∧ ∀ la, Cmp B al op la → Csg la (fun k => bit v1 k = true) (fun k => bit v2 k = true) → Cmp B R.2.1 R.2.2 la) := by
  unfold F_partSidesG
  obtain ⟨sd, ac, e, hs, ha⟩ := part8_eq (K := fun v3_8 v4_8 v5_8 => ((fun (j_99_91 : Int32) => (F_partSidesG_L102 (fun v5_102 wo_alike_102 wo_opposed_102 => some (j_99_91, wo_alike_102, wo_opposed_102)) (nI B) v3_8 v4_8 64 ((0 : Int32)) al op)) (if (v3_8 &&& v4_8) = 0 then (cl) else ((1 : Int32))))) hB (al := al) (op := op) (v1 := v1) (v2 := v2) 64 0 0 0 (Nat.zero_le _) (by omega)
  obtain ⟨x, y, e2, hx⟩ := part102_eq (K := fun _ a b => some ((if (sd &&& ac) = 0 then (cl) else ((1 : Int32))), a, b)) hB (s := sd) (t := ac) 64 0 al op (Nat.zero_le _) (by omega)
  refine ⟨_, e.trans e2, ?_⟩
  show (((if sd &&& ac = 0 then cl else 1) = cl ∧ Str B x y ∧ ∀ la, Cmp B x y la → Cmp B al op la ∧ Csg la (fun k => bit v1 k = true) (fun k => bit v2 k = true)) ∨ ((if sd &&& ac = 0 then cl else 1) = 1 ∧ ∀ la, Cmp B al op la → ¬ Csg la (fun k => bit v1 k = true) (fun k => bit v2 k = true))) ∧ ∀ la, Cmp B al op la → Csg la (fun k => bit v1 k = true) (fun k => bit v2 k = true) → Cmp B x y la
  have hs' : ∀ i, bit sd i = true ↔ ∃ k, k < B ∧ sdP al op v1 v2 i k := fun i => by
    rw [hs i, bit_zero]
    exact ⟨fun h => by rcases h with h | ⟨k, _, h3, h4⟩; exact absurd h (by decide); exact ⟨k, h3, h4⟩, fun ⟨k, h3, h4⟩ => Or.inr ⟨k, Nat.zero_le _, h3, h4⟩⟩
  have ha' : ∀ i, bit ac i = true ↔ ∃ k, k < B ∧ sdP op al v1 v2 i k := fun i => by
    rw [ha i, bit_zero]
    exact ⟨fun h => by rcases h with h | ⟨k, _, h3, h4⟩; exact absurd h (by decide); exact ⟨k, h3, h4⟩, fun ⟨k, h3, h4⟩ => Or.inr ⟨k, Nat.zero_le _, h3, h4⟩⟩
  clear hs ha e e2
  have tie : ∀ la z, Cmp B al op la → (∀ k, bit v1 k = true → la k % 2 = z % 2) → (∀ k, bit v2 k = true → (la k + z) % 2 = 1) → (∀ i, bit sd i = true → la i % 2 = z % 2) ∧ ∀ i, bit ac i = true → (la i + z) % 2 = 1 := by
    intro la z hC c1 c2
    refine ⟨fun i hi => ?_, fun i hi => ?_⟩
    · obtain ⟨k, hk, h | h⟩ := (hs' i).mp hi
      · have := (hC k hk i).1 h.2; have := c1 k h.1; omega
      · have := (hC k hk i).2 h.2; have := c2 k h.1; omega
    · obtain ⟨k, hk, h | h⟩ := (ha' i).mp hi
      · have := (hC k hk i).2 h.2; have := c1 k h.1; omega
      · have := (hC k hk i).1 h.2; have := c2 k h.1; omega
  have cls : ∀ n, n < B → bit sd n = true → (∀ m, bit (al n) m = true → bit sd m = true) ∧ ∀ m, bit (op n) m = true → bit ac m = true := by
    intro n hn h
    obtain ⟨k, hk, h | h⟩ := (hs' n).mp h
    · obtain ⟨_, e1, e2⟩ := ((hS k hk).2 n).1 h.2
      exact ⟨fun m hm => (hs' m).mpr ⟨k, hk, Or.inl ⟨h.1, by rw [← e1]; exact hm⟩⟩, fun m hm => (ha' m).mpr ⟨k, hk, Or.inl ⟨h.1, by rw [← e2]; exact hm⟩⟩⟩
    · obtain ⟨_, e1, e2⟩ := ((hS k hk).2 n).2.1 h.2
      exact ⟨fun m hm => (hs' m).mpr ⟨k, hk, Or.inr ⟨h.1, by rw [← e1]; exact hm⟩⟩, fun m hm => (ha' m).mpr ⟨k, hk, Or.inr ⟨h.1, by rw [← e2]; exact hm⟩⟩⟩
  have cla : ∀ n, n < B → bit ac n = true → (∀ m, bit (al n) m = true → bit ac m = true) ∧ ∀ m, bit (op n) m = true → bit sd m = true := by
    intro n hn h
    obtain ⟨k, hk, h | h⟩ := (ha' n).mp h
    · obtain ⟨_, e1, e2⟩ := ((hS k hk).2 n).2.1 h.2
      exact ⟨fun m hm => (ha' m).mpr ⟨k, hk, Or.inl ⟨h.1, by rw [← e1]; exact hm⟩⟩, fun m hm => (hs' m).mpr ⟨k, hk, Or.inl ⟨h.1, by rw [← e2]; exact hm⟩⟩⟩
    · obtain ⟨_, e1, e2⟩ := ((hS k hk).2 n).1 h.2
      exact ⟨fun m hm => (ha' m).mpr ⟨k, hk, Or.inr ⟨h.1, by rw [← e1]; exact hm⟩⟩, fun m hm => (hs' m).mpr ⟨k, hk, Or.inr ⟨h.1, by rw [← e2]; exact hm⟩⟩⟩
  have sdB : ∀ i, bit sd i = true → i < B := fun i hi => by
    obtain ⟨k, hk, h | h⟩ := (hs' i).mp hi
    · exact (((hS k hk).2 i).1 h.2).1
    · exact (((hS k hk).2 i).2.1 h.2).1
  have acB : ∀ i, bit ac i = true → i < B := fun i hi => by
    obtain ⟨k, hk, h | h⟩ := (ha' i).mp hi
    · exact (((hS k hk).2 i).2.1 h.2).1
    · exact (((hS k hk).2 i).1 h.2).1
  have xs : ∀ i, bit sd i = true → x i = sd ∧ y i = ac := fun i hi => (hx i).1 ⟨Nat.zero_le _, sdB i hi, hi⟩
  have xa : ∀ i, bit sd i = false → bit ac i = true → x i = ac ∧ y i = sd := fun i h3 h4 => (hx i).2.1 ⟨Nat.zero_le _, acB i h4, h3, h4⟩
  have xn : ∀ i, bit sd i = false → bit ac i = false → x i = al i ∧ y i = op i := fun i h3 h4 => (hx i).2.2 (Or.inr ⟨h3, h4⟩)
  have fwd : ∀ la, Cmp B al op la → Csg la (fun k => bit v1 k = true) (fun k => bit v2 k = true) → Cmp B x y la := by
    rintro la hC ⟨z, c1, c2⟩
    obtain ⟨t1, t2⟩ := tie la z hC c1 c2
    intro n hn m
    cases hb : bit sd n with
    | true =>
      obtain ⟨e1, e2⟩ := xs n hb
      rw [e1, e2]
      have := t1 n hb
      exact ⟨fun h => by have := t1 m h; omega, fun h => by have := t2 m h; omega⟩
    | false =>
      cases hc : bit ac n with
      | true =>
        obtain ⟨e1, e2⟩ := xa n hb hc
        rw [e1, e2]
        have := t2 n hc
        exact ⟨fun h => by have := t2 m h; omega, fun h => by have := t1 m h; omega⟩
      | false =>
        obtain ⟨e1, e2⟩ := xn n hb hc
        rw [e1, e2]; exact hC n hn m
  refine ⟨?_, fwd⟩
  by_cases hd : sd &&& ac = 0
  · refine Or.inl ⟨if_pos hd, ?_, ?_⟩
    · have dj : ∀ i, bit sd i = true → bit ac i = false := fun i hi => by
        cases hc : bit ac i with
        | false => rfl
        | true => exact absurd ⟨hi, hc⟩ (and_ne0.mp hd i (by have := sdB i hi; omega))
      have dj2 : ∀ i, bit ac i = true → bit sd i = false := fun i hi => by
        cases hc : bit sd i with
        | false => rfl
        | true => rw [dj i hc] at hi; exact absurd hi (by decide)
      intro n hn
      cases hb : bit sd n with
      | true =>
        obtain ⟨e1, e2⟩ := xs n hb
        rw [e1, e2]
        refine ⟨hb, fun m => ⟨fun h => ⟨sdB m h, xs m h⟩, fun h => ⟨acB m h, xa m (dj2 m h) h⟩, fun h => ?_⟩⟩
        rw [dj m h.1] at h; exact absurd h.2 (by decide)
      | false =>
        cases hc : bit ac n with
        | true =>
          obtain ⟨e1, e2⟩ := xa n hb hc
          rw [e1, e2]
          refine ⟨hc, fun m => ⟨fun h => ⟨acB m h, xa m (dj2 m h) h⟩, fun h => ⟨sdB m h, xs m h⟩, fun h => ?_⟩⟩
          rw [dj m h.2] at h; exact absurd h.1 (by decide)
        | false =>
          obtain ⟨e1, e2⟩ := xn n hb hc
          rw [e1, e2]
          obtain ⟨g1, g2⟩ := hS n hn
          have off : ∀ m, (bit (al n) m = true ∨ bit (op n) m = true) → bit sd m = false ∧ bit ac m = false := by
            intro m hm
            have hmB : m < B := by
              rcases hm with hm | hm
              · exact ((g2 m).1 hm).1
              · exact ((g2 m).2.1 hm).1
            refine ⟨?_, ?_⟩
            · cases hq : bit sd m with
              | false => rfl
              | true =>
                obtain ⟨k1, k2⟩ := cls m hmB hq
                rcases hm with hm | hm
                · have := k1 n (by rw [((g2 m).1 hm).2.1]; exact g1)
                  rw [hb] at this; exact absurd this (by decide)
                · have := k2 n (by rw [((g2 m).2.1 hm).2.2]; exact g1)
                  rw [hc] at this; exact absurd this (by decide)
            · cases hq : bit ac m with
              | false => rfl
              | true =>
                obtain ⟨k1, k2⟩ := cla m hmB hq
                rcases hm with hm | hm
                · have := k1 n (by rw [((g2 m).1 hm).2.1]; exact g1)
                  rw [hc] at this; exact absurd this (by decide)
                · have := k2 n (by rw [((g2 m).2.1 hm).2.2]; exact g1)
                  rw [hb] at this; exact absurd this (by decide)
          refine ⟨g1, fun m => ⟨fun h => ?_, fun h => ?_, (g2 m).2.2⟩⟩
          · obtain ⟨o1, o2⟩ := off m (Or.inl h)
            obtain ⟨f1, f2⟩ := xn m o1 o2
            rw [f1, f2]; exact (g2 m).1 h
          · obtain ⟨o1, o2⟩ := off m (Or.inr h)
            obtain ⟨f1, f2⟩ := xn m o1 o2
            rw [f1, f2]; exact (g2 m).2.1 h
    · intro la hC
      have dj2 : ∀ i, bit ac i = true → bit sd i = false := fun i hi => by
        cases hc : bit sd i with
        | false => rfl
        | true => exact absurd ⟨hc, hi⟩ (and_ne0.mp hd i (by have := sdB i hc; omega))
      refine ⟨fun n hn m => ?_, ?_⟩
      · have q := hC n hn m
        cases hb : bit sd n with
        | true =>
          obtain ⟨e1, e2⟩ := xs n hb
          rw [e1, e2] at q
          obtain ⟨k1, k2⟩ := cls n hn hb
          exact ⟨fun h => q.1 (k1 m h), fun h => q.2 (k2 m h)⟩
        | false =>
          cases hc : bit ac n with
          | true =>
            obtain ⟨e1, e2⟩ := xa n hb hc
            rw [e1, e2] at q
            obtain ⟨k1, k2⟩ := cla n hn hc
            exact ⟨fun h => q.1 (k1 m h), fun h => q.2 (k2 m h)⟩
          | false =>
            obtain ⟨e1, e2⟩ := xn n hb hc
            rw [e1, e2] at q
            exact q
      · -- members of the two sets
        have in1 : ∀ k, bit v1 k = true → bit sd k = true := fun k hk => (hs' k).mpr ⟨k, h1 k hk, Or.inl ⟨hk, (hS k (h1 k hk)).1⟩⟩
        have in2 : ∀ k, bit v2 k = true → bit ac k = true := fun k hk => (ha' k).mpr ⟨k, h2 k hk, Or.inr ⟨hk, (hS k (h2 k hk)).1⟩⟩
        by_cases ne : ∃ n, bit sd n = true
        · obtain ⟨n, hn⟩ := ne
          have q := hC n (sdB n hn)
          obtain ⟨e1, e2⟩ := xs n hn
          rw [e1, e2] at q
          exact ⟨la n, fun k hk => (q k).1 (in1 k hk), fun k hk => (q k).2 (in2 k hk)⟩
        · by_cases ne2 : ∃ n, bit ac n = true
          · obtain ⟨n, hn⟩ := ne2
            have q := hC n (acB n hn)
            obtain ⟨e1, e2⟩ := xa n (dj2 n hn) hn
            rw [e1, e2] at q
            refine ⟨la n + 1, fun k hk => absurd ⟨k, in1 k hk⟩ ne, fun k hk => ?_⟩
            have := (q k).1 (in2 k hk)
            omega
          · exact ⟨0, fun k hk => absurd ⟨k, in1 k hk⟩ ne, fun k hk => absurd ⟨k, in2 k hk⟩ ne2⟩
  · refine Or.inr ⟨if_neg hd, ?_⟩
    rintro la hC ⟨z, c1, c2⟩
    obtain ⟨t1, t2⟩ := tie la z hC c1 c2
    apply hd
    rw [and_ne0]
    rintro i _ ⟨i1, i2⟩
    have := t1 i i1
    have := t2 i i2
    omega
