def Eg (en : Nat → Int32) (B : Nat) (E : Nat → Nat) : Prop := ∀ d, d < 11 → ∀ n, bit (en d) n = true ↔ (n < B ∧ E n = d)
def It (E : Nat → Nat) (R : Nat → Prop) (h : Nat) : Prop := (∀ n, R n → h ≤ E n) ∧ ∃ n, R n ∧ E n = h
theorem It.lt {E : Nat → Nat} {R : Nat → Prop} {h : Nat} (hI : It E R h) (n : Nat) : h < E n ↔ ∃ m, R m ∧ E m < E n := by
  obtain ⟨h1, m, h2, h3⟩ := hI
  constructor
  · intro h4; exact ⟨m, h2, by omega⟩
  · rintro ⟨k, h4, h5⟩; have := h1 k h4; omega
def Cf (E la : Nat → Nat) (R1 R2 : Nat → Prop) : Prop := Csg la (fun n => R1 n ∧ ∃ m, R2 m ∧ E m < E n) (fun n => R2 n ∧ ∃ m, R1 m ∧ E m < E n)
theorem Cf.sw {E la : Nat → Nat} {R1 R2 : Nat → Prop} (h : Cf E la R1 R2) : Cf E la R2 R1 := Csg.sw h
theorem Cf.congr {E la : Nat → Nat} {R1 R2 R1' R2' : Nat → Prop} (h : Cf E la R1 R2) (h1 : ∀ n, R1' n → R1 n) (h2 : ∀ n, R2' n → R2 n) : Cf E la R1' R2' :=
  Csg.congr h (fun k hk => ⟨h1 k hk.1, by obtain ⟨m, a, b⟩ := hk.2; exact ⟨m, h2 m a, b⟩⟩) (fun k hk => ⟨h2 k hk.1, by obtain ⟨m, a, b⟩ := hk.2; exact ⟨m, h1 m a, b⟩⟩)
theorem high_L {en : Nat → Int32} {B : Nat} {E : Nat → Nat} (hE : Eg en B E) {f : Int32} {d : Nat} (hd : d < 11) (hf : ∀ n, bit f n = true → n < B ∧ E n < d) (hne : ∃ n, bit f n = true) : ∀ (n j : Nat), j ≤ d → d < j + n → (∀ n, bit f n = true → j ≤ E n) → ∃ r : Nat, r < d ∧ F_highestEndG_L2 (fun _ => some (nI d)) en f (nI d) n (nI j) = some (nI r) ∧ It E (fun n => bit f n = true) r
  | 0, j, h1, h2, _ => by omega
  | n + 1, j, h1, h2, h3 => by
    rw [F_highestEndG_L2]
    by_cases h : d ≤ j
    · obtain ⟨k, hk⟩ := hne
      have := hf k hk
      have := h3 k hk
      omega
    · rw [if_neg (fun h9 => h ((nLe (by omega) (by omega)).mp h9)), if_pos (inb_nI (by omega) (by decide)), nI_clamp (show j < 2 ^ 31 by omega)]
      by_cases c : f &&& en j = 0
      · rw [if_pos c, nI_add1]
        refine high_L hE hd hf hne n (j + 1) (by omega) (by omega) (fun k hk => ?_)
        have h4 := h3 k hk
        rcases Nat.lt_or_ge j (E k) with q | q
        · exact q
        · have h5 : k < 32 := by
            rcases Nat.lt_or_ge k 32 with q5 | q5
            · exact q5
            · rw [bit_ge f q5] at hk; exact absurd hk (by decide)
          exact absurd ⟨hk, (hE j (by omega) k).mpr ⟨(hf k hk).1, by omega⟩⟩ (and_ne0.mp c k h5)
      · rw [if_neg c]
        refine ⟨j, by omega, rfl, h3, ?_⟩
        apply Classical.byContradiction
        intro h9
        apply c
        rw [and_ne0]
        rintro i _ ⟨i1, i2⟩
        exact h9 ⟨i, i1, ((hE j (by omega) i).mp i2).2⟩
theorem high_spec {en : Nat → Int32} {B : Nat} {E : Nat → Nat} (hE : Eg en B E) {f : Int32} {d : Nat} (hd : d < 11) (hf : ∀ n, bit f n = true → n < B ∧ E n < d) (hne : ∃ n, bit f n = true) : ∃ r : Nat, r < d ∧ F_highestEndG en f (nI d) = some (nI r) ∧ It E (fun n => bit f n = true) r := high_L hE hd hf hne 64 0 (Nat.zero_le _) (by omega) (fun _ _ => Nat.zero_le _)
theorem bel_L {en : Nat → Int32} {B : Nat} {E : Nat → Nat} (hE : Eg en B E) {f : Int32} {r : Nat} (hr : r < 11) (hf : ∀ n, bit f n = true → n < B) : ∀ (n j : Nat) (acc : Int32), j ≤ r + 1 → r + 1 < j + n → (∀ i, bit acc i = true ↔ (bit f i = true ∧ j ≤ E i)) → ∃ g, F_endingBelowG_L5 (fun a _ => some a) en (nI r) n acc (nI j) = some g ∧ ∀ i, bit g i = true ↔ (bit f i = true ∧ r < E i)
  | 0, j, acc, h1, h2, _ => by omega
  | n + 1, j, acc, h1, h2, h3 => by
    rw [F_endingBelowG_L5]
    by_cases h : r < j
    · rw [if_pos ((nLt (by omega) (by omega)).mpr h)]
      have : j = r + 1 := by omega
      subst this
      exact ⟨acc, rfl, h3⟩
    · rw [if_neg (fun h9 => h ((nLt (by omega) (by omega)).mp h9)), if_pos (inb_nI (show j < 11 by omega) (by decide)), nI_add1, nI_clamp (show j < 2 ^ 31 by omega)]
      refine bel_L hE hr hf n (j + 1) _ (by omega) (by omega) (fun i => ?_)
      rw [bit_and]
      by_cases hi : i < 32
      · rw [bit_not hi, Bool.and_eq_true, h3 i]
        constructor
        · rintro ⟨⟨q1, q2⟩, q3⟩
          refine ⟨q1, ?_⟩
          rcases Nat.lt_or_ge j (E i) with q | q
          · exact q
          · have := (hE j (by omega) i).mpr ⟨hf i q1, by omega⟩
            rw [this] at q3; exact absurd q3 (by decide)
        · rintro ⟨q1, q2⟩
          refine ⟨⟨q1, by omega⟩, ?_⟩
          cases hb : bit (en j) i with
          | false => rfl
          | true => have := ((hE j (by omega) i).mp hb).2; omega
      · have e1 : bit f i = false := bit_ge f (by omega)
        have e2 : bit acc i = false := bit_ge acc (by omega)
        rw [e1, e2]
        exact ⟨fun q => absurd q (by simp), fun q => absurd q.1 (by decide)⟩
theorem bel_spec {en : Nat → Int32} {B : Nat} {E : Nat → Nat} (hE : Eg en B E) {f : Int32} {r : Nat} (hr : r < 11) (hf : ∀ n, bit f n = true → n < B) : ∃ g, F_endingBelowG en (nI r) f = some g ∧ ∀ i, bit g i = true ↔ (bit f i = true ∧ r < E i) := bel_L hE hr hf 64 0 f (Nat.zero_le _) (by omega) (fun i => ⟨fun h => ⟨h, Nat.zero_le _⟩, fun h => h.1⟩)
theorem part_cl {B : Nat} (hB : B ≤ 27) (al op : Nat → Int32) (v1 v2 : Int32) : Ok (F_partSidesG (nI B) 1 al op v1 v2) (fun R => R.1 = 1) := by
  unfold F_partSidesG
  obtain ⟨sd, ac, e, hs, ha⟩ := part8_eq (K := fun v3_8 v4_8 v5_8 => ((fun (j_99_91 : Int32) => (F_partSidesG_L102 (fun v5_102 wo_alike_102 wo_opposed_102 => some (j_99_91, wo_alike_102, wo_opposed_102)) (nI B) v3_8 v4_8 64 ((0 : Int32)) al op)) (if (v3_8 &&& v4_8) = 0 then ((1 : Int32)) else ((1 : Int32))))) hB (al := al) (op := op) (v1 := v1) (v2 := v2) 64 0 0 0 (Nat.zero_le _) (by omega)
  obtain ⟨x, y, e2, hx⟩ := part102_eq (K := fun _ a b => some ((if (sd &&& ac) = 0 then ((1 : Int32)) else ((1 : Int32))), a, b)) hB (s := sd) (t := ac) 64 0 al op (Nat.zero_le _) (by omega)
  refine ⟨_, e.trans e2, ?_⟩
  show (if sd &&& ac = 0 then (1 : Int32) else 1) = 1
  by_cases c : sd &&& ac = 0
  · exact if_pos c
  · exact if_neg c
theorem cmpB_L {K : Int32 → Int32 → (Nat → Int32) → (Nat → Int32) → Option (Int32 × (Nat → Int32) × (Nat → Int32) × (Nat → Int32) × (Nat → Int32))} {n d l : Nat} (hn : n ≤ 27) (hd : d < 11) (hl : l < 11) {en re hi : Nat → Int32} {f r : Int32} (hr : r ≤ 10) (hh : ∀ i, i < 121 → hi i ≤ 10) {P : Int32 × (Nat → Int32) × (Nat → Int32) × (Nat → Int32) × (Nat → Int32) → Prop} (hK : ∀ w x y, Ok (K w 1 x y) P) : ∀ (m j : Nat) (al op : Nat → Int32), j ≤ l → l < j + m → Ok (F_compareG_L17 K (nI n) en re hi f (nI d) (nI l) r m (nI j) 1 al op) P
  | 0, j, al, op, h1, h2 => by omega
  | m + 1, j, al, op, h1, h2 => by
    rw [F_compareG_L17]
    by_cases h : l ≤ j
    · rw [if_pos ((nLe (by omega) (by omega)).mpr h)]; exact hK _ _ _
    · rw [if_neg (fun h9 => h ((nLe (by omega) (by omega)).mp h9)), nI_row, if_pos (inb_nI (by omega) (by decide)), nI_clamp (by omega)]
      obtain ⟨p, e⟩ := below_tot (en := en) (v := hi (d * 11 + j)) (f := f) (hh _ (by omega))
      obtain ⟨q, e2⟩ := below_tot (en := en) (v := r) (f := re (d * 11 + j)) hr
      rw [e, Option.bind_some, e2, Option.bind_some, nI_add1]
      refine ok_if (fun _ => cmpB_L hn hd hl hr hh hK m (j + 1) _ _ (by omega) (by omega)) (fun _ => ?_)
      refine ok_bind (part_cl hn al op p q) (fun R hR => ?_)
      rw [hR]
      exact cmpB_L hn hd hl hr hh hK m (j + 1) _ _ (by omega) (by omega)
theorem cmpB {n d l : Nat} (hn : n ≤ 27) (hd : d < 11) (hl : l < 11) (en re hi al op : Nat → Int32) (f : Int32) (hh : ∀ i, i < 121 → hi i ≤ 10) : Ok (F_compareG (nI n) 1 en re hi al op f (nI d) (nI l)) (fun R => R.1 = 1 ∧ ∀ i, i < 121 → R.2.2.1 i ≤ 10) := by
  unfold F_compareG
  obtain ⟨r, hr, e⟩ := highest_tot (en := en) (f := f) hd
  have hr10 : nI r ≤ 10 := (nLe (b := 10) (by omega) (by decide)).mpr (by omega)
  rw [e, Option.bind_some, nI_row]
  refine cmpB_L hn hd hl hr10 hh (fun w x y => ?_) 64 0 al op (Nat.zero_le _) (by omega)
  refine ok_th (inb_nI (show d * 11 + l < 121 by omega) (by decide)) (ok_some ⟨rfl, fun i hi2 => ?_⟩)
  show upd hi (Int32.toNatClampNeg (nI (d * 11 + l))) (nI r) i ≤ 10
  rw [nI_clamp (by omega)]
  by_cases c : i = d * 11 + l
  · rw [c, pk_us]; exact hr10
  · rw [pk_un c]; exact hh i hi2
def CG (B : Nat) (al0 op0 : Nat → Int32) (C : (Nat → Nat) → Nat → Prop) (j : Nat) (cl : Int32) (al op : Nat → Int32) : Prop := (cl = 0 ∧ Str B al op ∧ (∀ la, Cmp B al op la → Cmp B al0 op0 la ∧ ∀ k, k < j → C la k) ∧ ∀ la, Cmp B al0 op0 la → (∀ k, k < j → C la k) → Cmp B al op la) ∨ (cl = 1 ∧ ∀ la, Cmp B al0 op0 la → ¬ ∀ k, k < j → C la k)
theorem cmp_L {K : Int32 → Int32 → (Nat → Int32) → (Nat → Int32) → Option (Int32 × (Nat → Int32) × (Nat → Int32) × (Nat → Int32) × (Nat → Int32))} {B d l : Nat} (hB : B ≤ 27) (hd : d < 11) (hl : l < 11) {en re hi : Nat → Int32} {E : Nat → Nat} (hE : Eg en B E) {f : Int32} (hf : ∀ n, bit f n = true → n < B ∧ E n < d) {r : Nat} (hr : r < d) (hI : It E (fun n => bit f n = true) r) (hh : ∀ i, i < 121 → hi i ≤ 10)
    (hit : ∀ k, k < l → (∀ n, bit (re (d * 11 + k)) n = true → n < B ∧ E n < d) ∧ ∃ h, h < d ∧ hi (d * 11 + k) = nI h ∧ It E (fun n => bit (re (d * 11 + k)) n = true) h)
    {al0 op0 : Nat → Int32} {P : Int32 × (Nat → Int32) × (Nat → Int32) × (Nat → Int32) × (Nat → Int32) → Prop} (hK : ∀ w cl x y, CG B al0 op0 (fun la k => Cf E la (fun n => bit f n = true) (fun n => bit (re (d * 11 + k)) n = true)) l cl x y → Ok (K w cl x y) P) : ∀ (m j : Nat) (cl : Int32) (al op : Nat → Int32), j ≤ l → l < j + m → CG B al0 op0 (fun la k => Cf E la (fun n => bit f n = true) (fun n => bit (re (d * 11 + k)) n = true)) j cl al op → Ok (F_compareG_L17 K (nI B) en re hi f (nI d) (nI l) (nI r) m (nI j) cl al op) P
  | 0, j, cl, al, op, h1, h2, _ => by omega
  | m + 1, j, cl, al, op, h1, h2, hG => by
    rw [F_compareG_L17]
    by_cases h : l ≤ j
    · have : j = l := by omega
      subst this
      rw [if_pos ((nLe (by omega) (by omega)).mpr h)]; exact hK _ _ _ _ hG
    · have hj : j < l := by omega
      rw [if_neg (fun h9 => h ((nLe (by omega) (by omega)).mp h9)), nI_row, if_pos (inb_nI (by omega) (by decide)), nI_clamp (by omega)]
      obtain ⟨hj1, hj2, hj3, hj4, hj5⟩ := hit j hj
      obtain ⟨p, e, hp⟩ := bel_spec hE (f := f) (r := hj2) (by omega) (fun n hn => (hf n hn).1)
      obtain ⟨q, e2, hq⟩ := bel_spec hE (f := re (d * 11 + j)) (r := r) (by omega) (fun n hn => (hj1 n hn).1)
      rw [hj4, e, Option.bind_some, e2, Option.bind_some, nI_add1]
      have cf1 : ∀ la, Cf E la (fun n => bit f n = true) (fun n => bit (re (d * 11 + j)) n = true) ↔ Csg la (fun k => bit p k = true) (fun k => bit q k = true) := by
        intro la
        constructor
        · intro hc
          exact Csg.congr hc (fun k hk => by rw [hp k, hj5.lt k] at hk; exact hk) (fun k hk => by rw [hq k, hI.lt k] at hk; exact hk)
        · intro hc
          exact Csg.congr hc (fun k hk => by rw [hp k, hj5.lt k]; exact hk) (fun k hk => by rw [hq k, hI.lt k]; exact hk)
      have stp : ∀ la, (∀ k, k < j + 1 → Cf E la (fun n => bit f n = true) (fun n => bit (re (d * 11 + k)) n = true)) ↔ ((∀ k, k < j → Cf E la (fun n => bit f n = true) (fun n => bit (re (d * 11 + k)) n = true)) ∧ Cf E la (fun n => bit f n = true) (fun n => bit (re (d * 11 + j)) n = true)) := by
        intro la
        constructor
        · intro h9; exact ⟨fun k hk => h9 k (by omega), h9 j (by omega)⟩
        · rintro ⟨a, b⟩ k hk
          by_cases c : k = j
          · rw [c]; exact b
          · exact a k (by omega)
      rcases hG with ⟨c0, hS, g1, g2⟩ | ⟨c1, g1⟩
      · subst c0
        by_cases hz : p ||| q = 0
        · rw [if_pos hz]
          refine cmp_L hB hd hl hE hf hr hI hh hit hK m (j + 1) _ _ _ (by omega) (by omega) (Or.inl ⟨rfl, hS, fun la hla => ?_, fun la hla hc => ?_⟩)
          · refine ⟨(g1 la hla).1, (stp la).mpr ⟨(g1 la hla).2, (cf1 la).mpr ⟨0, fun k hk => ?_, fun k hk => ?_⟩⟩⟩
            · have := congrArg (fun z => bit z k) hz
              simp only [bit_or, bit_zero, hk] at this
              exact absurd this (by simp)
            · have := congrArg (fun z => bit z k) hz
              simp only [bit_or, bit_zero, hk] at this
              exact absurd this (by simp)
          · exact g2 la hla ((stp la).mp hc).1
        · rw [if_neg hz]
          refine ok_bind (part_spec hB hS (fun k hk => (hf k ((hp k).mp hk).1).1) (fun k hk => (hj1 k ((hq k).mp hk).1).1) 0) (fun R hR => ?_)
          obtain ⟨hR1, hR2⟩ := hR
          refine cmp_L hB hd hl hE hf hr hI hh hit hK m (j + 1) _ _ _ (by omega) (by omega) ?_
          rcases hR1 with ⟨q1, q2, q3⟩ | ⟨q1, q2⟩
          · refine Or.inl ⟨q1, q2, fun la hla => ?_, fun la hla hc => ?_⟩
            · obtain ⟨z1, z2⟩ := q3 la hla
              exact ⟨(g1 la z1).1, (stp la).mpr ⟨(g1 la z1).2, (cf1 la).mpr z2⟩⟩
            · obtain ⟨z1, z2⟩ := (stp la).mp hc
              exact hR2 la (g2 la hla z1) ((cf1 la).mp z2)
          · refine Or.inr ⟨q1, fun la hla hc => ?_⟩
            obtain ⟨z1, z2⟩ := (stp la).mp hc
            exact q2 la (g2 la hla z1) ((cf1 la).mp z2)
      · subst c1
        refine ok_if (fun _ => ?_) (fun _ => ?_)
        · exact cmp_L hB hd hl hE hf hr hI hh hit hK m (j + 1) _ _ _ (by omega) (by omega) (Or.inr ⟨rfl, fun la hla hc => g1 la hla ((stp la).mp hc).1⟩)
        · refine ok_bind (part_cl hB al op p q) (fun R hR => ?_)
          rw [hR]
          exact cmp_L hB hd hl hE hf hr hI hh hit hK m (j + 1) _ _ _ (by omega) (by omega) (Or.inr ⟨rfl, fun la hla hc => g1 la hla ((stp la).mp hc).1⟩)
theorem comp_spec {B d l : Nat} (hB : B ≤ 27) (hd : d < 11) (hl : l < 11) {en re hi al op : Nat → Int32} {E : Nat → Nat} (hE : Eg en B E) (hS : Str B al op) {f : Int32} (hf : ∀ n, bit f n = true → n < B ∧ E n < d) (hne : ∃ n, bit f n = true) (hh : ∀ i, i < 121 → hi i ≤ 10)
    (hit : ∀ k, k < l → (∀ n, bit (re (d * 11 + k)) n = true → n < B ∧ E n < d) ∧ ∃ h, h < d ∧ hi (d * 11 + k) = nI h ∧ It E (fun n => bit (re (d * 11 + k)) n = true) h) : Ok (F_compareG (nI B) 0 en re hi al op f (nI d) (nI l)) (fun R => (R.2.1 = upd re (d * 11 + l) f ∧ ∃ h, h < d ∧ R.2.2.1 = upd hi (d * 11 + l) (nI h) ∧ It E (fun n => bit f n = true) h) ∧ CG B al op (fun la k => Cf E la (fun n => bit f n = true) (fun n => bit (re (d * 11 + k)) n = true)) l R.1 R.2.2.2.1 R.2.2.2.2) := by
  unfold F_compareG
  obtain ⟨r, hr, e, hI⟩ := high_spec hE hd hf hne
  rw [e, Option.bind_some, nI_row]
  refine cmp_L hB hd hl hE hf hr hI hh hit (al0 := al) (op0 := op) (fun w cl x y hG => ?_) 64 0 0 al op (Nat.zero_le _) (by omega) (Or.inl ⟨rfl, hS, fun la hla => ⟨hla, fun k hk => absurd hk (Nat.not_lt_zero k)⟩, fun la hla _ => hla⟩)
  rw [nI_clamp (show d * 11 + l < 2 ^ 31 by omega)]
  exact ok_th (inb_nI (show d * 11 + l < 121 by omega) (by decide)) (ok_some ⟨⟨rfl, r, hr, rfl, hI⟩, hG⟩)
