def bit (x : Int32) (i : Nat) : Bool := x.toBitVec.getLsbD i
theorem bit_ext {x y : Int32} (h : ∀ i : Nat, i < 32 → bit x i = bit y i) : x = y := by
  apply Int32.toBitVec_inj.mp
  apply BitVec.eq_of_getLsbD_eq
  intro i hi
  exact h i hi
theorem bit_or (x y : Int32) (i : Nat) : bit (x ||| y) i = (bit x i || bit y i) := by
  unfold bit; rw [Int32.toBitVec_or, BitVec.getLsbD_or]
theorem bit_and (x y : Int32) (i : Nat) : bit (x &&& y) i = (bit x i && bit y i) := by
  unfold bit; rw [Int32.toBitVec_and, BitVec.getLsbD_and]
theorem bit_xor (x y : Int32) (i : Nat) : bit (x ^^^ y) i = (bit x i ^^ bit y i) := by
  unfold bit; rw [Int32.toBitVec_xor, BitVec.getLsbD_xor]
theorem bit_ge (x : Int32) {i : Nat} (h : 32 ≤ i) : bit x i = false := BitVec.getLsbD_of_ge _ _ h
theorem bit_m1 (i : Nat) : bit (-1) i = decide (i < 32) := by
  unfold bit
  rw [show (-1 : Int32).toBitVec = BitVec.allOnes 32 by decide, BitVec.getLsbD_allOnes]
theorem bit_zero (i : Nat) : bit 0 i = false := by
  unfold bit
  rw [show (0 : Int32).toBitVec = 0#32 by decide, BitVec.getLsbD_zero]
theorem bit_not {x : Int32} {i : Nat} (h : i < 32) : bit (x ^^^ (-1)) i = !bit x i := by
  rw [bit_xor, bit_m1, decide_eq_true h, Bool.xor_true]
theorem bit_shl_ : ∀ i : Nat, i < 32 → ∀ j : Nat, j < 32 → bit ((1 : Int32) <<< (nI i &&& 31)) j = decide (j = i) := by decide +kernel
theorem bit_shl {i : Nat} (hi : i < 32) (j : Nat) : bit ((1 : Int32) <<< (nI i &&& 31)) j = decide (j = i) := by
  by_cases hj : j < 32
  · exact bit_shl_ i hi j hj
  · rw [bit_ge _ (by omega), decide_eq_false (by omega)]
theorem bit_one_ : ∀ j : Nat, j < 32 → bit 1 j = decide (j = 0) := by decide +kernel
theorem and1_iff (y : Int32) : (y &&& 1 = 0) ↔ bit y 0 = false := by
  constructor
  · intro h
    have h2 := congrArg (fun z => bit z 0) h
    simp only [bit_and] at h2
    rw [bit_one_ 0 (by decide), bit_zero] at h2
    simpa using h2
  · intro h
    apply bit_ext
    intro j hj
    rw [bit_and, bit_zero, bit_one_ j hj]
    by_cases j0 : j = 0
    · subst j0; rw [h]; rfl
    · rw [decide_eq_false j0, Bool.and_false]
theorem smod_ : ∀ i : Nat, i < 32 → ((nI i &&& 31).toBitVec.smod 32).toNat = i := by decide +kernel
theorem bit_shr0 {x : Int32} {i : Nat} (hi : i < 32) : bit (x >>> (nI i &&& 31)) 0 = bit x i := by
  unfold bit
  rw [Int32.toBitVec_shiftRight]
  show (x.toBitVec.sshiftRight ((nI i &&& 31).toBitVec.smod 32).toNat).getLsbD 0 = _
  rw [smod_ i hi, BitVec.getLsbD_sshiftRight]
  simp [hi]
theorem has_eq {x : Int32} {i : Nat} (hi : i < 32) : f_has x (nI i) = if bit x i = true then 1 else 0 := by
  unfold f_has
  by_cases h : bit x i = true
  · rw [if_pos h, if_neg]
    rw [and1_iff, bit_shr0 hi, h]; decide
  · rw [if_neg h, if_pos]
    rw [and1_iff, bit_shr0 hi]; simpa using h
theorem has0_iff {x : Int32} {i : Nat} (hi : i < 32) : f_has x (nI i) = 0 ↔ bit x i = false := by
  rw [has_eq hi]
  by_cases h : bit x i = true
  · rw [if_pos h, h]; decide
  · rw [if_neg h]; simpa using h
theorem has_no {x : Int32} {i : Nat} (hi : i < 32) (h : bit x i = true) : ¬ f_has x (nI i) = 0 := fun h9 => by
  rw [(has0_iff hi).mp h9] at h; exact absurd h (by decide)
theorem iff_no {p : Prop} {b : Bool} (h : p ↔ b = false) (hb : b = true) : ¬ p := fun q => by
  rw [h.mp q] at hb; exact absurd hb (by decide)
theorem nLt {a b : Nat} (ha : a < 2 ^ 31) (hb : b < 2 ^ 31) : nI a < nI b ↔ a < b := by
  rw [Int32.lt_iff_toInt_lt, nI_toInt ha, nI_toInt hb]; omega
theorem nLe {a b : Nat} (ha : a < 2 ^ 31) (hb : b < 2 ^ 31) : nI a ≤ nI b ↔ a ≤ b := by
  rw [Int32.le_iff_toInt_le, nI_toInt ha, nI_toInt hb]; omega
theorem nI_eq_iff {a b : Nat} (ha : a < 2 ^ 31) (hb : b < 2 ^ 31) : nI a = nI b ↔ a = b := by
  constructor
  · intro h
    have h2 := congrArg Int32.toInt h
    rw [nI_toInt ha, nI_toInt hb] at h2; omega
  · intro h; rw [h]
theorem nI_nn {a : Nat} (ha : a < 2 ^ 31) : ¬ nI a < 0 := by
  rw [Int32.lt_iff_toInt_lt, nI_toInt ha, Int32.toInt_zero]; omega
theorem nI_0le {a : Nat} (ha : a < 2 ^ 31) : (0 : Int32) ≤ nI a := by
  rw [Int32.le_iff_toInt_le, nI_toInt ha, Int32.toInt_zero]; omega
theorem nI_nm1 {a : Nat} (ha : a < 2 ^ 31) : ¬ nI a = -1 := by
  intro h
  have h2 := congrArg Int32.toInt h
  rw [nI_toInt ha, show (-1 : Int32).toInt = -1 by decide] at h2; omega
theorem nAdd (a b : Nat) : nI a + nI b = nI (a + b) := (Int32.ofNat_add a b).symm
theorem nI_add1 (a : Nat) : nI a + 1 = nI (a + 1) := (nI_succ a).symm
theorem inb_nI {a n : Nat} (h : a < n) (hn : n < 2 ^ 31) : inb (nI a) n = true := inb_iff.mpr (vp_in_nI h hn)
theorem inb_cases {p : Int32} {n : Nat} (hn : n < 2 ^ 31) (h : inb p n = true) : ∃ i, i < n ∧ p = nI i := by
  obtain ⟨j, hj, e⟩ := vp_in_of (inb_iff.mp h) hn
  exact ⟨j, hj, e⟩
theorem isNN_1_ : ∀ i : Nat, i < 10 → f_isNN (nI i) = 1 := by decide +kernel
theorem isNN_cases (p : Int32) : f_isNN p = 0 ∨ ∃ i, i < 10 ∧ p = nI i := by
  by_cases h : f_isNN p = 0
  · exact Or.inl h
  · obtain ⟨j, hj, e⟩ := vp_in_of (isNN_in h) (by decide)
    exact Or.inr ⟨j, hj, e⟩
theorem nit_eq {b : Int32} {i : Nat} (hi : i < 10) : f_nit b (nI i) = if bit b i = true then 1 else 0 := by
  unfold f_nit
  rw [isNN_1_ i hi, if_neg (by decide), has_eq (by omega)]
  by_cases h : bit b i = true
  · rw [if_pos h, if_neg (by decide)]
  · rw [if_neg h, if_pos rfl]
theorem nit_cases (b p : Int32) : (f_nit b p = 0 ∧ ∀ i : Nat, i < 10 → p = nI i → bit b i = false) ∨ ∃ i, i < 10 ∧ p = nI i ∧ bit b i = true ∧ f_nit b p = 1 := by
  rcases isNN_cases p with h | ⟨i, hi, rfl⟩
  · refine Or.inl ⟨by unfold f_nit; rw [if_pos h], fun i hi e => ?_⟩
    rw [e, isNN_1_ i hi] at h
    exact absurd h (by decide)
  · by_cases hb : bit b i = true
    · exact Or.inr ⟨i, hi, rfl, hb, by rw [nit_eq hi, if_pos hb]⟩
    · refine Or.inl ⟨by rw [nit_eq hi, if_neg hb], fun j hj e => ?_⟩
      rw [nI_eq_iff (by omega) (by omega)] at e
      rw [← e]; simpa using hb
theorem lit_in {p : Int32} (h0 : ¬ p < 0) (h1 : ¬ (24 : Int32) ≤ p) : ∃ l, l < 24 ∧ p = nI l := by
  obtain ⟨j, hj, e⟩ := vp_in_of (in_of 24 rfl (by decide) h0 h1) (by decide)
  exact ⟨j, hj, e⟩
theorem lit_24_ : ∀ l : Nat, l < 24 → ¬ nI l < 0 ∧ ¬ (24 : Int32) ≤ nI l := by decide +kernel
theorem lit_eq {b : Int32} {l : Nat} (hl : l < 24) : f_lit b (nI l) = if bit b l = true then 1 else 0 := by
  unfold f_lit
  rw [if_neg (lit_24_ l hl).1, if_neg (lit_24_ l hl).2, has_eq (by omega)]
  by_cases h : bit b l = true
  · rw [if_pos h, if_neg (by decide)]
  · rw [if_neg h, if_pos rfl]
theorem lit_cases (b p : Int32) : (f_lit b p = 0 ∧ ∀ l : Nat, l < 24 → p = nI l → bit b l = false) ∨ ∃ l, l < 24 ∧ p = nI l ∧ bit b l = true ∧ f_lit b p = 1 := by
  by_cases h0 : p < 0
  · exact Or.inl ⟨by unfold f_lit; rw [if_pos h0], fun l hl e => absurd h0 (by rw [e]; exact (lit_24_ l hl).1)⟩
  · by_cases h1 : (24 : Int32) ≤ p
    · exact Or.inl ⟨by unfold f_lit; rw [if_neg h0, if_pos h1], fun l hl e => absurd h1 (by rw [e]; exact (lit_24_ l hl).2)⟩
    · obtain ⟨l, hl, rfl⟩ := lit_in h0 h1
      by_cases hb : bit b l = true
      · exact Or.inr ⟨l, hl, rfl, hb, by rw [lit_eq hl, if_pos hb]⟩
      · refine Or.inl ⟨by rw [lit_eq hl, if_neg hb], fun j hj e => ?_⟩
        rw [nI_eq_iff (by omega) (by omega)] at e
        rw [← e]; simpa using hb
def cf (p : Nat → Bool) : Nat → Nat → Nat
  | 0, _ => 0
  | n + 1, k => (if p k = true then 1 else 0) + cf p n (k + 1)
theorem cf_congr {p q : Nat → Bool} : ∀ (n k : Nat), (∀ i, k ≤ i → i < k + n → p i = q i) → cf p n k = cf q n k
  | 0, _, _ => rfl
  | n + 1, k, h => by
    rw [cf, cf, h k (Nat.le_refl _) (by omega), cf_congr n (k + 1) (fun i h1 h2 => h i (by omega) (by omega))]
theorem cf_none {p : Nat → Bool} : ∀ (n k : Nat), (∀ i, k ≤ i → i < k + n → p i = false) → cf p n k = 0
  | 0, _, _ => rfl
  | n + 1, k, h => by
    rw [cf, h k (Nat.le_refl _) (by omega), cf_none n (k + 1) (fun i h1 h2 => h i (by omega) (by omega))]; rfl
theorem cf_add {p : Nat → Bool} : ∀ (n m k : Nat), cf p (n + m) k = cf p n k + cf p m (k + n)
  | 0, m, k => by rw [Nat.zero_add, cf, Nat.zero_add, Nat.add_zero]
  | n + 1, m, k => by
    rw [Nat.add_right_comm, cf, cf, cf_add n m (k + 1), show k + 1 + n = k + (n + 1) by omega, Nat.add_assoc]
theorem cf_le {p : Nat → Bool} : ∀ (n k : Nat), cf p n k ≤ n
  | 0, _ => Nat.le_refl _
  | n + 1, k => by
    rw [cf]
    have h := cf_le (p := p) n (k + 1)
    split <;> omega
