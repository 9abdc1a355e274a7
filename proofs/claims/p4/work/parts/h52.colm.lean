def RN (nb : Int32) (ad : Nat → Nat → Prop) (on ot : Nat → Int32) : Prop := (∀ l, l < 24 → ¬ on l < 0 → ∃ a b : Nat, a < b ∧ b < 10 ∧ on l = nI a ∧ ot l = nI b) ∧ (∀ j i, j < i → i < 10 → (ad j i ↔ ∃ l, l < 24 ∧ ¬ on l < 0 ∧ on l = nI j ∧ ot l = nI i)) ∧ (∀ i j, ad i j → bit nb i = true ∧ bit nb j = true)
theorem fits_L {K : Int32 → Option Int32} {on ot num : Nat → Int32} (ho : ∀ l, l < 24 → ¬ on l < 0 → ∃ a b : Nat, a < b ∧ b < 10 ∧ on l = nI a ∧ ot l = nI b) {i : Nat} (hi : i < 10) : ∀ (n k : Nat) (v : Int32), k + n = 24 → z01 v → ∃ r, F_fitsM_L4 K on ot num (nI i) n k v = K r ∧ z01 r ∧ (r = 1 ↔ v = 1 ∧ ∀ l, k ≤ l → l < 24 → ¬ on l < 0 → ot l = nI i → ∀ a : Nat, a < 10 → on l = nI a → num a ≠ num i)
  | 0, k, v, hk, hv => ⟨v, by rw [F_fitsM_L4], hv, ⟨fun h => ⟨h, fun l h1 h2 => by omega⟩, fun h => h.1⟩⟩
  | n + 1, k, v, hk, hv => by
    have go : ∀ v', z01 v' → (v' = 1 ↔ v = 1 ∧ (¬ on k < 0 → ot k = nI i → ∀ a : Nat, a < 10 → on k = nI a → num a ≠ num i)) → ∃ r, F_fitsM_L4 K on ot num (nI i) n (k + 1) v' = K r ∧ z01 r ∧ (r = 1 ↔ v = 1 ∧ ∀ l, k ≤ l → l < 24 → ¬ on l < 0 → ot l = nI i → ∀ a : Nat, a < 10 → on l = nI a → num a ≠ num i) := by
      intro v' hv' hq
      obtain ⟨r, e, hz, hr⟩ := fits_L (K := K) (num := num) ho hi n (k + 1) v' (by omega) hv'
      refine ⟨r, e, hz, ?_⟩
      rw [hr, hq]
      constructor
      · rintro ⟨⟨h1, h2⟩, h3⟩
        refine ⟨h1, fun l q1 q2 => ?_⟩
        by_cases c : l = k
        · rw [c]; exact h2
        · exact h3 l (by omega) q2
      · rintro ⟨h1, h2⟩
        exact ⟨⟨h1, h2 k (Nat.le_refl _) (by omega)⟩, fun l q1 q2 => h2 l (by omega) q2⟩
    rw [F_fitsM_L4]
    by_cases h0 : on k < 0
    · rw [if_pos h0]
      rcases hv with rfl | rfl
      · exact go 0 (Or.inl rfl) ⟨fun h => absurd h (by decide), fun h => absurd h.1 (by decide)⟩
      · exact go 1 (Or.inr rfl) ⟨fun _ => ⟨rfl, fun h => absurd h0 h⟩, fun _ => rfl⟩
    · rw [if_neg h0]
      obtain ⟨a, b, hab, hb, e1, e2⟩ := ho k (by omega) h0
      by_cases h1 : ot k = nI i
      · rw [if_pos h1]
        rcases hv with rfl | rfl
        · exact go 0 (Or.inl rfl) ⟨fun h => absurd h (by decide), fun h => absurd h.1 (by decide)⟩
        · show ∃ r, (if (1 : Int32) = 0 then _ else _ : Option Int32).bind _ = K r ∧ _
          rw [if_neg (by decide), if_neg (by decide), e1, if_pos (inb_nI (show a < 10 by omega) (by decide)), if_pos (inb_nI hi (by decide)), nI_clamp (by omega), nI_clamp (by omega)]
          have key : ∀ a' : Nat, a' < 10 → on k = nI a' → a' = a := fun a' h h2 => by
            rw [e1, nI_eq_iff (by omega) (by omega)] at h2; exact h2.symm
          by_cases h2 : num a = num i
          · rw [if_pos h2]
            exact go 0 (Or.inl rfl) ⟨fun h => absurd h (by decide), fun h => absurd h2 (h.2 h0 h1 a (by omega) e1)⟩
          · rw [if_neg h2]
            exact go 1 (Or.inr rfl) ⟨fun _ => ⟨rfl, fun _ _ a' h3 h4 => by rw [key a' h3 h4]; exact h2⟩, fun _ => rfl⟩
      · rw [if_neg h1]
        rcases hv with rfl | rfl
        · exact go 0 (Or.inl rfl) ⟨fun h => absurd h (by decide), fun h => absurd h.1 (by decide)⟩
        · exact go 1 (Or.inr rfl) ⟨fun _ => ⟨rfl, fun _ h => absurd h h1⟩, fun _ => rfl⟩
theorem fits_eq {nb : Int32} {ad : Nat → Nat → Prop} {on ot num : Nat → Int32} (hR : RN nb ad on ot) {i : Nat} (hi : i < 10) : ∃ r, F_fitsM on ot num (nI i) = some r ∧ z01 r ∧ (r = 1 ↔ ∀ j, j < i → ad j i → num j ≠ num i) := by
  unfold F_fitsM
  obtain ⟨r, e, hz, hr⟩ := fits_L (K := fun v2_4 => (if is01 v2_4 = true then some (v2_4) else none)) (num := num) hR.1 hi 24 0 1 rfl (Or.inr rfl)
  refine ⟨r, by rw [e, if_pos (is01_of hz)], hz, ?_⟩
  rw [hr]
  constructor
  · rintro ⟨_, h⟩ j hj ha
    obtain ⟨l, h1, h2, h3, h4⟩ := (hR.2.1 j i hj hi).mp ha
    exact h l (Nat.zero_le _) h1 h2 h4 j (by omega) h3
  · intro h
    refine ⟨rfl, fun l _ h1 h2 h3 a ha h4 => ?_⟩
    obtain ⟨a', b', q1, q2, q3, q4⟩ := hR.1 l h1 h2
    rw [h4, nI_eq_iff (by omega) (by omega)] at q3
    rw [h3, nI_eq_iff (by omega) (by omega)] at q4
    exact h a (by omega) ((hR.2.1 a i (by omega) hi).mpr ⟨l, h1, h2, h4, h3⟩)
def RW (nb : Int32) (row : Nat → Int32) (n : Nat) (r : Nat → Nat) (k : Nat) : Prop := n ≤ k ∧ (∀ j, j < n → r j < k ∧ bit nb (r j) = true ∧ row j = nI (r j)) ∧ (∀ i j, i < j → j < n → r i < r j) ∧ ∀ i, i < k → bit nb i = true → ∃ j, j < n ∧ r j = i
theorem row_L {T : Type} {K : Int32 → (Nat → Int32) → (Nat → Int32) → Option (Int32 × (Nat → Int32) × (Nat → Int32))} {P : (Int32 × (Nat → Int32) × (Nat → Int32)) → Prop} {nb : Int32} {mt : Nat → Int32} (hm : ∀ i, i < 10 → mt i = if bit nb i = true then 1 else 0) (hK : ∀ n r num row, RW nb row n r 10 → (∀ i, i < 10 → num i = -1) → Ok (K (nI n) num row) P) : ∀ (m k n : Nat) (r : Nat → Nat) (num row : Nat → Int32), k + m = 10 → RW nb row n r k → (∀ i, i < k → num i = -1) → Ok (F_canColourM_L4 K mt m k (nI n) num row) P
  | 0, k, n, r, num, row, hk, h1, h2 => by
    rw [F_canColourM_L4]
    have : k = 10 := by omega
    subst this
    exact hK n r num row h1 h2
  | m + 1, k, n, r, num, row, hk, h1, h2 => by
    rw [F_canColourM_L4]
    have hn := h1.1
    refine ok_th (inb_nI (by omega) (by decide)) ?_
    rw [nI_clamp (by omega), hm k (by omega)]
    have hnum : ∀ i, i < k + 1 → upd num k (-1) i = -1 := fun i hi => by
      by_cases c : i = k
      · rw [c, pk_us]
      · rw [pk_un c]; exact h2 i (by omega)
    cases hb : bit nb k with
    | false =>
      rw [if_neg (by decide : ¬ false = true), if_pos rfl]
      refine row_L (T := T) hm hK m (k + 1) n r _ _ (by omega) ⟨by omega, fun j hj => ?_, h1.2.2.1, fun i hi hbi => ?_⟩ hnum
      · obtain ⟨q1, q2, q3⟩ := h1.2.1 j hj
        exact ⟨by omega, q2, by rw [pk_un (by omega)]; exact q3⟩
      · have : i ≠ k := fun e => by rw [e, hb] at hbi; exact absurd hbi (by decide)
        exact h1.2.2.2 i (by omega) hbi
    | true =>
      rw [if_pos rfl, if_neg (by decide), nI_add1]
      refine row_L (T := T) hm hK m (k + 1) (n + 1) (fun j => if j = n then k else r j) _ _ (by omega) ⟨by omega, fun j hj => ?_, fun i j hij hj => ?_, fun i hi hbi => ?_⟩ hnum
      · show (if j = n then k else r j) < k + 1 ∧ bit nb (if j = n then k else r j) = true ∧ upd row n (nI k) j = nI (if j = n then k else r j)
        by_cases c : j = n
        · rw [if_pos c, c, pk_us]; exact ⟨by omega, hb, rfl⟩
        · rw [if_neg c, pk_un c]
          obtain ⟨q1, q2, q3⟩ := h1.2.1 j (by omega)
          exact ⟨by omega, q2, q3⟩
      · show (if i = n then k else r i) < (if j = n then k else r j)
        rw [if_neg (by omega)]
        by_cases c : j = n
        · rw [if_pos c]; exact (h1.2.1 i (by omega)).1
        · rw [if_neg c]; exact h1.2.2.1 i j hij (by omega)
      · by_cases c : i = k
        · exact ⟨n, by omega, by show (if n = n then k else r n) = i; rw [if_pos rfl, c]⟩
        · obtain ⟨j, q1, q2⟩ := h1.2.2.2 i (by omega) hbi
          exact ⟨j, by omega, by show (if j = n then k else r j) = i; rw [if_neg (by omega)]; exact q2⟩
def tS (C : Nat) : Nat → Nat
  | 0 => 0
  | m + 1 => 1 + C * tS C m
theorem tS_le : ∀ (C : Nat), C ≤ 10 → ∀ m, tS C m ≤ tS 10 m
  | C, h, 0 => Nat.le_refl _
  | C, h, m + 1 => by
    rw [tS, tS]
    have := Nat.mul_le_mul h (tS_le C h m)
    omega
theorem tS_mono : ∀ (m k : Nat), m ≤ k → tS 10 m ≤ tS 10 k
  | 0, k, _ => Nat.zero_le _
  | m + 1, 0, h => by omega
  | m + 1, k + 1, h => by
    rw [tS, tS]
    have := Nat.mul_le_mul (Nat.le_refl 10) (tS_mono m k (by omega))
    omega
theorem V_le {C n : Nat} {w : Nat → Nat} : ∀ (k d : Nat), k ≤ n → d ≤ C → (∀ j, j < k → w j < C) → su (fun j => w j * tS C (n - j) + 1) k + d * tS C (n - k) ≤ C * tS C n
  | 0, d, _, hd, _ => by
    rw [su, Nat.sub_zero, Nat.zero_add]
    exact Nat.mul_le_mul hd (Nat.le_refl _)
  | k + 1, d, hk, hd, hw => by
    have ih := V_le k (w k + 1) (by omega) (hw k (Nat.lt_succ_self k)) (fun j hj => hw j (by omega)) (C := C) (n := n) (w := w)
    rw [su]
    have e : tS C (n - k) = 1 + C * tS C (n - (k + 1)) := by
      rw [show n - k = (n - (k + 1)) + 1 by omega, tS]
    have h1 : d * tS C (n - (k + 1)) ≤ C * tS C (n - (k + 1)) := Nat.mul_le_mul hd (Nat.le_refl _)
    rw [Nat.add_mul, Nat.one_mul] at ih
    omega
def GE (nb : Int32) (ad : Nat → Nat → Prop) (C : Nat) (r c : Nat → Nat) (k d : Nat) : Prop := ∀ s, OKc nb ad C s 10 → (∃ j, j < k ∧ (∀ i, i < j → s (r i) = c (r i)) ∧ c (r j) < s (r j)) ∨ ((∀ i, i < k → s (r i) = c (r i)) ∧ d ≤ s (r k))
theorem inner2_L {nb : Int32} {ad : Nat → Nat → Prop} {on ot : Nat → Int32} (hR : RN nb ad on ot) {C : Nat} (hC : C ≤ 10) {row : Nat → Int32} {k : Nat} {rk : Nat} (hrk : rk < 10) (hrow : row k = nI rk) (hk : k < 2 ^ 31) {K : (Nat → Int32) → Option (Int32 × (Nat → Int32) × (Nat → Int32))} {P : Int32 × (Nat → Int32) × (Nat → Int32) → Prop} {num0 : Nat → Int32} {d : Nat}
    (hK : ∀ e, d ≤ e → e ≤ C → (∀ x, d ≤ x → x < e → ∃ j, j < rk ∧ ad j rk ∧ num0 j = nI x) → (e < C → ∀ j, j < rk → ad j rk → num0 j ≠ nI e) → Ok (K (upd num0 rk (nI e))) P) : ∀ (f e : Nat), d ≤ e → e ≤ C → C < e + f → (∀ x, d ≤ x → x < e → ∃ j, j < rk ∧ ad j rk ∧ num0 j = nI x) → Ok (F_canColourM_L77 K on ot (nI C) row (nI k) f (upd num0 rk (nI e))) P
  | 0, e, h1, h2, h3, h4 => by omega
  | f + 1, e, h1, h2, h3, h4 => by
    rw [F_canColourM_L77, nI_clamp hk, hrow, nI_clamp (by omega), pk_us]
    by_cases c : C ≤ e
    · rw [if_pos ((nLe (by omega) (by omega)).mpr c)]
      exact hK e h1 h2 h4 (fun h9 => by omega)
    · rw [if_neg (fun h9 => c ((nLe (by omega) (by omega)).mp h9))]
      obtain ⟨r, er, hz, hr⟩ := fits_eq (num := upd num0 rk (nI e)) hR hrk
      rw [er, Option.bind_some]
      rcases hz with rfl | rfl
      · rw [if_pos rfl, nI_add1]
        have hbad : ∃ j, j < rk ∧ ad j rk ∧ num0 j = nI e := by
          apply Classical.byContradiction
          intro h9
          have : (0 : Int32) = 1 := hr.mpr (fun j hj ha h8 => h9 ⟨j, hj, ha, by rw [pk_us, pk_un (by omega)] at h8; exact h8⟩)
          exact absurd this (by decide)
        have eu : upd (upd num0 rk (nI e)) rk (nI (e + 1)) = upd num0 rk (nI (e + 1)) := by
          funext j
          by_cases c9 : j = rk
          · rw [c9, pk_us, pk_us]
          · rw [pk_un c9, pk_un c9, pk_un c9]
        rw [eu]
        refine inner2_L hR hC hrk hrow hk hK f (e + 1) (by omega) (by omega) (by omega) (fun x q1 q2 => ?_)
        by_cases c9 : x = e
        · rw [c9]; exact hbad
        · exact h4 x q1 (by omega)
      · rw [if_neg (by decide)]
        refine hK e h1 h2 h4 (fun _ j hj ha h8 => ?_)
        exact hr.mp rfl j hj ha (by rw [pk_us, pk_un (by omega)]; exact h8)
def CI (nb : Int32) (ad : Nat → Nat → Prop) (C n : Nat) (r : Nat → Nat) (num : Nat → Int32) (k d : Nat) (c : Nat → Nat) : Prop := k ≤ n ∧ (∀ j, j < k → num (r j) = nI (c (r j)) ∧ c (r j) < C) ∧ (∀ j, j < k → ∀ i, i < j → ad (r i) (r j) → c (r i) ≠ c (r j)) ∧ (k < n → num (r k) + 1 = nI d ∧ d ≤ C) ∧ (∀ j, k < j → j < n → num (r j) = -1) ∧ GE nb ad C r c k d
theorem row_lt {nb : Int32} {row : Nat → Int32} {n : Nat} {r : Nat → Nat} (h : RW nb row n r 10) {a b : Nat} (ha : a < n) (hb : b < n) (hlt : r a < r b) : a < b := by
  rcases Nat.lt_trichotomy a b with q | q | q
  · exact q
  · rw [q] at hlt; omega
  · have := h.2.2.1 b a q ha; omega
def CR (nb : Int32) (ad : Nat → Nat → Prop) (C : Nat) (R : Int32 × (Nat → Int32) × (Nat → Int32)) : Prop := (R.1 = 1 ∧ ∃ c, LM nb ad C c ∧ ∀ j, j < 10 → bit nb j = true → R.2.1 j = nI (c j)) ∨ (R.1 = 0 ∧ ∀ s, ¬ OKc nb ad C s 10)
theorem col_end {nb : Int32} {ad : Nat → Nat → Prop} (had : ∀ i j, ad i j → bit nb i = true ∧ bit nb j = true) {C n : Nat} {r : Nat → Nat} {row num : Nat → Int32} (hrw : RW nb row n r 10) {d : Nat} {c : Nat → Nat} (h : CI nb ad C n r num n d c) : LM nb ad C c ∧ ∀ j, j < 10 → bit nb j = true → num j = nI (c j) := by
  obtain ⟨_, h1, h2, _, _, h5⟩ := h
  refine ⟨⟨fun i hi hb => ?_, fun s hs => ?_⟩, fun j hj hb => ?_⟩
  · obtain ⟨b, hbn, rfl⟩ := hrw.2.2.2 i hi hb
    refine ⟨(h1 b hbn).2, fun j hj hbj ha => ?_⟩
    obtain ⟨a, han, rfl⟩ := hrw.2.2.2 j (by omega) hbj
    exact h2 b hbn a (row_lt hrw han hbn hj) ha
  · rcases h5 s hs with ⟨j, q1, q2, q3⟩ | ⟨q1, _⟩
    · refine Or.inr ⟨r j, (hrw.2.1 j q1).1, (hrw.2.1 j q1).2.1, fun i hi hb => ?_, q3⟩
      obtain ⟨a, han, rfl⟩ := hrw.2.2.2 i (by have := (hrw.2.1 j q1).1; omega) hb
      exact q2 a (row_lt hrw han q1 hi)
    · refine Or.inl (fun i hi hb => ?_)
      obtain ⟨a, han, rfl⟩ := hrw.2.2.2 i hi hb
      exact q1 a han
  · obtain ⟨a, han, rfl⟩ := hrw.2.2.2 j hj hb
    exact (h1 a han).1
theorem not_there {nb : Int32} {ad : Nat → Nat → Prop} (had : ∀ i j, ad i j → bit nb i = true ∧ bit nb j = true) {C n : Nat} {r : Nat → Nat} {row num : Nat → Int32} (hC : C ≤ 10) (hrw : RW nb row n r 10) {k d : Nat} {c : Nat → Nat} (h : CI nb ad C n r num k d c) (hk : k < n) {s : Nat → Nat} (hs : OKc nb ad C s 10) (hag : ∀ i, i < k → s (r i) = c (r i)) (hbad : ∃ j, j < r k ∧ ad j (r k) ∧ num j = nI (s (r k))) : False := by
  obtain ⟨j, q1, q2, q3⟩ := hbad
  obtain ⟨hrk, hbk, _⟩ := hrw.2.1 k hk
  obtain ⟨a, han, rfl⟩ := hrw.2.2.2 j (by omega) (had _ _ q2).1
  have hak := row_lt hrw han hk q1
  have hca := h.2.1 a hak
  have hsk := (hs (r k) hrk hbk)
  rw [hca.1, nI_eq_iff (by omega) (by omega)] at q3
  exact hsk.2 (r a) q1 (had _ _ q2).1 q2 (by rw [hag a hak, q3])
theorem col_L {nb : Int32} {ad : Nat → Nat → Prop} {on ot : Nat → Int32} (hR : RN nb ad on ot) {C : Nat} (hC : C ≤ 10) {n : Nat} {r : Nat → Nat} {row : Nat → Int32} (hrw : RW nb row n r 10) : ∀ (f k d : Nat) (num : Nat → Int32) (c : Nat → Nat), CI nb ad C n r num k d c → (k = n → d = 0) → 2 * (C * tS C n) + k + 1 < 2 * (su (fun j => c (r j) * tS C (n - j) + 1) k + d * tS C (n - k)) + f → Ok (F_canColourM_L49 (fun v3_49 wm_numbers_49 => (if v3_49 = nI n then some ((1 : Int32), wm_numbers_49, row) else some ((0 : Int32), wm_numbers_49, row))) on ot (nI C) (nI n) row f (nI k) num) (CR nb ad C) := by
  intro f
  induction f with
  | zero =>
    intro k d num c h hkn hf
    exfalso
    have hdC : d ≤ C := by
      by_cases e : k < n
      · exact (h.2.2.2.1 e).2
      · rw [hkn (by have := h.1; omega)]; exact Nat.zero_le _
    have := V_le (C := C) (n := n) (w := fun j => c (r j)) k d h.1 hdC (fun j hj => (h.2.1 j hj).2)
    omega
  | succ f ih =>
    intro k d num c h hkn hf
    have hn10 := hrw.1
    have hkn2 := h.1
    have hfc : 11 ≤ fuelC := by unfold fuelC; decide
    rw [F_canColourM_L49, if_neg (nI_nn (by omega))]
    by_cases hk : k < n
    · obtain ⟨hrk, hbk, hrowk⟩ := hrw.2.1 k hk
      obtain ⟨hnum, hdC⟩ := h.2.2.2.1 hk
      have hne : ∀ j, j < n → j ≠ k → r j ≠ r k := fun j hj hjk e => by
        rcases Nat.lt_trichotomy j k with q | q | q
        · have := hrw.2.2.1 j k q hk; omega
        · exact hjk q
        · have := hrw.2.2.1 k j q hj; omega
      rw [if_neg (fun h9 => by rw [nLe (by omega) (by omega)] at h9; omega), if_pos (inb_nI (by omega) (by decide)), nI_clamp (by omega), hrowk, if_pos (inb_nI hrk (by decide)), nI_clamp (by omega), hnum]
      refine inner2_L hR hC hrk hrowk (by omega) (d := d) (fun e he heC hbad hfit => ?_) fuelC d (Nat.le_refl _) hdC (by omega) (fun x q1 q2 => by omega)
      show Ok (if nI C ≤ upd num (r k) (nI e) (r k) then _ else _) _
      rw [pk_us]
      by_cases hlt : e < C
      · -- it fits: on to the next
        rw [if_neg (fun h9 => by rw [nLe (by omega) (by omega)] at h9; omega), nI_add1]
        have hc' : ∀ j, j < n → j ≠ k → (fun i => if i = r k then e else c i) (r j) = c (r j) := fun j hj hjk => if_neg (hne j hj hjk)
        have hck : (fun i => if i = r k then e else c i) (r k) = e := if_pos rfl
        refine ih (k + 1) 0 _ (fun i => if i = r k then e else c i) ⟨by omega, fun j hj => ?_, fun j hj i hij ha => ?_, fun hk1 => ?_, fun j h1 h2 => ?_, fun s hs => ?_⟩ (fun _ => rfl) ?_
        · by_cases q : j = k
          · subst q; rw [pk_us, hck]; exact ⟨rfl, hlt⟩
          · rw [pk_un (hne j (by omega) q), hc' j (by omega) q]; exact h.2.1 j (by omega)
        · by_cases q : j = k
          · subst q
            rw [hck, hc' i (by omega) (by omega)]
            intro h9
            have hi := h.2.1 i hij
            exact hfit hlt (r i) (hrw.2.2.1 i j hij hk) ha (by rw [hi.1, h9])
          · rw [hc' j (by omega) q, hc' i (by omega) (by omega)]; exact h.2.2.1 j (by omega) i hij ha
        · rw [pk_un (hne (k + 1) hk1 (by omega)), h.2.2.2.2.1 (k + 1) (by omega) hk1]
          exact ⟨by decide, Nat.zero_le _⟩
        · rw [pk_un (hne j h2 (by omega))]; exact h.2.2.2.2.1 j (by omega) h2
        · rcases h.2.2.2.2.2 s hs with ⟨j, q1, q2, q3⟩ | ⟨q1, q2⟩
          · refine Or.inl ⟨j, by omega, fun i hi => ?_, ?_⟩
            · rw [hc' i (by omega) (by omega)]; exact q2 i hi
            · rw [hc' j (by omega) (by omega)]; exact q3
          · have hes : e ≤ s (r k) := by
              apply Classical.byContradiction
              intro h9
              exact not_there hR.2.2 hC hrw h hk hs q1 (hbad (s (r k)) q2 (by omega))
            by_cases heq : s (r k) = e
            · refine Or.inr ⟨fun i hi => ?_, Nat.zero_le _⟩
              by_cases q : i = k
              · subst q; rw [hck]; exact heq
              · rw [hc' i (by omega) q]; exact q1 i (by omega)
            · refine Or.inl ⟨k, by omega, fun i hi => ?_, by rw [hck]; omega⟩
              rw [hc' i (by omega) (by omega)]; exact q1 i hi
        · have e1 : su (fun j => (fun i => if i = r k then e else c i) (r j) * tS C (n - j) + 1) k = su (fun j => c (r j) * tS C (n - j) + 1) k := su_congr k (fun j hj => by
            show (fun i => if i = r k then e else c i) (r j) * tS C (n - j) + 1 = _
            rw [hc' j (by omega) (by omega)])
          show 2 * (C * tS C n) + (k + 1) + 1 < 2 * ((su (fun j => (fun i => if i = r k then e else c i) (r j) * tS C (n - j) + 1) k + ((fun i => if i = r k then e else c i) (r k) * tS C (n - k) + 1)) + 0 * tS C (n - (k + 1))) + f
          rw [e1, hck, Nat.zero_mul]
          have := Nat.mul_le_mul he (Nat.le_refl (tS C (n - k)))
          omega
      · -- nothing fits: back
        have heC2 : e = C := by omega
        subst heC2
        rw [if_pos ((nLe (by omega) (by omega)).mpr (Nat.le_refl _))]
        have eu : upd (upd num (r k) (nI e)) (r k) (-1) = upd num (r k) (-1) := by
          funext j
          by_cases q : j = r k
          · rw [q, pk_us, pk_us]
          · rw [pk_un q, pk_un q, pk_un q]
        rw [eu]
        have hno : ∀ s, OKc nb ad e s 10 → ∃ j, j < k ∧ (∀ i, i < j → s (r i) = c (r i)) ∧ c (r j) < s (r j) := fun s hs => by
          rcases h.2.2.2.2.2 s hs with q | ⟨q1, q2⟩
          · exact q
          · exact (not_there hR.2.2 hC hrw h hk hs q1 (hbad (s (r k)) q2 (hs (r k) hrk hbk).1)).elim
        cases k with
        | zero =>
          cases f with
          | zero =>
            exfalso
            have := V_le (C := e) (n := n) (w := fun j => c (r j)) 0 d (Nat.zero_le _) hdC (fun j hj => absurd hj (Nat.not_lt_zero _))
            omega
          | succ f =>
            rw [show nI 0 + (-1) = (-1 : Int32) by decide, F_canColourM_L49, if_pos (by decide), if_neg (fun h9 => nI_nm1 (show n < 2 ^ 31 by omega) h9.symm)]
            refine ok_some (Or.inr ⟨rfl, fun s hs => ?_⟩)
            obtain ⟨j, q1, _⟩ := hno s hs
            exact absurd q1 (Nat.not_lt_zero _)
        | succ k =>
          rw [nI_dec]
          have hk1 := h.2.1 k (by omega)
          refine ih k (c (r k) + 1) _ c ⟨by omega, fun j hj => ?_, fun j hj i hij ha => h.2.2.1 j (by omega) i hij ha, fun _ => ?_, fun j h1 h2 => ?_, fun s hs => ?_⟩ (fun h9 => by omega) ?_
          · rw [pk_un (hne j (by omega) (by omega))]; exact h.2.1 j (by omega)
          · rw [pk_un (hne k (by omega) (by omega)), hk1.1, nI_add1]; exact ⟨rfl, hk1.2⟩
          · by_cases q : j = k + 1
            · rw [q, pk_us]
            · rw [pk_un (hne j h2 q)]; exact h.2.2.2.2.1 j (by omega) h2
          · obtain ⟨j, q1, q2, q3⟩ := hno s hs
            by_cases q : j = k
            · subst q; exact Or.inr ⟨q2, q3⟩
            · exact Or.inl ⟨j, by omega, q2, q3⟩
          · have e1 : tS e (n - k) = 1 + e * tS e (n - (k + 1)) := by
              rw [show n - k = (n - (k + 1)) + 1 by omega, tS]
            have e2 : d * tS e (n - (k + 1)) ≤ e * tS e (n - (k + 1)) := Nat.mul_le_mul hdC (Nat.le_refl _)
            have hf : 2 * (e * tS e n) + (k + 1) + 1 < 2 * ((su (fun j => c (r j) * tS e (n - j) + 1) k + (c (r k) * tS e (n - k) + 1)) + d * tS e (n - (k + 1))) + (f + 1) := hf
            rw [Nat.add_mul, Nat.one_mul]
            omega
    · have hkn3 : k = n := by omega
      subst hkn3
      rw [if_pos ((nLe (by omega) (by omega)).mpr (Nat.le_refl _)), if_pos rfl]
      obtain ⟨h1, h2⟩ := col_end hR.2.2 hrw h
      exact ok_some (Or.inl ⟨rfl, c, h1, h2⟩)
theorem col_spec {nb : Int32} {ad : Nat → Nat → Prop} {mt on ot : Nat → Int32} (hm : ∀ i, i < 10 → mt i = if bit nb i = true then 1 else 0) (hR : RN nb ad on ot) {C : Nat} (hC : C ≤ 10) (num row : Nat → Int32) : Ok (F_canColourM mt on ot num row (nI C)) (CR nb ad C) := by
  refine row_L (T := Unit) hm (fun n r num row hrw hnum => ?_) 10 0 0 (fun _ => 0) num row rfl ⟨Nat.le_refl _, fun j hj => absurd hj (Nat.not_lt_zero _), fun i j _ hj => absurd hj (Nat.not_lt_zero _), fun i hi => absurd hi (Nat.not_lt_zero _)⟩ (fun i hi => absurd hi (Nat.not_lt_zero _))
  refine col_L hR hC hrw fuelC 0 0 num (fun _ => 0) ⟨Nat.zero_le _, fun j hj => absurd hj (Nat.not_lt_zero _), fun j hj => absurd hj (Nat.not_lt_zero _), fun h0 => ?_, fun j h1 h2 => hnum _ (hrw.2.1 j h2).1, fun s hs => Or.inr ⟨fun i hi => absurd hi (Nat.not_lt_zero _), Nat.zero_le _⟩⟩ (fun _ => rfl) ?_
  · rw [hnum _ (hrw.2.1 0 h0).1]
    exact ⟨by decide, Nat.zero_le _⟩
  · have h1 : tS C n ≤ tS 10 10 := Nat.le_trans (tS_le C hC n) (tS_mono n 10 hrw.1)
    have h2 : C * tS C n ≤ 10 * tS 10 10 := Nat.mul_le_mul hC h1
    have h3 : tS 10 10 = 1111111111 := by decide
    have h4 : fuelC = 285311670611 := by decide
    rw [h4, Nat.zero_mul]
    show 2 * (C * tS C n) + 0 + 1 < 2 * (0 + 0) + 285311670611
    omega
theorem leastM_L {nb : Int32} {ad : Nat → Nat → Prop} {mt on ot : Nat → Int32} (hm : ∀ i, i < 10 → mt i = if bit nb i = true then 1 else 0) (hR : RN nb ad on ot) : ∀ (n C : Nat) (num row : Nat → Int32), C ≤ 10 → 11 < C + n → (∀ D, D < C → ∀ s, ¬ OKc nb ad D s 10) → Ok (F_leastColoursM_L2 (fun v1_2 wm_numbers_2 wm_row_2 => some (v1_2, wm_numbers_2, wm_row_2)) mt on ot n (nI C) num row) (fun R => ∃ C c, R.1 = nI C ∧ LC nb ad C c ∧ ∀ j, j < 10 → bit nb j = true → R.2.1 j = nI (c j))
  | 0, C, num, row, h1, h2, _ => by omega
  | n + 1, C, num, row, h1, h2, hno => by
    rw [F_leastColoursM_L2, nI_add1]
    refine ok_bind (col_spec hm hR h1 num row) (fun R hR2 => ?_)
    rcases hR2 with ⟨e, c, q1, q2⟩ | ⟨e, q⟩
    · rw [if_neg (by rw [e]; decide)]
      exact ok_some ⟨C, c, rfl, ⟨h1, q1, hno⟩, q2⟩
    · rw [if_pos e]
      have hC : C < 10 := by
        apply Classical.byContradiction
        intro h9
        have : C = 10 := by omega
        subst this
        exact q _ ident
      refine leastM_L hm hR n (C + 1) _ _ (by omega) (by omega) (fun D hD s hs => ?_)
      by_cases d : D = C
      · subst d; exact q s hs
      · exact hno D (by omega) s hs
theorem leastM_spec {nb : Int32} {ad : Nat → Nat → Prop} {mt on ot : Nat → Int32} (hm : ∀ i, i < 10 → mt i = if bit nb i = true then 1 else 0) (hR : RN nb ad on ot) (num row : Nat → Int32) : Ok (F_leastColoursM mt on ot num row) (fun R => ∃ C c, R.1 = nI C ∧ LC nb ad C c ∧ ∀ j, j < 10 → bit nb j = true → R.2.1 j = nI (c j)) :=
  leastM_L hm hR 64 0 num row (by omega) (by omega) (fun D hD => absurd hD (Nat.not_lt_zero _))
theorem AJ_facts {nb lb : Int32} {le mo dx dy mt on ot mx my fr to hi : Nat → Int32} (hv : Inv nb lb le mo dx dy mt on ot mx my fr to hi) {i j : Nat} (hi10 : i < 10) (hj10 : j < 10) (h : AJ lb le mo i j) : i ≠ j ∧ bit nb i = true ∧ bit nb j = true := by
  obtain ⟨l, h1, h2, h3⟩ := h
  obtain ⟨a, b, q1, q2, q3, q4, q5, q6, q7, q8⟩ := hv.2.2.2.2.1 l h1 h2
  rcases h3 with ⟨r1, r2⟩ | ⟨r1, r2⟩
  · rw [q5, nI_eq_iff (by omega) (by omega)] at r1
    rw [q6, nI_eq_iff (by omega) (by omega)] at r2
    subst r1; subst r2
    exact ⟨by omega, q3, q4⟩
  · rw [q5, nI_eq_iff (by omega) (by omega)] at r1
    rw [q6, nI_eq_iff (by omega) (by omega)] at r2
    subst r1; subst r2
    exact ⟨by omega, q4, q3⟩
def NW (lb : Int32) (le mo : Nat → Int32) (i j : Nat) : Prop := i < 10 ∧ j < 10 ∧ AJ lb le mo i j
theorem WB_of {nb lb : Int32} {le mo dx dy mt on ot mx my fr to hi u : Nat → Int32} (hv : Inv nb lb le mo dx dy mt on ot mx my fr to hi) (hu : ∀ i j, i < 11 → (bit (u i) j = true ↔ j < 10 ∧ AJ lb le mo i j)) : WB nb (NW lb le mo) u := by
  refine ⟨fun i j hi => ?_, fun i j h => ⟨h.2.1, h.1, h.2.2.symm⟩, fun i j h => ?_⟩
  · rw [hu i j (by omega)]
    exact ⟨fun h => ⟨h.1, hi, h.1, h.2⟩, fun h => ⟨h.1, h.2.2.2⟩⟩
  · obtain ⟨q1, q2, q3⟩ := AJ_facts hv h.1 h.2.1 h.2.2
    exact ⟨q1, h.1, h.2.1, q2, q3⟩
theorem RN_of {nb lb : Int32} {le mo dx dy mt on ot mx my fr to hi : Nat → Int32} (hv : Inv nb lb le mo dx dy mt on ot mx my fr to hi) : RN nb (NW lb le mo) on ot := by
  have live : ∀ l, l < 24 → ¬ on l < 0 → bit lb l = true := fun l hl h0 => by
    cases hb : bit lb l with
    | true => rfl
    | false => exact absurd ((inv_live hv l hl).mpr hb) h0
  refine ⟨fun l hl h0 => ?_, fun j i hji hi10 => ?_, fun i j h => (AJ_facts hv h.1 h.2.1 h.2.2).2⟩
  · obtain ⟨a, b, q1, q2, q3, q4, q5, q6, q7, q8⟩ := hv.2.2.2.2.1 l hl (live l hl h0)
    exact ⟨a, b, q1, q2, q7, q8⟩
  · constructor
    · rintro ⟨hj, hi, l, h1, h2, h3⟩
      obtain ⟨a, b, q1, q2, q3, q4, q5, q6, q7, q8⟩ := hv.2.2.2.2.1 l h1 h2
      refine ⟨l, h1, iff_no (inv_live hv l h1) h2, ?_⟩
      rcases h3 with ⟨r1, r2⟩ | ⟨r1, r2⟩
      · exact ⟨by rw [q7, ← q5, r1], by rw [q8, ← q6, r2]⟩
      · exfalso
        rw [q5, nI_eq_iff (by omega) (by omega)] at r1
        rw [q6, nI_eq_iff (by omega) (by omega)] at r2
        omega
    · rintro ⟨l, h1, h2, h3, h4⟩
      obtain ⟨a, b, q1, q2, q3, q4, q5, q6, q7, q8⟩ := hv.2.2.2.2.1 l h1 (live l h1 h2)
      have e1 : le l = nI j := by rw [q5, ← q7, h3]
      have e2 : mo l = nI i := by rw [q6, ← q8, h4]
      exact ⟨by omega, hi10, l, h1, live l h1 h2, Or.inl ⟨e1, e2⟩⟩
theorem st_colours (zx_nodeBits : Int32) (zx_lineBits : Int32) (zx_lessEnd : Nat → Int32) (zx_moreEnd : Nat → Int32) (zx_web_near : Nat → Int32) (zx_planeTest_backLines : Int32) (zx_planeTest_clash : Int32) (zx_planeTest_depthOf : Nat → Int32) (zx_planeTest_endingAt : Nat → Int32) (zx_planeTest_returns : Nat → Int32) (zx_planeTest_highest : Nat → Int32) (zx_planeTest_alike : Nat → Int32) (zx_planeTest_opposed : Nat → Int32) (zx_palette_there : Int32) (zx_palette_allowed : Int32) (zx_palette_shades : Nat → Int32) (zx_desk_xs : Nat → Int32) (zx_desk_ys : Nat → Int32) (zm_thrown : Int32) (zm_many : Int32) (zm_there : Nat → Int32) (zm_ones : Nat → Int32) (zm_others : Nat → Int32) (zm_xs : Nat → Int32) (zm_ys : Nat → Int32) (zm_a : Nat → Int32) (zm_b : Nat → Int32) (zm_from : Nat → Int32) (zm_to : Nat → Int32) (zm_way : Nat → Int32) (zm_depth : Nat → Int32) (zm_above : Nat → Int32) (zm_pile : Nat → Int32) (zm_next : Nat → Int32) (zm_leader : Nat → Int32) (zm_turned : Nat → Int32) (zm_piece : Nat → Int32) (zm_numbers : Nat → Int32) (zm_row : Nat → Int32) (zb : Nat → Int64) (hv : Inv zx_nodeBits zx_lineBits zx_lessEnd zx_moreEnd zx_desk_xs zx_desk_ys zm_there zm_ones zm_others zm_xs zm_ys zm_from zm_to zx_planeTest_highest) : ∃ Rx, F_coloursG zx_nodeBits zx_lineBits zx_lessEnd zx_moreEnd zx_web_near zx_palette_allowed zx_palette_shades = some Rx ∧ ∃ Rm, F_coloursM zm_there zm_ones zm_others zm_numbers zm_row = some Rm ∧ (Rx.1 = Rm.1) ∧ Inv zx_nodeBits zx_lineBits zx_lessEnd zx_moreEnd zx_desk_xs zx_desk_ys zm_there zm_ones zm_others zm_xs zm_ys zm_from zm_to zx_planeTest_highest := by
  have hL := LV_of hv
  obtain ⟨u, e1, hu⟩ := spin_bits (near := zx_web_near) hL
  obtain ⟨R, e2, C, c, q1, q2, q3⟩ := least_spec (WB_of hv hu) zx_palette_allowed zx_palette_shades
  obtain ⟨S, e3, D, d, r1, r2, r3⟩ := leastM_spec hv.2.2.1 (RN_of hv) zm_numbers zm_row
  obtain ⟨hCD, _⟩ := q2.uniq r2
  refine ⟨(R.1, u, R.2.1, R.2.2.1, R.2.2.2), ?_, (S.1, 0, S.2.1, S.2.2), ?_, ?_, hv⟩
  · unfold F_coloursG
    rw [e1, Option.bind_some, e2, Option.bind_some]
  · unfold F_coloursM
    rw [e3, Option.bind_some]
  · show R.1 = S.1
    rw [q1, r1, hCD]
theorem st_colour (zx_nodeBits : Int32) (zx_lineBits : Int32) (zx_lessEnd : Nat → Int32) (zx_moreEnd : Nat → Int32) (zx_web_near : Nat → Int32) (zx_planeTest_backLines : Int32) (zx_planeTest_clash : Int32) (zx_planeTest_depthOf : Nat → Int32) (zx_planeTest_endingAt : Nat → Int32) (zx_planeTest_returns : Nat → Int32) (zx_planeTest_highest : Nat → Int32) (zx_planeTest_alike : Nat → Int32) (zx_planeTest_opposed : Nat → Int32) (zx_palette_there : Int32) (zx_palette_allowed : Int32) (zx_palette_shades : Nat → Int32) (zx_desk_xs : Nat → Int32) (zx_desk_ys : Nat → Int32) (zm_thrown : Int32) (zm_many : Int32) (zm_there : Nat → Int32) (zm_ones : Nat → Int32) (zm_others : Nat → Int32) (zm_xs : Nat → Int32) (zm_ys : Nat → Int32) (zm_a : Nat → Int32) (zm_b : Nat → Int32) (zm_from : Nat → Int32) (zm_to : Nat → Int32) (zm_way : Nat → Int32) (zm_depth : Nat → Int32) (zm_above : Nat → Int32) (zm_pile : Nat → Int32) (zm_next : Nat → Int32) (zm_leader : Nat → Int32) (zm_turned : Nat → Int32) (zm_piece : Nat → Int32) (zm_numbers : Nat → Int32) (zm_row : Nat → Int32) (zb : Nat → Int64) (p0 : Int32) (hv : Inv zx_nodeBits zx_lineBits zx_lessEnd zx_moreEnd zx_desk_xs zx_desk_ys zm_there zm_ones zm_others zm_xs zm_ys zm_from zm_to zx_planeTest_highest) : ∃ Rx, F_colourW zx_nodeBits zx_lineBits zx_lessEnd zx_moreEnd zx_web_near zx_palette_there zx_palette_allowed zx_palette_shades zb p0 = some Rx ∧ ∃ Rm, F_colourM zm_there zm_ones zm_others zm_numbers zm_row p0 = some Rm ∧ (Rm.2.1 = Rx.1) ∧ (Rx.1 = 0 → Rx.2.2.2.2.2 0 = Int32.toInt64 Rm.1) ∧ Inv zx_nodeBits zx_lineBits zx_lessEnd zx_moreEnd zx_desk_xs zx_desk_ys zm_there zm_ones zm_others zm_xs zm_ys zm_from zm_to zx_planeTest_highest := by
  have hL := LV_of hv
  obtain ⟨u, e1, hu⟩ := spin_bits (near := zx_web_near) hL
  obtain ⟨R, e2, C, c, q1, q2, q3⟩ := least_spec (WB_of hv hu) zx_palette_allowed zx_palette_shades
  obtain ⟨S, e3, D, d, r1, r2, r3⟩ := leastM_spec hv.2.2.1 (RN_of hv) zm_numbers zm_row
  obtain ⟨hCD, hag⟩ := q2.uniq r2
  rcases nit_cases zx_nodeBits p0 with ⟨e0, _⟩ | ⟨i, hi, rfl, hbi, e0⟩
  · refine ⟨_, by unfold F_colourW F_colourT; rw [e0, if_pos rfl]; rfl, (0, 1, zm_numbers, zm_row), ?_, rfl, fun q => (n10 q).elim, hv⟩
    unfold F_colourM
    rw [isThere_eq hv.2.2.1, e0, Option.bind_some, if_pos rfl]
    dsimp only
    rw [ref_1]; rfl
  · have hT : F_colourT zx_nodeBits zx_lineBits zx_lessEnd zx_moreEnd zx_web_near zx_palette_there zx_palette_allowed zx_palette_shades (nI i) = some (0, R.2.2.2 i, u, R.2.1, R.2.2.1, R.2.2.2) := by
      unfold F_colourT F_shadeOfG
      rw [e0, if_neg (by decide), e1, Option.bind_some, e2, Option.bind_some, if_pos (inb_nI hi (by decide)), nI_clamp (by omega), Option.bind_some]
    have hD0 : ¬ S.1 ≤ 0 := by
      rw [r1]
      intro h9
      have h9 : nI D ≤ nI 0 := h9
      rw [nLe (by have := r2.1; omega) (by decide)] at h9
      have := (r2.2.1.1 i hi hbi).1
      omega
    refine ⟨(0, u, R.2.1, R.2.2.1, R.2.2.2, vp_updL zb 0 (Int32.toInt64 (R.2.2.2 i))), ?_, (S.2.1 i, 0, S.2.1, S.2.2), ?_, rfl, fun _ => ?_, hv⟩
    · unfold F_colourW
      rw [hT]; rfl
    · unfold F_colourM
      rw [isThere_eq hv.2.2.1, e0, Option.bind_some, if_neg n10]
      dsimp only
      rw [ref_0, Option.bind_some, if_pos rfl, e3, Option.bind_some, if_neg hD0, if_pos (inb_nI hi (by decide)), nI_clamp (by omega)]
    · exact out_eq (f := zb) (by
        show R.2.2.2 i = S.2.1 i
        rw [q3 i hi hbi, r3 i hi hbi, hag i hi hbi])
