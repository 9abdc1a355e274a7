def OKc (nb : Int32) (ad : Nat → Nat → Prop) (C : Nat) (c : Nat → Nat) (m : Nat) : Prop := ∀ i, i < m → bit nb i = true → c i < C ∧ ∀ j, j < i → bit nb j = true → ad j i → c j ≠ c i
def AG (nb : Int32) (c s : Nat → Nat) (m : Nat) : Prop := ∀ i, i < m → bit nb i = true → s i = c i
def FI (nb : Int32) (ad : Nat → Nat → Prop) (C : Nat) (c c0 : Nat → Nat) (m : Nat) : Prop := ∀ s, OKc nb ad C s 10 → AG nb c0 s m → AG nb c s 10 ∨ ∃ k, k < 10 ∧ bit nb k = true ∧ AG nb c s k ∧ c k < s k
theorem AG.mono {nb : Int32} {c s : Nat → Nat} {m k : Nat} (h : AG nb c s m) (hk : k ≤ m) : AG nb c s k := fun i hi hb => h i (by omega) hb
theorem isFree_L2 {sh near : Nat → Int32} {x i : Nat} (hi : i < 10) : ∀ (n j : Nat), j ≤ i → i < j + n → ∃ r, F_isFreeG_L3 (fun _ => some 1) sh near (nI x) (nI i) n (nI j) = some r ∧ z01 r ∧ (r = 1 ↔ ∀ k, j ≤ k → k < i → bit (near i) k = true → sh k ≠ nI x)
  | 0, j, h1, h2 => by omega
  | n + 1, j, h1, h2 => by
    rw [F_isFreeG_L3, neigh_eq (by omega), Option.bind_some]
    by_cases c : i ≤ j
    · rw [if_pos ((nLe (by omega) (by omega)).mpr c)]
      exact ⟨1, rfl, Or.inr rfl, fun _ k h3 h4 => by omega, fun _ => rfl⟩
    · rw [if_neg (fun h9 => c ((nLe (by omega) (by omega)).mp h9)), nI_add1]
      obtain ⟨r, e, hz, hr⟩ := isFree_L2 (sh := sh) (near := near) (x := x) hi n (j + 1) (by omega) (by omega)
      have step : ¬ (bit (near i) j = true ∧ sh j = nI x) → (r = 1 ↔ ∀ k, j ≤ k → k < i → bit (near i) k = true → sh k ≠ nI x) := by
        intro hn
        rw [hr]
        constructor
        · intro h k h3 h4 h5
          by_cases c2 : k = j
          · intro h6; rw [c2] at h5 h6; exact hn ⟨h5, h6⟩
          · exact h k (by omega) h4 h5
        · intro h k h3 h4; exact h k (by omega) h4
      cases hb : bit (near i) j with
      | false =>
        rw [if_pos ((has0_iff (by omega)).mpr hb)]
        exact ⟨r, e, hz, step (fun h9 => by rw [hb] at h9; exact absurd h9.1 (by decide))⟩
      | true =>
        rw [if_neg (has_no (by omega) hb), if_pos (inb_nI (by omega) (by decide)), nI_clamp (by omega)]
        by_cases d : sh j = nI x
        · rw [if_pos d]
          exact ⟨0, rfl, Or.inl rfl, fun h9 => absurd h9 (by decide), fun h9 => absurd d (h9 j (Nat.le_refl _) (by omega) hb)⟩
        · rw [if_neg d]
          exact ⟨r, e, hz, step (fun h9 => d h9.2)⟩
theorem isFree_spec {sh near : Nat → Int32} {x i : Nat} (hi : i < 10) : ∃ r, F_isFreeG sh near (nI x) (nI i) = some r ∧ z01 r ∧ (r = 1 ↔ ∀ k, k < i → bit (near i) k = true → sh k ≠ nI x) := by
  obtain ⟨r, e, hz, hr⟩ := isFree_L2 (sh := sh) (near := near) (x := x) hi 64 0 (Nat.zero_le _) (by omega)
  refine ⟨r, e, hz, ?_⟩
  rw [hr]
  exact ⟨fun h k => h k (Nat.zero_le _), fun h k _ => h k⟩
theorem shr_zero {x : Int32} {i : Nat} (hi : i < 32) (h : x >>> (nI i &&& 31) = 0) {j : Nat} (hij : i ≤ j) (hj : j < 32) : bit x j = false := by
  have h2 := congrArg (fun z => bit z (j - i)) h
  simp only [bit_zero] at h2
  rw [← h2]
  unfold bit
  rw [Int32.toBitVec_shiftRight]
  show _ = (x.toBitVec.sshiftRight ((nI i &&& 31).toBitVec.smod 32).toNat).getLsbD (j - i)
  rw [smod_ i hi, BitVec.getLsbD_sshiftRight]
  have e : i + (j - i) = j := by omega
  rw [e, if_pos hj]
  simp
  omega
def WB (nb : Int32) (ad : Nat → Nat → Prop) (near : Nat → Int32) : Prop := (∀ i j, i < 10 → (bit (near i) j = true ↔ j < 10 ∧ ad i j)) ∧ (∀ i j, ad i j → ad j i) ∧ (∀ i j, ad i j → i ≠ j ∧ i < 10 ∧ j < 10 ∧ bit nb i = true ∧ bit nb j = true)
theorem OKc.put {nb : Int32} {ad : Nat → Nat → Prop} {C : Nat} {s : Nat → Nat} (hs : OKc nb ad C s 10) {i x : Nat} (hx : x < C) (h1 : ∀ j, j < i → bit nb j = true → ad j i → s j ≠ x) (h2 : ∀ j, i < j → ¬ ad i j) : OKc nb ad C (fun k => if k = i then x else s k) 10 := by
  intro k hk hb
  show (if k = i then x else s k) < C ∧ ∀ j, j < k → bit nb j = true → ad j k → (if j = i then x else s j) ≠ (if k = i then x else s k)
  by_cases c : k = i
  · rw [if_pos c]
    refine ⟨hx, fun j hj hbj ha => ?_⟩
    rw [if_neg (by omega)]
    rw [c] at ha hj
    exact h1 j hj hbj ha
  · rw [if_neg c]
    refine ⟨(hs k hk hb).1, fun j hj hbj ha => ?_⟩
    by_cases d : j = i
    · rw [d] at ha hj; exact absurd ha (h2 k hj)
    · rw [if_neg d]; exact (hs k hk hb).2 j hj hbj ha
theorem OKc.swap {nb : Int32} {ad : Nat → Nat → Prop} {C : Nat} {s : Nat → Nat} {m : Nat} (hs : OKc nb ad C s m) {x y : Nat} (hx : x < C) (hy : y < C) : OKc nb ad C (fun k => if s k = x then y else if s k = y then x else s k) m := by
  intro k hk hb
  show (if s k = x then y else if s k = y then x else s k) < C ∧ ∀ j, j < k → bit nb j = true → ad j k → (if s j = x then y else if s j = y then x else s j) ≠ (if s k = x then y else if s k = y then x else s k)
  refine ⟨?_, fun j hj hbj ha => ?_⟩
  · by_cases c : s k = x
    · rw [if_pos c]; exact hy
    · rw [if_neg c]
      by_cases d : s k = y
      · rw [if_pos d]; exact hx
      · rw [if_neg d]; exact (hs k hk hb).1
  · have hne := (hs k hk hb).2 j hj hbj ha
    by_cases c : s k = x
    · rw [if_pos c]
      by_cases e : s j = x
      · exact absurd (e.trans c.symm) hne
      · rw [if_neg e]
        by_cases f : s j = y
        · rw [if_pos f]; exact fun h9 => e (f.trans h9.symm)
        · rw [if_neg f]; exact f
    · rw [if_neg c]
      by_cases d : s k = y
      · rw [if_pos d]
        by_cases e : s j = x
        · rw [if_pos e]; intro h9; rw [h9] at d; exact c d
        · rw [if_neg e]
          by_cases f : s j = y
          · exact absurd (f.trans d.symm) hne
          · rw [if_neg f]; exact e
      · rw [if_neg d]
        by_cases e : s j = x
        · rw [if_pos e]; exact fun h9 => d h9.symm
        · rw [if_neg e]
          by_cases f : s j = y
          · rw [if_pos f]; exact fun h9 => c h9.symm
          · rw [if_neg f]; exact hne
def PR (nb : Int32) (ad : Nat → Nat → Prop) (al : Nat) (c : Nat → Nat) (sh : Nat → Int32) (i : Nat) (R : Int32 × (Nat → Int32)) : Prop :=
  (∀ j, j < i → R.2 j = sh j) ∧ ((R.1 = 1 ∧ ∃ c', AG nb c c' i ∧ (∀ j, j < 10 → bit nb j = true → R.2 j = nI (c' j)) ∧ OKc nb ad al c' 10 ∧ FI nb ad al c' c i) ∨ (R.1 = 0 ∧ ∀ s, OKc nb ad al s 10 → ¬ AG nb c s i))
theorem paint_L2 {nb : Int32} {ad : Nat → Nat → Prop} {near : Nat → Int32} (hW : WB nb ad near) {al : Nat} (hal : al ≤ 10) {i : Nat} (hi : i < 10) (hbi : bit nb i = true) {u : Nat} (hu : u ≤ 10) {c : Nat → Nat} (hcu : ∀ j, j < i → bit nb j = true → c j < u) (hOK : OKc nb ad al c i)
    {rec_ : Int32 → Int32 → (Nat → Int32) → (Nat → Int32) → Int32 → Int32 → Option (Int32 × (Nat → Int32))}
    (hrec : ∀ (sh : Nat → Int32) (u' : Nat) (c' : Nat → Nat), u' ≤ 10 → (∀ j, j < i + 1 → bit nb j = true → sh j = nI (c' j) ∧ c' j < u') → OKc nb ad al c' (i + 1) → Ok (rec_ nb (nI al) sh near (nI (i + 1)) (nI u')) (PR nb ad al c' sh (i + 1))) :
    ∀ (n x : Nat) (sh : Nat → Int32), x ≤ al → al < x + n → x ≤ u + 1 → (∀ j, j < i → bit nb j = true → sh j = nI (c j)) → (∀ s, OKc nb ad al s 10 → AG nb c s i → x ≤ s i) → Ok (F_paintFromR_L32 (fun _ s => some (0, s)) nb (nI al) near (nI i) (nI u) rec_ n (nI x) sh) (fun R => (∀ j, j < i → R.2 j = sh j) ∧ ((R.1 = 1 ∧ ∃ c', AG nb c c' i ∧ (∀ j, j < 10 → bit nb j = true → R.2 j = nI (c' j)) ∧ OKc nb ad al c' 10 ∧ FI nb ad al c' c i) ∨ (R.1 = 0 ∧ ∀ s, OKc nb ad al s 10 → ¬ AG nb c s i)))
  | 0, x, sh, h1, h2, _, _, _ => by omega
  | n + 1, x, sh, h1, h2, hxu, hsh, hno => by
    rw [F_paintFromR_L32]
    by_cases hux : u < x
    · -- all numbers up to the first unused one have failed: so does every other
      rw [if_pos ((nLt (by omega) (by omega)).mpr hux)]
      refine ok_some ⟨fun j _ => rfl, Or.inr ⟨rfl, fun s hs hag => ?_⟩⟩
      have hsi := (hs i hi hbi).1
      have hxs := hno s hs hag
      have hu2 : u < al := by omega
      have hs2 := hs.swap (x := s i) (y := u) hsi hu2
      have hag2 : AG nb c (fun k => if s k = s i then u else if s k = u then s i else s k) i := by
        intro j hj hbj
        show (if s j = s i then u else if s j = u then s i else s j) = c j
        have a := hag j hj hbj
        have b := hcu j hj hbj
        rw [if_neg (by omega), if_neg (by omega)]; exact a
      have := hno _ hs2 hag2
      have this : x ≤ (if s i = s i then u else if s i = u then s i else s i) := this
      rw [if_pos rfl] at this
      omega
    · rw [if_neg (fun h9 => hux ((nLt (by omega) (by omega)).mp h9))]
      by_cases hax : al ≤ x
      · rw [if_pos ((nLe (by omega) (by omega)).mpr hax)]
        refine ok_some ⟨fun j _ => rfl, Or.inr ⟨rfl, fun s hs hag => ?_⟩⟩
        have hsi := (hs i hi hbi).1
        have hxs := hno s hs hag
        omega
      · rw [if_neg (fun h9 => hax ((nLe (by omega) (by omega)).mp h9)), nI_add1, nI_add1]
        obtain ⟨r, e, hz, hr⟩ := isFree_spec (sh := sh) (near := near) (x := x) hi
        rw [e, Option.bind_some]
        have hfree : r = 1 ↔ ∀ j, j < i → bit nb j = true → ad j i → c j ≠ x := by
          rw [hr]
          constructor
          · intro h j hj hbj ha h9
            exact h j hj ((hW.1 i j hi).mpr ⟨by omega, hW.2.1 _ _ ha⟩) (by rw [hsh j hj hbj, h9])
          · intro h k hk hb h9
            have ha := (hW.1 i k hi).mp hb
            have hbk := (hW.2.2 _ _ ha.2).2.2.2.2
            rw [hsh k hk hbk, nI_eq_iff (by have := hcu k hk hbk; omega) (by omega)] at h9
            exact h k hk hbk (hW.2.1 _ _ ha.2) h9
        rcases hz with rfl | rfl
        · rw [if_pos rfl]
          refine paint_L2 hW hal hi hbi hu hcu hOK hrec n (x + 1) sh (by omega) (by omega) (by omega) hsh (fun s hs hag => ?_)
          have hxs := hno s hs hag
          have : s i ≠ x := fun h9 => by
            have : (0 : Int32) = 1 := hfree.mpr (fun j hj hbj ha => by
              rw [← hag j hj hbj, ← h9]; exact (hs i hi hbi).2 j hj hbj ha)
            exact absurd this (by decide)
          omega
        · rw [if_neg (by decide)]
          have hfr := hfree.mp rfl
          refine ok_th (inb_nI hi (by decide)) ?_
          rw [nI_clamp (by omega)]
          have humax : (if nI u < nI (x + 1) then nI (x + 1) else nI u) = nI (max u (x + 1)) := by
            by_cases c9 : u < x + 1
            · rw [if_pos ((nLt (by omega) (by omega)).mpr c9), Nat.max_eq_right (by omega)]
            · rw [if_neg (fun h9 => c9 ((nLt (by omega) (by omega)).mp h9)), Nat.max_eq_left (by omega)]
          rw [humax]
          have hc' : ∀ j, j < i + 1 → bit nb j = true → upd sh i (nI x) j = nI ((fun k => if k = i then x else c k) j) ∧ (fun k => if k = i then x else c k) j < max u (x + 1) := by
            intro j hj hbj
            show upd sh i (nI x) j = nI (if j = i then x else c j) ∧ (if j = i then x else c j) < max u (x + 1)
            by_cases c9 : j = i
            · subst c9; rw [pk_us, if_pos rfl]; exact ⟨rfl, by omega⟩
            · rw [pk_un c9, if_neg c9]
              have := hcu j (by omega) hbj
              exact ⟨hsh j (by omega) hbj, by omega⟩
          have hOK' : OKc nb ad al (fun k => if k = i then x else c k) (i + 1) := by
            intro k hk hbk
            show (if k = i then x else c k) < al ∧ ∀ j, j < k → bit nb j = true → ad j k → (if j = i then x else c j) ≠ (if k = i then x else c k)
            by_cases c9 : k = i
            · subst c9
              rw [if_pos rfl]
              refine ⟨by omega, fun j hj hbj ha => ?_⟩
              rw [if_neg (by omega)]; exact hfr j hj hbj ha
            · rw [if_neg c9]
              refine ⟨(hOK k (by omega) hbk).1, fun j hj hbj ha => ?_⟩
              rw [if_neg (by omega)]; exact (hOK k (by omega) hbk).2 j hj hbj ha
          refine ok_bind (hrec (upd sh i (nI x)) (max u (x + 1)) _ (by omega) hc' hOK') (fun R hR => ?_)
          obtain ⟨hR1, hR2⟩ := hR
          have hR1' : ∀ j, j < i → R.2 j = sh j := fun j hj => by rw [hR1 j (by omega), pk_un (by omega)]
          rcases hR2 with ⟨eR, c', hag', hcol, hok, hfi⟩ | ⟨eR, hnone⟩
          · rw [if_neg (by rw [eR]; decide)]
            refine ok_some ⟨hR1', Or.inl ⟨rfl, c', fun j hj hbj => ?_, hcol, hok, fun s hs hag => ?_⟩⟩
            · have := hag' j (by omega) hbj
              have this : c' j = (if j = i then x else c j) := this
              rw [if_neg (by omega)] at this; exact this
            · have hxs := hno s hs hag
              have hc'i : c' i = x := by
                have := hag' i (by omega) hbi
                have this : c' i = (if i = i then x else c i) := this
                rw [if_pos rfl] at this; exact this
              by_cases c9 : s i = x
              · exact hfi s hs (fun j hj hbj => by
                  show s j = (if j = i then x else c j)
                  by_cases c8 : j = i
                  · rw [if_pos c8, c8]; exact c9
                  · rw [if_neg c8]; exact hag j (by omega) hbj)
              · refine Or.inr ⟨i, hi, hbi, fun j hj hbj => ?_, by omega⟩
                have a := hag' j (by omega) hbj
                have a : c' j = (if j = i then x else c j) := a
                rw [if_neg (by omega)] at a
                rw [a]; exact hag j hj hbj
          · rw [if_pos eR]
            have hx1 : ∀ s, OKc nb ad al s 10 → AG nb c s i → s i ≠ x := fun s hs hag h9 => hnone s hs (fun j hj hbj => by
              show s j = (if j = i then x else c j)
              by_cases c8 : j = i
              · rw [if_pos c8, c8]; exact h9
              · rw [if_neg c8]; exact hag j (by omega) hbj)
            have hlater : Ok (F_hasLaterG near (nI i)) (fun q => q = 0 → ∀ j, i < j → ¬ ad i j) := by
              unfold F_hasLaterG
              rw [neigh_eq (by omega), Option.bind_some]
              refine ok_if (fun h9 => ok_some (fun _ j hj ha => ?_)) (fun _ => ok_some (fun h9 => absurd h9 (by decide)))
              have hj10 := (hW.2.2 _ _ ha).2.2.1
              have := shr_zero (by omega) h9 (show i ≤ j by omega) (by omega)
              rw [(hW.1 i j hi).mpr ⟨hj10, ha⟩] at this
              exact absurd this (by decide)
            refine ok_bind hlater (fun q hq => ok_if (fun hq0 => ?_) (fun _ => ?_))
            · -- no later neighbour: any other number could be changed for x
              refine ok_some ⟨hR1', Or.inr ⟨rfl, fun s hs hag => ?_⟩⟩
              have hs2 := hs.put (i := i) (x := x) (by omega) (fun j hj hbj ha => by rw [hag j hj hbj]; exact hfr j hj hbj ha) (hq hq0)
              refine hx1 _ hs2 (fun j hj hbj => ?_) ?_
              · show (if j = i then x else s j) = c j
                rw [if_neg (by omega)]; exact hag j hj hbj
              · show (if i = i then x else s i) = x
                rw [if_pos rfl]
            · refine ok_mono (paint_L2 hW hal hi hbi hu hcu hOK hrec n (x + 1) R.2 (by omega) (by omega) (by omega) (fun j hj hbj => by rw [hR1' j hj]; exact hsh j hj hbj) (fun s hs hag => ?_)) (fun T hT => ⟨fun j hj => by rw [hT.1 j hj, hR1' j hj], hT.2⟩)
              have a := hno s hs hag
              have b := hx1 s hs hag
              omega
theorem paint_spec {nb : Int32} {ad : Nat → Nat → Prop} {near : Nat → Int32} (hW : WB nb ad near) {al : Nat} (hal : al ≤ 10) : ∀ (f i : Nat), i + f = 11 → 0 < f → ∀ (sh : Nat → Int32) (u : Nat) (c : Nat → Nat), u ≤ 10 → (∀ j, j < i → bit nb j = true → sh j = nI (c j) ∧ c j < u) → OKc nb ad al c i → Ok (F_paintFromR f nb (nI al) sh near (nI i) (nI u)) (PR nb ad al c sh i)
  | 0, i, _, h0, _, _, _, _, _, _ => absurd h0 (by decide)
  | f + 1, i, hif, _, sh, u, c, hu, hsh, hOK => by
    rw [F_paintFromR]
    by_cases h10 : i < 10
    · rw [if_pos (show nI i < 10 from (nLt (by omega) (by decide)).mpr h10)]
      cases hb : bit nb i with
      | false =>
        rw [if_pos ((has0_iff (by omega)).mpr hb), nI_add1]
        refine ok_bind (paint_spec hW hal f (i + 1) (by omega) (by omega) sh u c hu (fun j hj hbj => ?_) (fun k hk hbk => ?_)) (fun R hR => ok_some ?_)
        · have : j ≠ i := fun e => by rw [e, hb] at hbj; exact absurd hbj (by decide)
          exact hsh j (by omega) hbj
        · have : k ≠ i := fun e => by rw [e, hb] at hbk; exact absurd hbk (by decide)
          exact hOK k (by omega) hbk
        · have up : ∀ s : Nat → Nat, AG nb c s i → AG nb c s (i + 1) := fun s h j hj hbj => by
            have : j ≠ i := fun e => by rw [e, hb] at hbj; exact absurd hbj (by decide)
            exact h j (by omega) hbj
          refine ⟨fun j hj => hR.1 j (by omega), ?_⟩
          rcases hR.2 with ⟨e, c', q1, q2, q3, q4⟩ | ⟨e, q⟩
          · exact Or.inl ⟨e, c', q1.mono (by omega), q2, q3, fun s hs hag => q4 s hs (up s hag)⟩
          · exact Or.inr ⟨e, fun s hs hag => q s hs (up s hag)⟩
      | true =>
        rw [if_neg (has_no (by omega) hb)]
        exact paint_L2 hW hal h10 hb hu (fun j hj hbj => (hsh j hj hbj).2) hOK (fun sh u' c' h1 h2 h3 => paint_spec hW hal f (i + 1) (by omega) (by omega) sh u' c' h1 h2 h3) 64 0 sh (Nat.zero_le _) (by omega) (Nat.zero_le _) (fun j hj hbj => (hsh j hj hbj).1) (fun s _ _ => Nat.zero_le _)
    · rw [if_neg (show ¬ nI i < 10 from fun h9 => h10 ((nLt (by omega) (by decide)).mp h9))]
      have hi : i = 10 := by omega
      subst hi
      exact ok_some ⟨fun j _ => rfl, Or.inl ⟨rfl, c, fun j _ _ => rfl, fun j hj hbj => (hsh j hj hbj).1, hOK, fun s hs hag => Or.inl hag⟩⟩
def LM (nb : Int32) (ad : Nat → Nat → Prop) (C : Nat) (c : Nat → Nat) : Prop := OKc nb ad C c 10 ∧ ∀ s, OKc nb ad C s 10 → AG nb c s 10 ∨ ∃ k, k < 10 ∧ bit nb k = true ∧ AG nb c s k ∧ c k < s k
theorem LM.uniq {nb : Int32} {ad : Nat → Nat → Prop} {C : Nat} {c d : Nat → Nat} (hc : LM nb ad C c) (hd : LM nb ad C d) : AG nb c d 10 := by
  rcases hc.2 d hd.1 with h | ⟨k, h1, h2, h3, h4⟩
  · exact h
  · rcases hd.2 c hc.1 with h | ⟨m, g1, g2, g3, g4⟩
    · exact fun i hi hb => (h i hi hb).symm
    · exfalso
      rcases Nat.lt_trichotomy k m with q | q | q
      · have := g3 k q h2; omega
      · subst q; omega
      · have := h3 m q g2; omega
theorem ident {nb : Int32} {ad : Nat → Nat → Prop} : OKc nb ad 10 (fun i => i) 10 := fun i hi _ => ⟨hi, fun j hj _ _ => by show j ≠ i; omega⟩
def LC (nb : Int32) (ad : Nat → Nat → Prop) (C : Nat) (c : Nat → Nat) : Prop := C ≤ 10 ∧ LM nb ad C c ∧ ∀ D, D < C → ∀ s, ¬ OKc nb ad D s 10
theorem LC.uniq {nb : Int32} {ad : Nat → Nat → Prop} {C D : Nat} {c d : Nat → Nat} (hc : LC nb ad C c) (hd : LC nb ad D d) : C = D ∧ AG nb c d 10 := by
  have e : C = D := by
    rcases Nat.lt_trichotomy C D with q | q | q
    · exact absurd hc.2.1.1 (hd.2.2 C q c)
    · exact q
    · exact absurd hd.2.1.1 (hc.2.2 D q d)
  subst e
  exact ⟨rfl, hc.2.1.uniq hd.2.1⟩
theorem least_L2 {nb : Int32} {ad : Nat → Nat → Prop} {near : Nat → Int32} (hW : WB nb ad near) : ∀ (n C : Nat) (a : Int32) (sh : Nat → Int32), C ≤ 10 → 11 < C + n → (∀ D, D < C → ∀ s, ¬ OKc nb ad D s 10) → Ok (F_paintLeastG_L7 (fun _ a s => some (10, nb, a, s)) near nb n (nI C) a sh) (fun R => ∃ C c, R.1 = nI C ∧ LC nb ad C c ∧ ∀ j, j < 10 → bit nb j = true → R.2.2.2 j = nI (c j))
  | 0, C, a, sh, h1, h2, _ => by omega
  | n + 1, C, a, sh, h1, h2, hno => by
    rw [F_paintLeastG_L7, if_neg (show ¬ (10 : Int32) < nI C from fun h9 => by
      have h9 : nI 10 < nI C := h9
      rw [nLt (by decide) (by omega)] at h9; omega), nI_add1]
    refine ok_bind (paint_spec hW h1 11 0 rfl (by decide) sh 0 (fun _ => 0) (Nat.zero_le _) (fun j hj => absurd hj (Nat.not_lt_zero _)) (fun j hj => absurd hj (Nat.not_lt_zero _))) (fun R hR => ?_)
    rcases hR.2 with ⟨e, c', q1, q2, q3, q4⟩ | ⟨e, q⟩
    · rw [if_neg (by rw [e]; decide)]
      exact ok_some ⟨C, c', rfl, ⟨h1, ⟨q3, fun s hs => q4 s hs (fun j hj => absurd hj (Nat.not_lt_zero _))⟩, hno⟩, q2⟩
    · rw [if_pos e]
      have hC : C < 10 := by
        apply Classical.byContradiction
        intro h9
        have : C = 10 := by omega
        subst this
        exact q _ ident (fun j hj => absurd hj (Nat.not_lt_zero _))
      refine least_L2 hW n (C + 1) _ _ (by omega) (by omega) (fun D hD s hs => ?_)
      by_cases d : D = C
      · subst d; exact q s hs (fun j hj => absurd hj (Nat.not_lt_zero _))
      · exact hno D (by omega) s hs
theorem least_spec {nb : Int32} {ad : Nat → Nat → Prop} {near : Nat → Int32} (hW : WB nb ad near) (a : Int32) (sh : Nat → Int32) : Ok (F_paintLeastG a sh near nb) (fun R => ∃ C c, R.1 = nI C ∧ LC nb ad C c ∧ ∀ j, j < 10 → bit nb j = true → R.2.2.2 j = nI (c j)) :=
  least_L2 hW 64 0 a sh (by omega) (by omega) (fun D hD => absurd hD (Nat.not_lt_zero _))
