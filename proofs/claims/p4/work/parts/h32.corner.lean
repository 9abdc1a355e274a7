theorem bit1_iff {x : Int32} {k : Nat} (hk : k < 32) : ((x >>> (nI k &&& 31)) &&& 1 = 1) ↔ bit x k = true := by
  rw [← bit_shr0 hk]
  constructor
  · intro h
    have h2 := congrArg (fun z => bit z 0) h
    simp only [bit_and] at h2
    rw [bit_one_ 0 (by decide)] at h2
    simpa using h2
  · intro h
    apply bit_ext
    intro j hj
    rw [bit_and, bit_one_ j hj]
    by_cases j0 : j = 0
    · subst j0; rw [h]; rfl
    · rw [decide_eq_false j0, Bool.and_false]
abbrev TM : Type := Int32 × Int32 × (Nat → Int32) × (Nat → Int32) × (Nat → Int32) × (Nat → Int32) × WS7
theorem pat_L {P : TM → Prop} {K : Int32 → Int32 → (Nat → Int32) → (Nat → Int32) → (Nat → Int32) → (Nat → Int32) → (Nat → Int32) → (Nat → Int32) → (Nat → Int32) → (Nat → Int32) → (Nat → Int32) → (Nat → Int32) → (Nat → Int32) → Option TM} {on ot : Nat → Int32} {lb : Int32} (ho : OT on ot) (hK : ∀ v m a b fr to w d ab p n l t, (∀ i, bit v i = true → bit lb i = true) → FT fr to → Ok (K v m a b fr to w d ab p n l t) P) : ∀ (n k : Nat) (v m : Int32) (a b fr to w d ab p nx l t : Nat → Int32), (∀ i, bit v i = true → bit lb i = true) → FT fr to → Ok (F_patternNowM_L17 K on ot n k v m a b fr to w d ab p nx l t) P
  | 0, k, v, m, a, b, fr, to, w, d, ab, p, nx, l, t, hs, h1 => by rw [F_patternNowM_L17]; exact hK _ _ _ _ _ _ _ _ _ _ _ _ _ hs h1
  | n + 1, k, v, m, a, b, fr, to, w, d, ab, p, nx, l, t, hs, h1 => by
    rw [F_patternNowM_L17]
    refine ok_bind (Q := fun (J : TM) => (∀ i, bit J.1 i = true → bit lb i = true) ∧ FT J.2.2.2.2.1 J.2.2.2.2.2.1) (ok_if (fun _ => ?_) (fun _ => ok_some ⟨hs, h1⟩)) (fun J hJ => pat_L ho hK n (k + 1) _ _ _ _ _ _ _ _ _ _ _ _ _ hJ.1 hJ.2)
    exact ok_bind (isDrawable_tot ho h1) (fun q hq => ok_if (fun _ => ok_some ⟨fun i hi => hs i (and_sub i hi), hq.2⟩) (fun _ => ok_some ⟨hs, hq.2⟩))
theorem patNow_tot {on ot ma mb fr to way dep abo pile nxt ld tu : Nat → Int32} {lb : Int32} (hb : F_lineBitsM on = some lb) (ho : OT on ot) (h1 : FT fr to) : Ok (F_patternNowM on ot ma mb fr to way dep abo pile nxt ld tu) (fun R => (∀ i, bit R.1 i = true → bit lb i = true) ∧ FT R.2.2.2.2.1 R.2.2.2.2.2.1) := by
  unfold F_patternNowM
  rw [hb, Option.bind_some]
  exact ok_bind (isDrawable_tot ho h1) (fun q hq => ok_if (fun _ => pat_L ho (fun v m a b fr to w d ab p n l t hs h2 => ok_some ⟨hs, h2⟩) 24 0 _ _ _ _ _ _ _ _ _ _ _ _ _ (fun i hi => hi) hq.2) (fun _ => ok_some ⟨fun i hi => by rw [bit_zero] at hi; exact absurd hi (by decide), hq.2⟩))
def at_ (on ot : Nat → Int32) (v w : Int32) (l : Nat) : Bool := bit v l && (decide (on l = w) || decide (ot l = w))
theorem deg_L {K : Int32 → Option Int32} {on ot : Nat → Int32} {v w : Int32} : ∀ (n k c : Nat), k + n = 24 → F_degreeInM_L5 K on ot v w n k (nI c) = K (nI (c + cf (at_ on ot v w) n k))
  | 0, k, c, _ => by rw [F_degreeInM_L5, cf, Nat.add_zero]
  | n + 1, k, c, h => by
    have ih := fun c => deg_L (K := K) (on := on) (ot := ot) (v := v) (w := w) n (k + 1) c (by omega)
    have e : (if ((v >>> ((nI k) &&& 31)) &&& 1) = 1 then (if on k = w then (nI c + 1) else (if ot k = w then (nI c + 1) else (nI c))) else (nI c)) = nI (c + (if at_ on ot v w k = true then 1 else 0)) := by
      by_cases hb : bit v k = true
      · rw [if_pos ((bit1_iff (by omega)).mpr hb)]
        by_cases h1 : on k = w
        · rw [if_pos h1, nI_add1, if_pos (by unfold at_; rw [hb, decide_eq_true h1]; rfl)]
        · rw [if_neg h1]
          by_cases h2 : ot k = w
          · rw [if_pos h2, nI_add1, if_pos (by unfold at_; rw [hb, decide_eq_true h2, Bool.or_true]; rfl)]
          · rw [if_neg h2, if_neg (by unfold at_; rw [decide_eq_false h1, decide_eq_false h2]; simp), Nat.add_zero]
      · rw [if_neg (fun h9 => hb ((bit1_iff (by omega)).mp h9)), if_neg (by unfold at_; simp [hb]), Nat.add_zero]
    rw [F_degreeInM_L5, cf]
    show F_degreeInM_L5 K on ot v w n (k + 1) _ = _
    rw [e, ih, Nat.add_assoc]
theorem deg_eq (on ot : Nat → Int32) (v w : Int32) : F_degreeInM on ot v w = some (nI (cf (at_ on ot v w) 24 0)) := by
  unfold F_degreeInM
  have := deg_L (K := fun r => some r) (on := on) (ot := ot) (v := v) (w := w) 24 0 0 rfl
  rw [Nat.zero_add] at this
  exact this
theorem cc_L {K : Int32 → Option Int32} {on ot : Nat → Int32} {v : Int32} : ∀ (n k c : Nat), F_countCornersM_L4 K on ot v n k (nI c) = K (nI (c + cf (fun i => decide (2 < cf (at_ on ot v (nI i)) 24 0)) n k))
  | 0, k, c => by rw [F_countCornersM_L4, cf, Nat.add_zero]
  | n + 1, k, c => by
    have hle := cf_le (p := at_ on ot v (nI k)) 24 0
    have hcf : cf (fun i => decide (2 < cf (at_ on ot v (nI i)) 24 0)) (n + 1) k = (if decide (2 < cf (at_ on ot v (nI k)) 24 0) = true then 1 else 0) + cf (fun i => decide (2 < cf (at_ on ot v (nI i)) 24 0)) n (k + 1) := rfl
    rw [F_countCornersM_L4, deg_eq, Option.bind_some, hcf]
    by_cases h : 2 < cf (at_ on ot v (nI k)) 24 0
    · rw [if_neg (fun h9 => by
        have h9 : nI (cf (at_ on ot v (nI k)) 24 0) ≤ nI 2 := h9
        rw [nLe (by omega) (by decide)] at h9; omega), nI_add1, cc_L, decide_eq_true h, if_pos rfl, Nat.add_assoc]
    · rw [if_pos (show nI (cf (at_ on ot v (nI k)) 24 0) ≤ 2 from (nLe (b := 2) (by omega) (by decide)).mpr (by omega)), cc_L, decide_eq_false h, if_neg (by decide), Nat.zero_add]
theorem cc_eq (on ot : Nat → Int32) (v : Int32) : F_countCornersM on ot v = some (nI (cf (fun i => decide (2 < cf (at_ on ot v (nI i)) 24 0)) 10 0)) := by
  unfold F_countCornersM
  have := cc_L (K := fun r => some r) (on := on) (ot := ot) (v := v) 10 0 0
  rw [Nat.zero_add] at this
  exact this
theorem cf_pos {p : Nat → Bool} : ∀ (n k : Nat), 0 < cf p n k → ∃ i, k ≤ i ∧ i < k + n ∧ p i = true
  | 0, k, h => absurd h (by rw [cf]; decide)
  | n + 1, k, h => by
    by_cases hp : p k = true
    · exact ⟨k, Nat.le_refl _, by omega, hp⟩
    · rw [cf, if_neg hp, Nat.zero_add] at h
      obtain ⟨i, h1, h2, h3⟩ := cf_pos n (k + 1) h
      exact ⟨i, by omega, by omega, h3⟩
theorem cf_has {p : Nat → Bool} {i : Nat} (hp : p i = true) : ∀ (n k : Nat), k ≤ i → i < k + n → 0 < cf p n k := by
  intro n k h1 h2
  have := cf_clear (p := p) (q := fun j => p j && !decide (j = i)) (i := i) hp (by simp) (fun j hj => by simp [hj]) n k h1 h2
  omega
def LSet (on ot : Nat → Int32) (v : Int32) : Prop := (∀ l, 24 ≤ l → bit v l = false) ∧ ∀ l, bit v l = true → ∃ a b : Nat, a < 10 ∧ b < 10 ∧ a ≠ b ∧ on l = nI a ∧ ot l = nI b
theorem behind50_L {K : Int32 → Option Int32} {on ot : Nat → Int32} {v li w : Int32} : ∀ (n k : Nat) (x : Int32), k + n = 24 → ∃ y, F_cornerBehindM_L50 K on ot v li w n k x = K y ∧ ((y = x ∧ ∀ j, k ≤ j → j < 24 → ¬ (nI j ≠ li ∧ at_ on ot v w j = true)) ∨ ∃ j, k ≤ j ∧ j < 24 ∧ y = nI j ∧ nI j ≠ li ∧ at_ on ot v w j = true)
  | 0, k, x, h => ⟨x, by rw [F_cornerBehindM_L50], Or.inl ⟨rfl, fun j h1 h2 => by omega⟩⟩
  | n + 1, k, x, h => by
    have go : ∀ z, ((z = x ∧ ¬ (nI k ≠ li ∧ at_ on ot v w k = true)) ∨ (z = nI k ∧ nI k ≠ li ∧ at_ on ot v w k = true)) → ∃ y, F_cornerBehindM_L50 K on ot v li w n (k + 1) z = K y ∧ ((y = x ∧ ∀ j, k ≤ j → j < 24 → ¬ (nI j ≠ li ∧ at_ on ot v w j = true)) ∨ ∃ j, k ≤ j ∧ j < 24 ∧ y = nI j ∧ nI j ≠ li ∧ at_ on ot v w j = true) := by
      intro z hz
      obtain ⟨y, e, hy⟩ := behind50_L (K := K) (on := on) (ot := ot) (v := v) (li := li) (w := w) n (k + 1) z (by omega)
      refine ⟨y, e, ?_⟩
      rcases hy with ⟨e2, hn⟩ | ⟨j, q1, q2, q3⟩
      · rcases hz with ⟨rfl, hz⟩ | ⟨rfl, hz⟩
        · refine Or.inl ⟨e2, fun j h1 h2 => ?_⟩
          by_cases c : j = k
          · rw [c]; exact hz
          · exact hn j (by omega) h2
        · exact Or.inr ⟨k, Nat.le_refl _, by omega, e2, hz⟩
      · exact Or.inr ⟨j, by omega, q2, q3⟩
    rw [F_cornerBehindM_L50]
    show ∃ y, F_cornerBehindM_L50 K on ot v li w n (k + 1) _ = K y ∧ _
    apply go
    by_cases h1 : nI k = li
    · rw [if_pos h1]; exact Or.inl ⟨rfl, fun h9 => h9.1 h1⟩
    · rw [if_neg h1]
      by_cases hb : bit v k = true
      · rw [if_pos ((bit1_iff (by omega)).mpr hb)]
        by_cases h2 : on k = w
        · rw [if_pos h2]; exact Or.inr ⟨rfl, h1, by unfold at_; rw [hb, decide_eq_true h2]; rfl⟩
        · rw [if_neg h2]
          by_cases h3 : ot k = w
          · rw [if_pos h3]; exact Or.inr ⟨rfl, h1, by unfold at_; rw [hb, decide_eq_true h3, Bool.or_true]; rfl⟩
          · rw [if_neg h3]; exact Or.inl ⟨rfl, fun h9 => by unfold at_ at h9; rw [decide_eq_false h2, decide_eq_false h3] at h9; simp at h9⟩
      · rw [if_neg (fun h9 => hb ((bit1_iff (by omega)).mp h9))]; exact Or.inl ⟨rfl, fun h9 => by unfold at_ at h9; simp [hb] at h9⟩
theorem at_lt {on ot : Nat → Int32} {v w : Int32} (hv : LSet on ot v) {l : Nat} (h : at_ on ot v w l = true) : l < 24 ∧ bit v l = true := by
  unfold at_ at h
  have hb : bit v l = true := by
    cases hb : bit v l with
    | true => rfl
    | false => rw [hb] at h; simp at h
  refine ⟨?_, hb⟩
  apply Classical.byContradiction
  intro h9
  rw [hv.1 l (by omega)] at hb
  exact absurd hb (by decide)
theorem two_only {p : Nat → Bool} (h : cf p 24 0 = 2) {l m : Nat} (hl : l < 24) (hm : m < 24) (hpl : p l = true) (hpm : p m = true) (hlm : l ≠ m) {k : Nat} (hk : k < 24) (hpk : p k = true) : k = l ∨ k = m := by
  apply Classical.byContradiction
  intro h9
  have e1 := cf_clear (p := p) (q := fun j => p j && !decide (j = l)) (i := l) hpl (by simp) (fun j hj => by simp [hj]) 24 0 (Nat.zero_le _) (by omega)
  have e2 := cf_clear (p := fun j => p j && !decide (j = l)) (q := fun j => p j && !decide (j = l) && !decide (j = m)) (i := m) (by simp [hpm, Ne.symm hlm]) (by simp) (fun j hj => by simp [hj]) 24 0 (Nat.zero_le _) (by omega)
  have e3 := cf_has (p := fun j => p j && !decide (j = l) && !decide (j = m)) (i := k) (by
    have a : k ≠ l := fun e => h9 (Or.inl e)
    have b : k ≠ m := fun e => h9 (Or.inr e)
    simp [hpk, a, b]) 24 0 (Nat.zero_le _) (by omega)
  omega
theorem another {p : Nat → Bool} (h : cf p 24 0 = 2) {l : Nat} (hl : l < 24) (hpl : p l = true) : ∃ m, m < 24 ∧ p m = true ∧ m ≠ l := by
  have e1 := cf_clear (p := p) (q := fun j => p j && !decide (j = l)) (i := l) hpl (by simp) (fun j hj => by simp [hj]) 24 0 (Nat.zero_le _) (by omega)
  obtain ⟨m, _, h2, h3⟩ := cf_pos (p := fun j => p j && !decide (j = l)) 24 0 (by omega)
  have h3 : p m = true ∧ m ≠ l := by simpa using h3
  exact ⟨m, by omega, h3.1, h3.2⟩
theorem other_end {on ot : Nat → Int32} {v : Int32} (hv : LSet on ot v) {l w : Nat} (hw : w < 10) (h : at_ on ot v (nI w) l = true) : ∃ u : Nat, u < 10 ∧ u ≠ w ∧ (if on l = nI w then ot l else on l) = nI u ∧ at_ on ot v (nI u) l = true ∧ ∀ x : Nat, x < 10 → at_ on ot v (nI x) l = true → x = w ∨ x = u := by
  obtain ⟨_, hb⟩ := at_lt hv h
  obtain ⟨a, b, ha, hbb, hab, e1, e2⟩ := hv.2 l hb
  have key : ∀ x : Nat, x < 10 → (at_ on ot v (nI x) l = true ↔ x = a ∨ x = b) := fun x hx => by
    unfold at_
    rw [hb, e1, e2]
    simp only [Bool.true_and, Bool.or_eq_true, decide_eq_true_eq]
    rw [nI_eq_iff (by omega) (by omega), nI_eq_iff (by omega) (by omega)]
    constructor
    · rintro (h | h)
      · exact Or.inl h.symm
      · exact Or.inr h.symm
    · rintro (h | h)
      · exact Or.inl h.symm
      · exact Or.inr h.symm
  rcases (key w hw).mp h with rfl | rfl
  · exact ⟨b, hbb, fun e => hab e.symm, by rw [if_pos e1, e2], (key b hbb).mpr (Or.inr rfl), fun x hx h9 => (key x hx).mp h9⟩
  · exact ⟨a, ha, hab, by rw [if_neg (by rw [e1, nI_eq_iff (by omega) (by omega)]; exact hab), e1], (key a ha).mpr (Or.inl rfl), fun x hx h9 => ((key x hx).mp h9).symm⟩
theorem behind33_L {on ot : Nat → Int32} {v : Int32} (hv : LSet on ot v) {co : Nat} (hco : co < 10) (hc3 : cf (at_ on ot v (nI co)) 24 0 ≠ 2) : ∀ (f l w : Nat) (tr : Nat → Bool) (In : Nat → Bool), w < 10 → at_ on ot v (nI w) l = true → tr l = true →
    (∀ k, bit v k = true → tr k = true → k ≠ l → ∀ x, x < 10 → at_ on ot v (nI x) k = true → In x = true ∨ x = co) → (∀ x, x < 10 → x ≠ w → at_ on ot v (nI x) l = true → In x = true ∨ x = co) →
    (∀ x, x < 10 → In x = true → ∀ k, at_ on ot v (nI x) k = true → tr k = true) → In w = false → cf (fun k => bit v k && !tr k) 24 0 < f →
    Ok (F_cornerBehindM_L33 (fun _ y => some y) on ot v f (nI l) (nI w)) (fun r => ∃ u : Nat, u < 10 ∧ r = nI u) := by
  intro f
  induction f with
  | zero => intro l w tr In _ _ _ _ _ _ _ hf; exact absurd hf (Nat.not_lt_zero _)
  | succ f ihf =>
    intro l w tr In hw hlw htl h1 h2 h3 h4 hf
    have hl24 := (at_lt hv hlw).1
    rw [F_cornerBehindM_L33, deg_eq, Option.bind_some]
    refine ok_if (fun hd => ?_) (fun _ => ok_some ⟨w, hw, rfl⟩)
    have hle := cf_le (p := at_ on ot v (nI w)) 24 0
    have hd : nI (cf (at_ on ot v (nI w)) 24 0) = nI 2 := hd
    rw [nI_eq_iff (by omega) (by decide)] at hd
    have hwc : w ≠ co := fun e => hc3 (by rw [← e]; exact hd)
    obtain ⟨y, e, hy⟩ := behind50_L (K := fun v6_50 => (if inb v6_50 24 = true then (if (on (Int32.toNatClampNeg v6_50)) = (nI w) then (F_cornerBehindM_L33 (fun _ y => some y) on ot v f v6_50 (ot (Int32.toNatClampNeg v6_50))) else (F_cornerBehindM_L33 (fun _ y => some y) on ot v f v6_50 (on (Int32.toNatClampNeg v6_50)))) else none)) (on := on) (ot := ot) (v := v) (li := nI l) (w := nI w) 24 0 (-1) rfl
    rw [e]
    obtain ⟨m, hm, hmw, rfl, hml⟩ : ∃ m : Nat, m < 24 ∧ at_ on ot v (nI w) m = true ∧ y = nI m ∧ m ≠ l := by
      rcases hy with ⟨_, hn⟩ | ⟨j, _, q2, q3, q4, q5⟩
      · obtain ⟨m, hm, hmw, hml⟩ := another hd hl24 hlw
        exact absurd ⟨fun e9 => hml ((nI_eq_iff (by omega) (by omega)).mp e9), hmw⟩ (hn m (Nat.zero_le _) hm)
      · exact ⟨j, q2, q5, q3, fun e9 => q4 (by rw [e9])⟩
    refine ok_th (inb_nI hm (by decide)) ?_
    rw [nI_clamp (by omega)]
    obtain ⟨u, hu, huw, eu, hum, huo⟩ := other_end hv hw hmw
    have hbm := (at_lt hv hmw).2
    have hfr : tr m = false := by
      cases ht : tr m with
      | false => rfl
      | true =>
        rcases h1 m hbm ht hml w hw hmw with q | q
        · rw [h4] at q; exact absurd q (by decide)
        · exact absurd q hwc
    have ih := ihf m u (fun k => tr k || decide (k = m)) (fun x => In x || decide (x = w)) hu hum (by simp) (fun k hk ht hkm x hx hxk => by
        have ht : tr k = true := by simpa [hkm] using ht
        by_cases ekl : k = l
        · subst ekl
          by_cases ex : x = w
          · exact Or.inl (by simp [ex])
          · rcases h2 x hx ex hxk with q | q
            · exact Or.inl (by simp [q])
            · exact Or.inr q
        · rcases h1 k hk ht ekl x hx hxk with q | q
          · exact Or.inl (by simp [q])
          · exact Or.inr q) (fun x hx hxu hxm => by
        rcases huo x hx hxm with q | q
        · exact Or.inl (by simp [q])
        · exact absurd q hxu) (fun x hx hin k hk => by
        by_cases ex : x = w
        · subst ex
          rcases two_only hd hl24 hm hlw hmw (Ne.symm hml) (at_lt hv hk).1 hk with q | q
          · rw [q]; simp [htl]
          · rw [q]; simp
        · have hin : In x = true := by simpa [ex] using hin
          have := h3 x hx hin k hk
          simp [this]) (by
        have q1 : In u = false := by
          cases hi : In u with
          | false => rfl
          | true => rw [h3 u hu hi m hum] at hfr; exact absurd hfr (by decide)
        simp [q1, huw]) (by
        have := cf_clear (p := fun k => bit v k && !tr k) (q := fun k => bit v k && !(tr k || decide (k = m))) (i := m) (by simp [hbm, hfr]) (by simp) (fun j hj => by simp [hj]) 24 0 (Nat.zero_le _) (by omega)
        omega)
    refine ok_if (fun c => ?_) (fun c => ?_)
    · rw [if_pos c] at eu; rw [eu]; exact ih
    · rw [if_neg c] at eu; rw [eu]; exact ih
theorem behind_tot {on ot : Nat → Int32} {v : Int32} (hv : LSet on ot v) {co : Nat} (hco : co < 10) (hc3 : cf (at_ on ot v (nI co)) 24 0 ≠ 2) {l : Nat} (hl : at_ on ot v (nI co) l = true) : Ok (F_cornerBehindM on ot v (nI co) (nI l)) (fun r => ∃ u : Nat, u < 10 ∧ r = nI u) := by
  have hl24 := (at_lt hv hl).1
  unfold F_cornerBehindM
  refine ok_th (inb_nI hl24 (by decide)) ?_
  rw [nI_clamp (by omega)]
  obtain ⟨u, hu, huw, eu, hum, huo⟩ := other_end hv hco hl
  show Ok (F_cornerBehindM_L33 _ on ot v 64 (nI l) (if on l = nI co then ot l else on l)) _
  rw [eu]
  have hle := cf_le (p := fun k => bit v k && !(decide (k = l))) 24 0
  exact behind33_L hv hco hc3 64 l u (fun k => decide (k = l)) (fun _ => false) hu hum (by simp) (fun k _ ht hkl => absurd (by simpa using ht) hkl) (fun x hx hxu hxl => by
    rcases huo x hx hxl with q | q
    · exact Or.inr q
    · exact absurd q hxu) (fun x _ h => absurd h (by decide)) rfl (by omega)
theorem opp23_L {on ot : Nat → Int32} {v : Int32} (hv : LSet on ot v) {co : Nat} (hco : co < 10) (hc3 : cf (at_ on ot v (nI co)) 24 0 ≠ 2) : ∀ (n k : Nat) (x : Int32), k + n = 24 → Ok (F_oppositeM_L23 (fun r => some r) on ot v (nI co) n k x) (fun _ => True)
  | 0, k, x, _ => by rw [F_oppositeM_L23]; exact ok_some trivial
  | n + 1, k, x, h => by
    rw [F_oppositeM_L23]
    refine ok_bind (Q := fun _ => True) (ok_if (fun hb => ?_) (fun _ => ok_some trivial)) (fun y _ => opp23_L hv hco hc3 n (k + 1) y (by omega))
    rw [bit1_iff (by omega)] at hb
    refine ok_if (fun h1 => ?_) (fun h1 => ok_if (fun h2 => ?_) (fun _ => ok_some trivial))
    · exact ok_bind (behind_tot hv hco hc3 (by unfold at_; rw [hb, decide_eq_true h1]; rfl)) (fun _ _ => ok_some trivial)
    · exact ok_bind (behind_tot hv hco hc3 (by unfold at_; rw [hb, decide_eq_true h2, Bool.or_true]; rfl)) (fun _ _ => ok_some trivial)
theorem opp2_L {on ot : Nat → Int32} {v : Int32} (hv : LSet on ot v) {c : Nat} (hc : c < 10) (hcc : 2 < cf (at_ on ot v (nI c)) 24 0) : ∀ (f i : Nat), i ≤ c → c < i + f → Ok (F_oppositeM_L2 (fun v2_2 => (F_oppositeM_L23 (fun v3_23 => some (v3_23)) on ot v v2_2 24 0 ((0 : Int32)))) on ot v f (nI i)) (fun _ => True)
  | 0, i, h1, h2 => by omega
  | f + 1, i, h1, h2 => by
    have hle := cf_le (p := at_ on ot v (nI i)) 24 0
    rw [F_oppositeM_L2, deg_eq, Option.bind_some]
    refine ok_if (fun h => ?_) (fun h => ?_)
    · have h : nI 3 ≤ nI (cf (at_ on ot v (nI i)) 24 0) := h
      rw [nLe (by decide) (by omega)] at h
      exact opp23_L hv (by omega) (by omega) 24 0 0 rfl
    · have h : ¬ nI 3 ≤ nI (cf (at_ on ot v (nI i)) 24 0) := h
      rw [nLe (by decide) (by omega)] at h
      have : i ≠ c := fun e => by rw [e] at h; omega
      rw [nI_add1]
      exact opp2_L hv hc hcc f (i + 1) (by omega) (by omega)
theorem opp_tot {on ot : Nat → Int32} {v : Int32} (hv : LSet on ot v) (h : 0 < cf (fun i => decide (2 < cf (at_ on ot v (nI i)) 24 0)) 10 0) : Ok (F_oppositeM on ot v) (fun _ => True) := by
  obtain ⟨c, _, h2, h3⟩ := cf_pos _ _ h
  exact opp2_L hv (show c < 10 by omega) (by simpa using h3) 64 0 (Nat.zero_le _) (by omega)
